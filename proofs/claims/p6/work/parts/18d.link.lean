/-- a call by the entry ix of the class own: kind, method, parameters, locals, class -/
def Cal (own : String) (ix kind mj np nL : Nat) (C : String) : Prop := (∃ (o : String) (i ps : Nat), mm_C own ix = some (o, i, kind, mj, ps)) ∧ ∃ mf : mm_Me, mm_all[mj]? = some mf ∧ mf.2.2.2.2.2.2.1 = np ∧ mf.2.2.2.1 = nL ∧ mf.1 = C
theorem f_RX2_9 : mm_F RX2 9 = some (RX2, 9, false, 1, 0, 214) := by decide +kernel
theorem f_RX2_13 : mm_F RX2 13 = some (RX2, 13, false, 1, 1, 215) := by decide +kernel
theorem f_RX5_40 : mm_F RX5 40 = some (RX5, 40, true, 1, 1, 216) := by decide +kernel
theorem f_RX3_11 : mm_F RX3 11 = some (RX3, 11, false, 2, 0, 229) := by decide +kernel
theorem f_RX3_15 : mm_F RX3 15 = some (RX3, 15, false, 2, 1, 230) := by decide +kernel
theorem f_RX3_18 : mm_F RX3 18 = some (RX3, 18, false, 2, 2, 231) := by decide +kernel
theorem f_RX3_21 : mm_F RX3 21 = some (RX3, 21, false, 2, 3, 232) := by decide +kernel
theorem f_RX3_24 : mm_F RX3 24 = some (RX3, 24, false, 2, 4, 233) := by decide +kernel
theorem f_RX3_27 : mm_F RX3 27 = some (RX3, 27, false, 2, 5, 234) := by decide +kernel
theorem f_RX3_30 : mm_F RX3 30 = some (RX3, 30, false, 2, 6, 235) := by decide +kernel
theorem f_RX3_34 : mm_F RX3 34 = some (RX3, 34, false, 2, 7, 236) := by decide +kernel
theorem f_RX5_63 : mm_F RX5 63 = some (RX5, 63, true, 2, 7, 237) := by decide +kernel
theorem f_RX5_10 : mm_F RX5 10 = some (RX5, 10, false, 3, 0, 256) := by decide +kernel
theorem f_RX5_19 : mm_F RX5 19 = some (RX5, 19, false, 3, 1, 257) := by decide +kernel
theorem f_RX1_11 : mm_F RX1 11 = some (RX1, 11, false, 0, 0, 311) := by decide +kernel
theorem f_RX1_17 : mm_F RX1 17 = some (RX1, 17, false, 0, 1, 312) := by decide +kernel
theorem f_RX1_21 : mm_F RX1 21 = some (RX1, 21, false, 0, 2, 313) := by decide +kernel
theorem f_RX1_289 : mm_F RX1 289 = some (RX1, 289, false, 0, 3, 314) := by decide +kernel
theorem f_RX1_43 : mm_F RX1 43 = some (RX1, 43, false, 0, 4, 315) := by decide +kernel
theorem f_RX5_57 : mm_F RX5 57 = some (RX5, 57, true, 0, 4, 316) := by decide +kernel
theorem f_RX1_33 : mm_F RX1 33 = some (RX1, 33, false, 0, 5, 317) := by decide +kernel
theorem f_RX1_57 : mm_F RX1 57 = some (RX1, 57, false, 0, 6, 318) := by decide +kernel
theorem f_RX1_119 : mm_F RX1 119 = some (RX1, 119, false, 0, 7, 319) := by decide +kernel
theorem f_RX1_25 : mm_F RX1 25 = some (RX1, 25, false, 0, 8, 320) := by decide +kernel
theorem f_RX6_64 : mm_F RX6 64 = some (RX6, 64, false, 4, 0, 864) := by decide +kernel
theorem f_RX6_72 : mm_F RX6 72 = some (RX6, 72, false, 4, 1, 865) := by decide +kernel
theorem f_RX6_7 : mm_F RX6 7 = some (RX6, 7, false, 4, 2, 866) := by decide +kernel
theorem f_RX6_93 : mm_F RX6 93 = some (RX6, 93, false, 4, 3, 867) := by decide +kernel
theorem f_RX6_366 : mm_F RX6 366 = some (RX6, 366, false, 4, 4, 868) := by decide +kernel
theorem f_RX6_14 : mm_F RX6 14 = some (RX6, 14, false, 4, 5, 869) := by decide +kernel
theorem f_RX6_18 : mm_F RX6 18 = some (RX6, 18, false, 4, 6, 870) := by decide +kernel
theorem f_RX6_21 : mm_F RX6 21 = some (RX6, 21, false, 4, 7, 871) := by decide +kernel
theorem f_RX6_24 : mm_F RX6 24 = some (RX6, 24, false, 4, 8, 872) := by decide +kernel
theorem f_RX6_27 : mm_F RX6 27 = some (RX6, 27, false, 4, 9, 873) := by decide +kernel
theorem f_RX6_30 : mm_F RX6 30 = some (RX6, 30, false, 4, 10, 874) := by decide +kernel
theorem f_RX6_33 : mm_F RX6 33 = some (RX6, 33, false, 4, 11, 875) := by decide +kernel
theorem f_RX6_36 : mm_F RX6 36 = some (RX6, 36, false, 4, 12, 876) := by decide +kernel
theorem f_RX6_39 : mm_F RX6 39 = some (RX6, 39, false, 4, 13, 877) := by decide +kernel
theorem f_RX6_96 : mm_F RX6 96 = some (RX6, 96, false, 4, 14, 878) := by decide +kernel
theorem f_RX6_42 : mm_F RX6 42 = some (RX6, 42, false, 4, 15, 879) := by decide +kernel
theorem f_RX6_45 : mm_F RX6 45 = some (RX6, 45, false, 4, 16, 880) := by decide +kernel
theorem f_RX6_48 : mm_F RX6 48 = some (RX6, 48, false, 4, 17, 881) := by decide +kernel
theorem f_RX6_77 : mm_F RX6 77 = some (RX6, 77, false, 4, 18, 882) := by decide +kernel
theorem f_RX6_90 : mm_F RX6 90 = some (RX6, 90, false, 4, 19, 883) := by decide +kernel
theorem f_RX6_80 : mm_F RX6 80 = some (RX6, 80, false, 4, 20, 884) := by decide +kernel
theorem f_RX6_156 : mm_F RX6 156 = some (RX6, 156, false, 4, 21, 885) := by decide +kernel
theorem f_RX6_51 : mm_F RX6 51 = some (RX6, 51, false, 4, 22, 886) := by decide +kernel
theorem f_RX6_55 : mm_F RX6 55 = some (RX6, 55, false, 4, 23, 887) := by decide +kernel
theorem f_RX6_58 : mm_F RX6 58 = some (RX6, 58, false, 4, 24, 888) := by decide +kernel
theorem f_RX6_61 : mm_F RX6 61 = some (RX6, 61, false, 4, 25, 889) := by decide +kernel
theorem c_RL_18 : Cal RL 18 4 0 0 1 RX5 := ⟨⟨_, _, _, (by decide +kernel : mm_C RL 18 = some (RL, 18, 4, 0, 202))⟩, _, rfl, rfl, rfl, rfl⟩
theorem c_RX5_1 : mm_C RX5 1 = some (RX5, 1, 10, 0, 205) := by decide +kernel
theorem c_RX5_9 : Cal RX5 9 5 1 0 1 RX2 := ⟨⟨_, _, _, (by decide +kernel : mm_C RX5 9 = some (RX5, 9, 5, 1, 210))⟩, _, rfl, rfl, rfl, rfl⟩
theorem c_RX2_1 : mm_C RX2 1 = some (RX2, 1, 10, 0, 213) := by decide +kernel
theorem c_RX5_18 : Cal RX5 18 5 2 0 1 RX3 := ⟨⟨_, _, _, (by decide +kernel : mm_C RX5 18 = some (RX5, 18, 5, 2, 225))⟩, _, rfl, rfl, rfl, rfl⟩
theorem c_RX3_3 : mm_C RX3 3 = some (RX3, 3, 10, 0, 228) := by decide +kernel
theorem c_RL_22 : Cal RL 22 0 3 1 2 RX5 := ⟨⟨_, _, _, (by decide +kernel : mm_C RL 22 = some (RL, 22, 0, 3, 263))⟩, _, rfl, rfl, rfl, rfl⟩
theorem c_RX5_23 : Cal RX5 23 3 4 1 1 RX0 := ⟨⟨_, _, _, (by decide +kernel : mm_C RX5 23 = some (RX5, 23, 3, 4, 267))⟩, _, rfl, rfl, rfl, rfl⟩
theorem c_RX5_29 : Cal RX5 29 1 5 1 2 RX2 := ⟨⟨_, _, _, (by decide +kernel : mm_C RX5 29 = some (RX5, 29, 1, 5, 270))⟩, _, rfl, rfl, rfl, rfl⟩
theorem c_RX5_32 : Cal RX5 32 1 6 1 2 RX2 := ⟨⟨_, _, _, (by decide +kernel : mm_C RX5 32 = some (RX5, 32, 1, 6, 274))⟩, _, rfl, rfl, rfl, rfl⟩
theorem c_RL_29 : Cal RL 29 0 7 1 6 RX5 := ⟨⟨_, _, _, (by decide +kernel : mm_C RL 29 = some (RL, 29, 0, 7, 278))⟩, _, rfl, rfl, rfl, rfl⟩
theorem c_RX5_36 : Cal RX5 36 2 8 2 3 RX5 := ⟨⟨_, _, _, (by decide +kernel : mm_C RX5 36 = some (RX5, 36, 2, 8, 282))⟩, _, rfl, rfl, rfl, rfl⟩
theorem c_RL_34 : Cal RL 34 8 9 0 4 RX5 := ⟨⟨_, _, _, (by decide +kernel : mm_C RL 34 = some (RL, 34, 8, 9, 285))⟩, _, rfl, rfl, rfl, rfl⟩
theorem c_RX5_44 : Cal RX5 44 1 10 1 3 RX3 := ⟨⟨_, _, _, (by decide +kernel : mm_C RX5 44 = some (RX5, 44, 1, 10, 290))⟩, _, rfl, rfl, rfl, rfl⟩
theorem c_RX3_37 : mm_C RX3 37 = some (RX3, 37, 11, 0, 294) := by decide +kernel
theorem c_RX3_43 : Cal RX3 43 0 11 1 2 RX3 := ⟨⟨_, _, _, (by decide +kernel : mm_C RX3 43 = some (RX3, 43, 0, 11, 297))⟩, _, rfl, rfl, rfl, rfl⟩
theorem c_RX5_49 : Cal RX5 49 5 12 2 3 RX1 := ⟨⟨_, _, _, (by decide +kernel : mm_C RX5 49 = some (RX5, 49, 5, 12, 303))⟩, _, rfl, rfl, rfl, rfl⟩
theorem c_RX1_5 : mm_C RX1 5 = some (RX1, 5, 10, 0, 306) := by decide +kernel
theorem c_RX1_29 : Cal RX1 29 1 13 1 2 RX2 := ⟨⟨_, _, _, (by decide +kernel : mm_C RX1 29 = some (RX1, 29, 1, 13, 307))⟩, _, rfl, rfl, rfl, rfl⟩
theorem c_RX5_52 : Cal RX5 52 1 14 0 3 RX1 := ⟨⟨_, _, _, (by decide +kernel : mm_C RX5 52 = some (RX5, 52, 1, 14, 340))⟩, _, rfl, rfl, rfl, rfl⟩
theorem c_RX1_63 : Cal RX1 63 0 15 1 2 RX1 := ⟨⟨_, _, _, (by decide +kernel : mm_C RX1 63 = some (RX1, 63, 0, 15, 344))⟩, _, rfl, rfl, rfl, rfl⟩
theorem c_RX1_46 : Cal RX1 46 0 16 1 2 RX1 := ⟨⟨_, _, _, (by decide +kernel : mm_C RX1 46 = some (RX1, 46, 0, 16, 348))⟩, _, rfl, rfl, rfl, rfl⟩
theorem c_RX1_54 : Cal RX1 54 0 17 0 1 RX1 := ⟨⟨_, _, _, (by decide +kernel : mm_C RX1 54 = some (RX1, 54, 0, 17, 352))⟩, _, rfl, rfl, rfl, rfl⟩
theorem c_RX1_50 : Cal RX1 50 0 18 0 2 RX1 := ⟨⟨_, _, _, (by decide +kernel : mm_C RX1 50 = some (RX1, 50, 0, 18, 422))⟩, _, rfl, rfl, rfl, rfl⟩
theorem c_RX1_79 : Cal RX1 79 0 19 0 1 RX1 := ⟨⟨_, _, _, (by decide +kernel : mm_C RX1 79 = some (RX1, 79, 0, 19, 426))⟩, _, rfl, rfl, rfl, rfl⟩
theorem c_RX1_69 : Cal RX1 69 1 20 3 7 RX3 := ⟨⟨_, _, _, (by decide +kernel : mm_C RX1 69 = some (RX1, 69, 1, 20, 430))⟩, _, rfl, rfl, rfl, rfl⟩
theorem c_RX3_47 : Cal RX3 47 0 21 1 2 RX3 := ⟨⟨_, _, _, (by decide +kernel : mm_C RX3 47 = some (RX3, 47, 0, 21, 434))⟩, _, rfl, rfl, rfl, rfl⟩
theorem c_RX1_82 : Cal RX1 82 0 22 0 3 RX1 := ⟨⟨_, _, _, (by decide +kernel : mm_C RX1 82 = some (RX1, 82, 0, 22, 438))⟩, _, rfl, rfl, rfl, rfl⟩
theorem c_RX1_91 : Cal RX1 91 0 23 0 3 RX1 := ⟨⟨_, _, _, (by decide +kernel : mm_C RX1 91 = some (RX1, 91, 0, 23, 442))⟩, _, rfl, rfl, rfl, rfl⟩
theorem c_RX1_100 : Cal RX1 100 0 24 1 2 RX1 := ⟨⟨_, _, _, (by decide +kernel : mm_C RX1 100 = some (RX1, 100, 0, 24, 446))⟩, _, rfl, rfl, rfl, rfl⟩
theorem c_RX1_60 : Cal RX1 60 0 25 0 1 RX1 := ⟨⟨_, _, _, (by decide +kernel : mm_C RX1 60 = some (RX1, 60, 0, 25, 450))⟩, _, rfl, rfl, rfl, rfl⟩
theorem c_RX1_103 : Cal RX1 103 0 26 0 1 RX1 := ⟨⟨_, _, _, (by decide +kernel : mm_C RX1 103 = some (RX1, 103, 0, 26, 454))⟩, _, rfl, rfl, rfl, rfl⟩
theorem c_RX1_138 : Cal RX1 138 3 27 1 1 RX0 := ⟨⟨_, _, _, (by decide +kernel : mm_C RX1 138 = some (RX1, 138, 3, 27, 458))⟩, _, rfl, rfl, rfl, rfl⟩
theorem c_RX1_157 : Cal RX1 157 0 28 0 4 RX1 := ⟨⟨_, _, _, (by decide +kernel : mm_C RX1 157 = some (RX1, 157, 0, 28, 461))⟩, _, rfl, rfl, rfl, rfl⟩
theorem c_RX1_181 : Cal RX1 181 0 29 1 4 RX1 := ⟨⟨_, _, _, (by decide +kernel : mm_C RX1 181 = some (RX1, 181, 0, 29, 465))⟩, _, rfl, rfl, rfl, rfl⟩
theorem c_RX1_292 : Cal RX1 292 0 30 1 5 RX1 := ⟨⟨_, _, _, (by decide +kernel : mm_C RX1 292 = some (RX1, 292, 0, 30, 469))⟩, _, rfl, rfl, rfl, rfl⟩
theorem c_RX1_304 : Cal RX1 304 0 31 0 2 RX1 := ⟨⟨_, _, _, (by decide +kernel : mm_C RX1 304 = some (RX1, 304, 0, 31, 473))⟩, _, rfl, rfl, rfl, rfl⟩
theorem c_RX1_147 : Cal RX1 147 0 32 0 1 RX1 := ⟨⟨_, _, _, (by decide +kernel : mm_C RX1 147 = some (RX1, 147, 0, 32, 477))⟩, _, rfl, rfl, rfl, rfl⟩
theorem c_RX1_307 : Cal RX1 307 3 33 1 1 RX0 := ⟨⟨_, _, _, (by decide +kernel : mm_C RX1 307 = some (RX1, 307, 3, 33, 481))⟩, _, rfl, rfl, rfl, rfl⟩
theorem c_RX1_274 : Cal RX1 274 0 34 1 4 RX1 := ⟨⟨_, _, _, (by decide +kernel : mm_C RX1 274 = some (RX1, 274, 0, 34, 484))⟩, _, rfl, rfl, rfl, rfl⟩
theorem c_RX1_310 : Cal RX1 310 0 35 0 2 RX1 := ⟨⟨_, _, _, (by decide +kernel : mm_C RX1 310 = some (RX1, 310, 0, 35, 488))⟩, _, rfl, rfl, rfl, rfl⟩
theorem c_RX1_154 : Cal RX1 154 0 36 1 2 RX1 := ⟨⟨_, _, _, (by decide +kernel : mm_C RX1 154 = some (RX1, 154, 0, 36, 492))⟩, _, rfl, rfl, rfl, rfl⟩
theorem c_RX1_329 : Cal RX1 329 0 37 2 9 RX1 := ⟨⟨_, _, _, (by decide +kernel : mm_C RX1 329 = some (RX1, 329, 0, 37, 496))⟩, _, rfl, rfl, rfl, rfl⟩
theorem c_RX1_341 : Cal RX1 341 0 38 0 1 RX1 := ⟨⟨_, _, _, (by decide +kernel : mm_C RX1 341 = some (RX1, 341, 0, 38, 500))⟩, _, rfl, rfl, rfl, rfl⟩
theorem c_RX1_123 : Cal RX1 123 0 39 1 3 RX1 := ⟨⟨_, _, _, (by decide +kernel : mm_C RX1 123 = some (RX1, 123, 0, 39, 504))⟩, _, rfl, rfl, rfl, rfl⟩
theorem c_RX1_106 : Cal RX1 106 0 40 1 2 RX1 := ⟨⟨_, _, _, (by decide +kernel : mm_C RX1 106 = some (RX1, 106, 0, 40, 508))⟩, _, rfl, rfl, rfl, rfl⟩
theorem c_RX1_66 : Cal RX1 66 0 41 0 1 RX1 := ⟨⟨_, _, _, (by decide +kernel : mm_C RX1 66 = some (RX1, 66, 0, 41, 512))⟩, _, rfl, rfl, rfl, rfl⟩
theorem c_RX1_332 : Cal RX1 332 0 42 0 3 RX1 := ⟨⟨_, _, _, (by decide +kernel : mm_C RX1 332 = some (RX1, 332, 0, 42, 516))⟩, _, rfl, rfl, rfl, rfl⟩
theorem c_RX1_335 : Cal RX1 335 0 43 0 2 RX1 := ⟨⟨_, _, _, (by decide +kernel : mm_C RX1 335 = some (RX1, 335, 0, 43, 520))⟩, _, rfl, rfl, rfl, rfl⟩
theorem c_RX1_94 : Cal RX1 94 0 44 0 3 RX1 := ⟨⟨_, _, _, (by decide +kernel : mm_C RX1 94 = some (RX1, 94, 0, 44, 524))⟩, _, rfl, rfl, rfl, rfl⟩
theorem c_RX1_144 : Cal RX1 144 0 45 0 8 RX1 := ⟨⟨_, _, _, (by decide +kernel : mm_C RX1 144 = some (RX1, 144, 0, 45, 528))⟩, _, rfl, rfl, rfl, rfl⟩
theorem c_RX1_150 : Cal RX1 150 0 46 2 8 RX1 := ⟨⟨_, _, _, (by decide +kernel : mm_C RX1 150 = some (RX1, 150, 0, 46, 532))⟩, _, rfl, rfl, rfl, rfl⟩
theorem c_RX1_97 : Cal RX1 97 0 47 0 3 RX1 := ⟨⟨_, _, _, (by decide +kernel : mm_C RX1 97 = some (RX1, 97, 0, 47, 536))⟩, _, rfl, rfl, rfl, rfl⟩
theorem c_RX1_185 : Cal RX1 185 0 48 0 4 RX1 := ⟨⟨_, _, _, (by decide +kernel : mm_C RX1 185 = some (RX1, 185, 0, 48, 540))⟩, _, rfl, rfl, rfl, rfl⟩
theorem c_RX1_188 : Cal RX1 188 0 49 0 1 RX1 := ⟨⟨_, _, _, (by decide +kernel : mm_C RX1 188 = some (RX1, 188, 0, 49, 544))⟩, _, rfl, rfl, rfl, rfl⟩
theorem c_RX1_88 : Cal RX1 88 0 50 0 4 RX1 := ⟨⟨_, _, _, (by decide +kernel : mm_C RX1 88 = some (RX1, 88, 0, 50, 548))⟩, _, rfl, rfl, rfl, rfl⟩
theorem c_RX1_110 : Cal RX1 110 0 51 1 5 RX1 := ⟨⟨_, _, _, (by decide +kernel : mm_C RX1 110 = some (RX1, 110, 0, 51, 552))⟩, _, rfl, rfl, rfl, rfl⟩
theorem c_RX1_113 : Cal RX1 113 0 52 1 2 RX1 := ⟨⟨_, _, _, (by decide +kernel : mm_C RX1 113 = some (RX1, 113, 0, 52, 556))⟩, _, rfl, rfl, rfl, rfl⟩
theorem c_RX1_126 : Cal RX1 126 0 53 0 3 RX1 := ⟨⟨_, _, _, (by decide +kernel : mm_C RX1 126 = some (RX1, 126, 0, 53, 560))⟩, _, rfl, rfl, rfl, rfl⟩
theorem c_RX1_135 : Cal RX1 135 0 54 0 3 RX1 := ⟨⟨_, _, _, (by decide +kernel : mm_C RX1 135 = some (RX1, 135, 0, 54, 564))⟩, _, rfl, rfl, rfl, rfl⟩
theorem c_RX1_141 : Cal RX1 141 0 55 0 2 RX1 := ⟨⟨_, _, _, (by decide +kernel : mm_C RX1 141 = some (RX1, 141, 0, 55, 568))⟩, _, rfl, rfl, rfl, rfl⟩
theorem c_RX1_246 : Cal RX1 246 0 56 2 4 RX1 := ⟨⟨_, _, _, (by decide +kernel : mm_C RX1 246 = some (RX1, 246, 0, 56, 572))⟩, _, rfl, rfl, rfl, rfl⟩
theorem c_RX1_129 : Cal RX1 129 0 57 0 2 RX1 := ⟨⟨_, _, _, (by decide +kernel : mm_C RX1 129 = some (RX1, 129, 0, 57, 576))⟩, _, rfl, rfl, rfl, rfl⟩
theorem c_RX1_132 : Cal RX1 132 0 58 0 3 RX1 := ⟨⟨_, _, _, (by decide +kernel : mm_C RX1 132 = some (RX1, 132, 0, 58, 580))⟩, _, rfl, rfl, rfl, rfl⟩
theorem c_RX1_116 : Cal RX1 116 2 59 1 1 RX1 := ⟨⟨_, _, _, (by decide +kernel : mm_C RX1 116 = some (RX1, 116, 2, 59, 584))⟩, _, rfl, rfl, rfl, rfl⟩
theorem c_RX1_192 : Cal RX1 192 0 60 0 4 RX1 := ⟨⟨_, _, _, (by decide +kernel : mm_C RX1 192 = some (RX1, 192, 0, 60, 587))⟩, _, rfl, rfl, rfl, rfl⟩
theorem c_RX1_253 : Cal RX1 253 0 61 2 7 RX1 := ⟨⟨_, _, _, (by decide +kernel : mm_C RX1 253 = some (RX1, 253, 0, 61, 591))⟩, _, rfl, rfl, rfl, rfl⟩
theorem c_RX1_228 : Cal RX1 228 0 62 1 6 RX1 := ⟨⟨_, _, _, (by decide +kernel : mm_C RX1 228 = some (RX1, 228, 0, 62, 595))⟩, _, rfl, rfl, rfl, rfl⟩
theorem c_RX1_231 : Cal RX1 231 0 63 1 2 RX1 := ⟨⟨_, _, _, (by decide +kernel : mm_C RX1 231 = some (RX1, 231, 0, 63, 599))⟩, _, rfl, rfl, rfl, rfl⟩
theorem c_RX1_234 : Cal RX1 234 0 64 1 2 RX1 := ⟨⟨_, _, _, (by decide +kernel : mm_C RX1 234 = some (RX1, 234, 0, 64, 603))⟩, _, rfl, rfl, rfl, rfl⟩
theorem c_RX1_237 : Cal RX1 237 0 65 1 4 RX1 := ⟨⟨_, _, _, (by decide +kernel : mm_C RX1 237 = some (RX1, 237, 0, 65, 607))⟩, _, rfl, rfl, rfl, rfl⟩
theorem c_RX1_240 : Cal RX1 240 0 66 2 5 RX1 := ⟨⟨_, _, _, (by decide +kernel : mm_C RX1 240 = some (RX1, 240, 0, 66, 611))⟩, _, rfl, rfl, rfl, rfl⟩
theorem c_RX1_243 : Cal RX1 243 0 67 1 3 RX1 := ⟨⟨_, _, _, (by decide +kernel : mm_C RX1 243 = some (RX1, 243, 0, 67, 615))⟩, _, rfl, rfl, rfl, rfl⟩
theorem c_RX1_250 : Cal RX1 250 3 68 1 1 RX0 := ⟨⟨_, _, _, (by decide +kernel : mm_C RX1 250 = some (RX1, 250, 3, 68, 619))⟩, _, rfl, rfl, rfl, rfl⟩
theorem c_RX1_256 : Cal RX1 256 0 69 0 1 RX1 := ⟨⟨_, _, _, (by decide +kernel : mm_C RX1 256 = some (RX1, 256, 0, 69, 622))⟩, _, rfl, rfl, rfl, rfl⟩
theorem c_RX1_195 : Cal RX1 195 0 70 0 6 RX1 := ⟨⟨_, _, _, (by decide +kernel : mm_C RX1 195 = some (RX1, 195, 0, 70, 626))⟩, _, rfl, rfl, rfl, rfl⟩
theorem c_RX1_268 : Cal RX1 268 0 71 0 2 RX1 := ⟨⟨_, _, _, (by decide +kernel : mm_C RX1 268 = some (RX1, 268, 0, 71, 630))⟩, _, rfl, rfl, rfl, rfl⟩
theorem c_RX1_271 : Cal RX1 271 0 72 1 3 RX1 := ⟨⟨_, _, _, (by decide +kernel : mm_C RX1 271 = some (RX1, 271, 0, 72, 634))⟩, _, rfl, rfl, rfl, rfl⟩
theorem c_RX1_277 : Cal RX1 277 0 73 1 3 RX1 := ⟨⟨_, _, _, (by decide +kernel : mm_C RX1 277 = some (RX1, 277, 0, 73, 638))⟩, _, rfl, rfl, rfl, rfl⟩
theorem c_RX1_283 : Cal RX1 283 0 74 0 3 RX1 := ⟨⟨_, _, _, (by decide +kernel : mm_C RX1 283 = some (RX1, 283, 0, 74, 642))⟩, _, rfl, rfl, rfl, rfl⟩
theorem c_RX1_225 : Cal RX1 225 0 75 1 3 RX1 := ⟨⟨_, _, _, (by decide +kernel : mm_C RX1 225 = some (RX1, 225, 0, 75, 646))⟩, _, rfl, rfl, rfl, rfl⟩
theorem c_RX1_286 : Cal RX1 286 0 76 0 2 RX1 := ⟨⟨_, _, _, (by decide +kernel : mm_C RX1 286 = some (RX1, 286, 0, 76, 650))⟩, _, rfl, rfl, rfl, rfl⟩
theorem c_RX1_280 : Cal RX1 280 0 77 1 3 RX1 := ⟨⟨_, _, _, (by decide +kernel : mm_C RX1 280 = some (RX1, 280, 0, 77, 654))⟩, _, rfl, rfl, rfl, rfl⟩
theorem c_RX1_198 : Cal RX1 198 0 78 0 2 RX1 := ⟨⟨_, _, _, (by decide +kernel : mm_C RX1 198 = some (RX1, 198, 0, 78, 658))⟩, _, rfl, rfl, rfl, rfl⟩
theorem c_RX1_201 : Cal RX1 201 0 79 0 4 RX1 := ⟨⟨_, _, _, (by decide +kernel : mm_C RX1 201 = some (RX1, 201, 0, 79, 662))⟩, _, rfl, rfl, rfl, rfl⟩
theorem c_RX1_259 : Cal RX1 259 0 80 0 2 RX1 := ⟨⟨_, _, _, (by decide +kernel : mm_C RX1 259 = some (RX1, 259, 0, 80, 666))⟩, _, rfl, rfl, rfl, rfl⟩
theorem c_RX1_262 : Cal RX1 262 0 81 1 3 RX1 := ⟨⟨_, _, _, (by decide +kernel : mm_C RX1 262 = some (RX1, 262, 0, 81, 670))⟩, _, rfl, rfl, rfl, rfl⟩
theorem c_RX1_265 : Cal RX1 265 0 82 0 3 RX1 := ⟨⟨_, _, _, (by decide +kernel : mm_C RX1 265 = some (RX1, 265, 0, 82, 674))⟩, _, rfl, rfl, rfl, rfl⟩
theorem c_RX1_204 : Cal RX1 204 0 83 0 1 RX1 := ⟨⟨_, _, _, (by decide +kernel : mm_C RX1 204 = some (RX1, 204, 0, 83, 678))⟩, _, rfl, rfl, rfl, rfl⟩
theorem c_RX1_210 : Cal RX1 210 0 84 1 3 RX1 := ⟨⟨_, _, _, (by decide +kernel : mm_C RX1 210 = some (RX1, 210, 0, 84, 682))⟩, _, rfl, rfl, rfl, rfl⟩
theorem c_RX1_213 : Cal RX1 213 0 85 0 3 RX1 := ⟨⟨_, _, _, (by decide +kernel : mm_C RX1 213 = some (RX1, 213, 0, 85, 686))⟩, _, rfl, rfl, rfl, rfl⟩
theorem c_RX1_219 : Cal RX1 219 3 86 1 1 RX0 := ⟨⟨_, _, _, (by decide +kernel : mm_C RX1 219 = some (RX1, 219, 3, 86, 690))⟩, _, rfl, rfl, rfl, rfl⟩
theorem c_RX0_9 : Cal RX0 9 2 27 1 1 RX0 := ⟨⟨_, _, _, (by decide +kernel : mm_C RX0 9 = some (RX0, 9, 2, 27, 693))⟩, _, rfl, rfl, rfl, rfl⟩
theorem c_RX0_13 : Cal RX0 13 2 33 1 1 RX0 := ⟨⟨_, _, _, (by decide +kernel : mm_C RX0 13 = some (RX0, 13, 2, 33, 694))⟩, _, rfl, rfl, rfl, rfl⟩
theorem c_RX1_216 : Cal RX1 216 0 87 1 4 RX1 := ⟨⟨_, _, _, (by decide +kernel : mm_C RX1 216 = some (RX1, 216, 0, 87, 695))⟩, _, rfl, rfl, rfl, rfl⟩
theorem c_RX1_207 : Cal RX1 207 0 88 0 1 RX1 := ⟨⟨_, _, _, (by decide +kernel : mm_C RX1 207 = some (RX1, 207, 0, 88, 699))⟩, _, rfl, rfl, rfl, rfl⟩
theorem c_RX1_222 : Cal RX1 222 0 89 0 3 RX1 := ⟨⟨_, _, _, (by decide +kernel : mm_C RX1 222 = some (RX1, 222, 0, 89, 703))⟩, _, rfl, rfl, rfl, rfl⟩
theorem c_RX1_338 : Cal RX1 338 0 90 0 2 RX1 := ⟨⟨_, _, _, (by decide +kernel : mm_C RX1 338 = some (RX1, 338, 0, 90, 707))⟩, _, rfl, rfl, rfl, rfl⟩
theorem c_RX1_313 : Cal RX1 313 0 91 1 2 RX1 := ⟨⟨_, _, _, (by decide +kernel : mm_C RX1 313 = some (RX1, 313, 0, 91, 711))⟩, _, rfl, rfl, rfl, rfl⟩
theorem c_RX1_317 : Cal RX1 317 0 92 1 4 RX1 := ⟨⟨_, _, _, (by decide +kernel : mm_C RX1 317 = some (RX1, 317, 0, 92, 715))⟩, _, rfl, rfl, rfl, rfl⟩
theorem c_RX1_320 : Cal RX1 320 0 93 0 5 RX1 := ⟨⟨_, _, _, (by decide +kernel : mm_C RX1 320 = some (RX1, 320, 0, 93, 719))⟩, _, rfl, rfl, rfl, rfl⟩
theorem c_RX1_326 : Cal RX1 326 0 94 0 1 RX1 := ⟨⟨_, _, _, (by decide +kernel : mm_C RX1 326 = some (RX1, 326, 0, 94, 723))⟩, _, rfl, rfl, rfl, rfl⟩
theorem c_RX1_323 : Cal RX1 323 0 95 0 6 RX1 := ⟨⟨_, _, _, (by decide +kernel : mm_C RX1 323 = some (RX1, 323, 0, 95, 727))⟩, _, rfl, rfl, rfl, rfl⟩
theorem c_RX1_295 : Cal RX1 295 3 96 1 1 RX0 := ⟨⟨_, _, _, (by decide +kernel : mm_C RX1 295 = some (RX1, 295, 3, 96, 731))⟩, _, rfl, rfl, rfl, rfl⟩
theorem c_RX1_298 : Cal RX1 298 0 97 2 4 RX1 := ⟨⟨_, _, _, (by decide +kernel : mm_C RX1 298 = some (RX1, 298, 0, 97, 734))⟩, _, rfl, rfl, rfl, rfl⟩
theorem c_RX1_301 : Cal RX1 301 0 98 1 2 RX1 := ⟨⟨_, _, _, (by decide +kernel : mm_C RX1 301 = some (RX1, 301, 0, 98, 738))⟩, _, rfl, rfl, rfl, rfl⟩
theorem c_RX1_160 : Cal RX1 160 0 99 0 2 RX1 := ⟨⟨_, _, _, (by decide +kernel : mm_C RX1 160 = some (RX1, 160, 0, 99, 742))⟩, _, rfl, rfl, rfl, rfl⟩
theorem c_RX1_163 : Cal RX1 163 0 100 0 3 RX1 := ⟨⟨_, _, _, (by decide +kernel : mm_C RX1 163 = some (RX1, 163, 0, 100, 746))⟩, _, rfl, rfl, rfl, rfl⟩
theorem c_RX1_166 : Cal RX1 166 0 101 0 2 RX1 := ⟨⟨_, _, _, (by decide +kernel : mm_C RX1 166 = some (RX1, 166, 0, 101, 750))⟩, _, rfl, rfl, rfl, rfl⟩
theorem c_RX1_169 : Cal RX1 169 0 102 0 2 RX1 := ⟨⟨_, _, _, (by decide +kernel : mm_C RX1 169 = some (RX1, 169, 0, 102, 754))⟩, _, rfl, rfl, rfl, rfl⟩
theorem c_RX1_172 : Cal RX1 172 0 103 0 5 RX1 := ⟨⟨_, _, _, (by decide +kernel : mm_C RX1 172 = some (RX1, 172, 0, 103, 758))⟩, _, rfl, rfl, rfl, rfl⟩
theorem c_RX1_175 : Cal RX1 175 0 104 0 2 RX1 := ⟨⟨_, _, _, (by decide +kernel : mm_C RX1 175 = some (RX1, 175, 0, 104, 762))⟩, _, rfl, rfl, rfl, rfl⟩
theorem c_RX1_178 : Cal RX1 178 0 105 0 5 RX1 := ⟨⟨_, _, _, (by decide +kernel : mm_C RX1 178 = some (RX1, 178, 0, 105, 766))⟩, _, rfl, rfl, rfl, rfl⟩
theorem c_RX1_85 : Cal RX1 85 3 106 1 1 RX0 := ⟨⟨_, _, _, (by decide +kernel : mm_C RX1 85 = some (RX1, 85, 3, 106, 770))⟩, _, rfl, rfl, rfl, rfl⟩
theorem c_RX5_60 : Cal RX5 60 1 107 0 2 RX3 := ⟨⟨_, _, _, (by decide +kernel : mm_C RX5 60 = some (RX5, 60, 1, 107, 773))⟩, _, rfl, rfl, rfl, rfl⟩
theorem c_RX3_51 : Cal RX3 51 0 108 1 8 RX3 := ⟨⟨_, _, _, (by decide +kernel : mm_C RX3 51 = some (RX3, 51, 0, 108, 777))⟩, _, rfl, rfl, rfl, rfl⟩
theorem c_RX3_54 : Cal RX3 54 0 109 1 2 RX3 := ⟨⟨_, _, _, (by decide +kernel : mm_C RX3 54 = some (RX3, 54, 0, 109, 781))⟩, _, rfl, rfl, rfl, rfl⟩
theorem c_RX3_57 : Cal RX3 57 0 110 1 2 RX3 := ⟨⟨_, _, _, (by decide +kernel : mm_C RX3 57 = some (RX3, 57, 0, 110, 785))⟩, _, rfl, rfl, rfl, rfl⟩
theorem c_RX3_63 : Cal RX3 63 0 111 2 3 RX3 := ⟨⟨_, _, _, (by decide +kernel : mm_C RX3 63 = some (RX3, 63, 0, 111, 789))⟩, _, rfl, rfl, rfl, rfl⟩
theorem c_RX3_60 : Cal RX3 60 0 112 1 2 RX3 := ⟨⟨_, _, _, (by decide +kernel : mm_C RX3 60 = some (RX3, 60, 0, 112, 793))⟩, _, rfl, rfl, rfl, rfl⟩
theorem c_RL_39 : Cal RL 39 0 113 0 1 RX5 := ⟨⟨_, _, _, (by decide +kernel : mm_C RL 39 = some (RL, 39, 0, 113, 797))⟩, _, rfl, rfl, rfl, rfl⟩
theorem c_RL_43 : Cal RL 43 0 114 0 1 RX5 := ⟨⟨_, _, _, (by decide +kernel : mm_C RL 43 = some (RL, 43, 0, 114, 801))⟩, _, rfl, rfl, rfl, rfl⟩
theorem c_RL_47 : Cal RL 47 9 115 4 5 RL := ⟨⟨_, _, _, (by decide +kernel : mm_C RL 47 = some (RL, 47, 9, 115, 805))⟩, _, rfl, rfl, rfl, rfl⟩
theorem c_RL_7 : Cal RL 7 0 116 2 3 RX5 := ⟨⟨_, _, _, (by decide +kernel : mm_C RL 7 = some (RL, 7, 0, 116, 809))⟩, _, rfl, rfl, rfl, rfl⟩
theorem c_RX5_66 : Cal RX5 66 1 117 1 2 RX3 := ⟨⟨_, _, _, (by decide +kernel : mm_C RX5 66 = some (RX5, 66, 1, 117, 813))⟩, _, rfl, rfl, rfl, rfl⟩
theorem c_RX5_76 : Cal RX5 76 1 118 1 2 RX3 := ⟨⟨_, _, _, (by decide +kernel : mm_C RX5 76 = some (RX5, 76, 1, 118, 833))⟩, _, rfl, rfl, rfl, rfl⟩
theorem c_RX5_80 : Cal RX5 80 1 119 1 2 RX3 := ⟨⟨_, _, _, (by decide +kernel : mm_C RX5 80 = some (RX5, 80, 1, 119, 837))⟩, _, rfl, rfl, rfl, rfl⟩
theorem c_RX5_83 : Cal RX5 83 1 109 1 2 RX3 := ⟨⟨_, _, _, (by decide +kernel : mm_C RX5 83 = some (RX5, 83, 1, 109, 841))⟩, _, rfl, rfl, rfl, rfl⟩
theorem c_RX5_86 : Cal RX5 86 1 112 1 2 RX3 := ⟨⟨_, _, _, (by decide +kernel : mm_C RX5 86 = some (RX5, 86, 1, 112, 842))⟩, _, rfl, rfl, rfl, rfl⟩
theorem c_RX5_89 : Cal RX5 89 1 120 1 2 RX3 := ⟨⟨_, _, _, (by decide +kernel : mm_C RX5 89 = some (RX5, 89, 1, 120, 843))⟩, _, rfl, rfl, rfl, rfl⟩
theorem c_RX3_67 : Cal RX3 67 0 117 1 2 RX3 := ⟨⟨_, _, _, (by decide +kernel : mm_C RX3 67 = some (RX3, 67, 0, 117, 847))⟩, _, rfl, rfl, rfl, rfl⟩
theorem c_RL_53 : Cal RL 53 9 121 4 5 RL := ⟨⟨_, _, _, (by decide +kernel : mm_C RL 53 = some (RL, 53, 9, 121, 849))⟩, _, rfl, rfl, rfl, rfl⟩
theorem c_RL_15 : Cal RL 15 0 122 2 5 RX5 := ⟨⟨_, _, _, (by decide +kernel : mm_C RL 15 = some (RL, 15, 0, 122, 852))⟩, _, rfl, rfl, rfl, rfl⟩
theorem c_RL_21 : Cal RL 21 4 123 0 1 RX6 := ⟨⟨_, _, _, (by decide +kernel : mm_C RL 21 = some (RL, 21, 4, 123, 859))⟩, _, rfl, rfl, rfl, rfl⟩
theorem c_RX6_1 : mm_C RX6 1 = some (RX6, 1, 10, 0, 862) := by decide +kernel
theorem c_RL_26 : Cal RL 26 0 124 1 2 RX6 := ⟨⟨_, _, _, (by decide +kernel : mm_C RL 26 = some (RL, 26, 0, 124, 944))⟩, _, rfl, rfl, rfl, rfl⟩
theorem c_RX6_68 : Cal RX6 68 2 125 1 1 RX6 := ⟨⟨_, _, _, (by decide +kernel : mm_C RX6 68 = some (RX6, 68, 2, 125, 948))⟩, _, rfl, rfl, rfl, rfl⟩
theorem c_RL_33 : Cal RL 33 0 126 1 6 RX6 := ⟨⟨_, _, _, (by decide +kernel : mm_C RL 33 = some (RL, 33, 0, 126, 951))⟩, _, rfl, rfl, rfl, rfl⟩
theorem c_RL_42 : Cal RL 42 0 127 0 1 RX6 := ⟨⟨_, _, _, (by decide +kernel : mm_C RL 42 = some (RL, 42, 0, 127, 956))⟩, _, rfl, rfl, rfl, rfl⟩
theorem c_RL_38 : Cal RL 38 0 128 0 2 RX6 := ⟨⟨_, _, _, (by decide +kernel : mm_C RL 38 = some (RL, 38, 0, 128, 960))⟩, _, rfl, rfl, rfl, rfl⟩
theorem c_RX6_99 : Cal RX6 99 0 129 3 4 RX6 := ⟨⟨_, _, _, (by decide +kernel : mm_C RX6 99 = some (RX6, 99, 0, 129, 964))⟩, _, rfl, rfl, rfl, rfl⟩
theorem c_RX6_141 : Cal RX6 141 0 130 1 2 RX6 := ⟨⟨_, _, _, (by decide +kernel : mm_C RX6 141 = some (RX6, 141, 0, 130, 968))⟩, _, rfl, rfl, rfl, rfl⟩
theorem c_RX6_83 : Cal RX6 83 0 131 0 1 RX6 := ⟨⟨_, _, _, (by decide +kernel : mm_C RX6 83 = some (RX6, 83, 0, 131, 972))⟩, _, rfl, rfl, rfl, rfl⟩
theorem c_RX6_87 : Cal RX6 87 0 132 0 1 RX6 := ⟨⟨_, _, _, (by decide +kernel : mm_C RX6 87 = some (RX6, 87, 0, 132, 976))⟩, _, rfl, rfl, rfl, rfl⟩
theorem c_RX6_130 : Cal RX6 130 0 133 1 3 RX6 := ⟨⟨_, _, _, (by decide +kernel : mm_C RX6 130 = some (RX6, 130, 0, 133, 980))⟩, _, rfl, rfl, rfl, rfl⟩
theorem c_RX6_106 : Cal RX6 106 0 134 3 4 RX6 := ⟨⟨_, _, _, (by decide +kernel : mm_C RX6 106 = some (RX6, 106, 0, 134, 984))⟩, _, rfl, rfl, rfl, rfl⟩
theorem c_RX6_369 : Cal RX6 369 0 135 3 4 RX6 := ⟨⟨_, _, _, (by decide +kernel : mm_C RX6 369 = some (RX6, 369, 0, 135, 988))⟩, _, rfl, rfl, rfl, rfl⟩
theorem c_RX6_220 : Cal RX6 220 0 136 2 6 RX6 := ⟨⟨_, _, _, (by decide +kernel : mm_C RX6 220 = some (RX6, 220, 0, 136, 992))⟩, _, rfl, rfl, rfl, rfl⟩
theorem c_RX6_110 : Cal RX6 110 2 137 1 1 RX6 := ⟨⟨_, _, _, (by decide +kernel : mm_C RX6 110 = some (RX6, 110, 2, 137, 996))⟩, _, rfl, rfl, rfl, rfl⟩
theorem c_RX6_114 : Cal RX6 114 0 138 3 8 RX6 := ⟨⟨_, _, _, (by decide +kernel : mm_C RX6 114 = some (RX6, 114, 0, 138, 999))⟩, _, rfl, rfl, rfl, rfl⟩
theorem c_RX6_117 : Cal RX6 117 0 139 3 4 RX6 := ⟨⟨_, _, _, (by decide +kernel : mm_C RX6 117 = some (RX6, 117, 0, 139, 1003))⟩, _, rfl, rfl, rfl, rfl⟩
theorem c_RX6_223 : Cal RX6 223 0 140 2 5 RX6 := ⟨⟨_, _, _, (by decide +kernel : mm_C RX6 223 = some (RX6, 223, 0, 140, 1007))⟩, _, rfl, rfl, rfl, rfl⟩
theorem c_RX6_103 : Cal RX6 103 2 141 1 1 RX6 := ⟨⟨_, _, _, (by decide +kernel : mm_C RX6 103 = some (RX6, 103, 2, 141, 1011))⟩, _, rfl, rfl, rfl, rfl⟩
theorem c_RX6_120 : Cal RX6 120 0 142 0 1 RX6 := ⟨⟨_, _, _, (by decide +kernel : mm_C RX6 120 = some (RX6, 120, 0, 142, 1014))⟩, _, rfl, rfl, rfl, rfl⟩
theorem c_RX6_123 : Cal RX6 123 0 143 0 1 RX6 := ⟨⟨_, _, _, (by decide +kernel : mm_C RX6 123 = some (RX6, 123, 0, 143, 1018))⟩, _, rfl, rfl, rfl, rfl⟩
theorem c_RX6_126 : Cal RX6 126 0 144 2 5 RX6 := ⟨⟨_, _, _, (by decide +kernel : mm_C RX6 126 = some (RX6, 126, 0, 144, 1022))⟩, _, rfl, rfl, rfl, rfl⟩
theorem c_RX6_226 : Cal RX6 226 0 145 2 5 RX6 := ⟨⟨_, _, _, (by decide +kernel : mm_C RX6 226 = some (RX6, 226, 0, 145, 1026))⟩, _, rfl, rfl, rfl, rfl⟩
theorem c_RX6_144 : Cal RX6 144 0 146 2 5 RX6 := ⟨⟨_, _, _, (by decide +kernel : mm_C RX6 144 = some (RX6, 144, 0, 146, 1030))⟩, _, rfl, rfl, rfl, rfl⟩
theorem c_RX6_133 : Cal RX6 133 2 147 2 2 RX6 := ⟨⟨_, _, _, (by decide +kernel : mm_C RX6 133 = some (RX6, 133, 2, 147, 1034))⟩, _, rfl, rfl, rfl, rfl⟩
theorem c_RX6_147 : Cal RX6 147 0 148 1 2 RX6 := ⟨⟨_, _, _, (by decide +kernel : mm_C RX6 147 = some (RX6, 147, 0, 148, 1037))⟩, _, rfl, rfl, rfl, rfl⟩
theorem c_RX6_229 : Cal RX6 229 0 149 3 4 RX6 := ⟨⟨_, _, _, (by decide +kernel : mm_C RX6 229 = some (RX6, 229, 0, 149, 1041))⟩, _, rfl, rfl, rfl, rfl⟩
theorem c_RX6_241 : Cal RX6 241 0 150 2 8 RX6 := ⟨⟨_, _, _, (by decide +kernel : mm_C RX6 241 = some (RX6, 241, 0, 150, 1045))⟩, _, rfl, rfl, rfl, rfl⟩
theorem c_RX6_244 : Cal RX6 244 0 151 1 2 RX6 := ⟨⟨_, _, _, (by decide +kernel : mm_C RX6 244 = some (RX6, 244, 0, 151, 1049))⟩, _, rfl, rfl, rfl, rfl⟩
theorem c_RX6_247 : Cal RX6 247 0 152 1 2 RX6 := ⟨⟨_, _, _, (by decide +kernel : mm_C RX6 247 = some (RX6, 247, 0, 152, 1053))⟩, _, rfl, rfl, rfl, rfl⟩
theorem c_RX6_250 : Cal RX6 250 0 153 1 2 RX6 := ⟨⟨_, _, _, (by decide +kernel : mm_C RX6 250 = some (RX6, 250, 0, 153, 1057))⟩, _, rfl, rfl, rfl, rfl⟩
theorem c_RX6_253 : Cal RX6 253 0 154 1 2 RX6 := ⟨⟨_, _, _, (by decide +kernel : mm_C RX6 253 = some (RX6, 253, 0, 154, 1061))⟩, _, rfl, rfl, rfl, rfl⟩
theorem c_RX6_256 : Cal RX6 256 0 155 1 2 RX6 := ⟨⟨_, _, _, (by decide +kernel : mm_C RX6 256 = some (RX6, 256, 0, 155, 1065))⟩, _, rfl, rfl, rfl, rfl⟩
theorem c_RX6_137 : Cal RX6 137 0 156 1 3 RX6 := ⟨⟨_, _, _, (by decide +kernel : mm_C RX6 137 = some (RX6, 137, 0, 156, 1069))⟩, _, rfl, rfl, rfl, rfl⟩
theorem c_RX6_259 : Cal RX6 259 0 157 1 2 RX6 := ⟨⟨_, _, _, (by decide +kernel : mm_C RX6 259 = some (RX6, 259, 0, 157, 1073))⟩, _, rfl, rfl, rfl, rfl⟩
theorem c_RX6_262 : Cal RX6 262 0 158 1 2 RX6 := ⟨⟨_, _, _, (by decide +kernel : mm_C RX6 262 = some (RX6, 262, 0, 158, 1077))⟩, _, rfl, rfl, rfl, rfl⟩
theorem c_RX6_265 : Cal RX6 265 0 159 1 3 RX6 := ⟨⟨_, _, _, (by decide +kernel : mm_C RX6 265 = some (RX6, 265, 0, 159, 1081))⟩, _, rfl, rfl, rfl, rfl⟩
theorem c_RX6_232 : Cal RX6 232 0 160 3 4 RX6 := ⟨⟨_, _, _, (by decide +kernel : mm_C RX6 232 = some (RX6, 232, 0, 160, 1085))⟩, _, rfl, rfl, rfl, rfl⟩
theorem c_RX6_267 : Cal RX6 267 0 161 2 5 RX6 := ⟨⟨_, _, _, (by decide +kernel : mm_C RX6 267 = some (RX6, 267, 0, 161, 1089))⟩, _, rfl, rfl, rfl, rfl⟩
theorem c_RX6_150 : Cal RX6 150 2 162 1 1 RX6 := ⟨⟨_, _, _, (by decide +kernel : mm_C RX6 150 = some (RX6, 150, 2, 162, 1093))⟩, _, rfl, rfl, rfl, rfl⟩
theorem c_RX6_153 : Cal RX6 153 0 163 2 4 RX6 := ⟨⟨_, _, _, (by decide +kernel : mm_C RX6 153 = some (RX6, 153, 0, 163, 1096))⟩, _, rfl, rfl, rfl, rfl⟩
theorem c_RX6_270 : Cal RX6 270 0 164 1 2 RX6 := ⟨⟨_, _, _, (by decide +kernel : mm_C RX6 270 = some (RX6, 270, 0, 164, 1100))⟩, _, rfl, rfl, rfl, rfl⟩
theorem c_RX6_180 : Cal RX6 180 0 165 1 3 RX6 := ⟨⟨_, _, _, (by decide +kernel : mm_C RX6 180 = some (RX6, 180, 0, 165, 1104))⟩, _, rfl, rfl, rfl, rfl⟩
theorem c_RX6_273 : Cal RX6 273 0 166 1 3 RX6 := ⟨⟨_, _, _, (by decide +kernel : mm_C RX6 273 = some (RX6, 273, 0, 166, 1108))⟩, _, rfl, rfl, rfl, rfl⟩
theorem c_RX6_276 : Cal RX6 276 0 167 1 3 RX6 := ⟨⟨_, _, _, (by decide +kernel : mm_C RX6 276 = some (RX6, 276, 0, 167, 1112))⟩, _, rfl, rfl, rfl, rfl⟩
theorem c_RX6_279 : Cal RX6 279 0 168 1 3 RX6 := ⟨⟨_, _, _, (by decide +kernel : mm_C RX6 279 = some (RX6, 279, 0, 168, 1116))⟩, _, rfl, rfl, rfl, rfl⟩
theorem c_RX6_282 : Cal RX6 282 0 169 1 7 RX6 := ⟨⟨_, _, _, (by decide +kernel : mm_C RX6 282 = some (RX6, 282, 0, 169, 1120))⟩, _, rfl, rfl, rfl, rfl⟩
theorem c_RX6_285 : Cal RX6 285 0 170 1 3 RX6 := ⟨⟨_, _, _, (by decide +kernel : mm_C RX6 285 = some (RX6, 285, 0, 170, 1124))⟩, _, rfl, rfl, rfl, rfl⟩
theorem c_RX6_288 : Cal RX6 288 0 171 1 3 RX6 := ⟨⟨_, _, _, (by decide +kernel : mm_C RX6 288 = some (RX6, 288, 0, 171, 1128))⟩, _, rfl, rfl, rfl, rfl⟩
theorem c_RX6_291 : Cal RX6 291 0 172 2 3 RX6 := ⟨⟨_, _, _, (by decide +kernel : mm_C RX6 291 = some (RX6, 291, 0, 172, 1132))⟩, _, rfl, rfl, rfl, rfl⟩
theorem c_RX6_294 : Cal RX6 294 0 173 1 3 RX6 := ⟨⟨_, _, _, (by decide +kernel : mm_C RX6 294 = some (RX6, 294, 0, 173, 1136))⟩, _, rfl, rfl, rfl, rfl⟩
theorem c_RX6_235 : Cal RX6 235 0 174 3 4 RX6 := ⟨⟨_, _, _, (by decide +kernel : mm_C RX6 235 = some (RX6, 235, 0, 174, 1140))⟩, _, rfl, rfl, rfl, rfl⟩
theorem c_RX6_297 : Cal RX6 297 0 175 1 3 RX6 := ⟨⟨_, _, _, (by decide +kernel : mm_C RX6 297 = some (RX6, 297, 0, 175, 1144))⟩, _, rfl, rfl, rfl, rfl⟩
theorem c_RX6_300 : Cal RX6 300 0 176 1 2 RX6 := ⟨⟨_, _, _, (by decide +kernel : mm_C RX6 300 = some (RX6, 300, 0, 176, 1148))⟩, _, rfl, rfl, rfl, rfl⟩
theorem c_RX6_303 : Cal RX6 303 0 177 2 3 RX6 := ⟨⟨_, _, _, (by decide +kernel : mm_C RX6 303 = some (RX6, 303, 0, 177, 1152))⟩, _, rfl, rfl, rfl, rfl⟩
theorem c_RX6_306 : Cal RX6 306 0 178 2 4 RX6 := ⟨⟨_, _, _, (by decide +kernel : mm_C RX6 306 = some (RX6, 306, 0, 178, 1156))⟩, _, rfl, rfl, rfl, rfl⟩
theorem c_RX6_309 : Cal RX6 309 0 179 2 3 RX6 := ⟨⟨_, _, _, (by decide +kernel : mm_C RX6 309 = some (RX6, 309, 0, 179, 1160))⟩, _, rfl, rfl, rfl, rfl⟩
theorem c_RX6_312 : Cal RX6 312 0 180 2 3 RX6 := ⟨⟨_, _, _, (by decide +kernel : mm_C RX6 312 = some (RX6, 312, 0, 180, 1164))⟩, _, rfl, rfl, rfl, rfl⟩
theorem c_RX6_315 : Cal RX6 315 0 181 1 2 RX6 := ⟨⟨_, _, _, (by decide +kernel : mm_C RX6 315 = some (RX6, 315, 0, 181, 1168))⟩, _, rfl, rfl, rfl, rfl⟩
theorem c_RX6_162 : Cal RX6 162 0 182 2 3 RX6 := ⟨⟨_, _, _, (by decide +kernel : mm_C RX6 162 = some (RX6, 162, 0, 182, 1172))⟩, _, rfl, rfl, rfl, rfl⟩
theorem c_RX6_159 : Cal RX6 159 0 183 2 4 RX6 := ⟨⟨_, _, _, (by decide +kernel : mm_C RX6 159 = some (RX6, 159, 0, 183, 1176))⟩, _, rfl, rfl, rfl, rfl⟩
theorem c_RX6_318 : Cal RX6 318 0 184 1 2 RX6 := ⟨⟨_, _, _, (by decide +kernel : mm_C RX6 318 = some (RX6, 318, 0, 184, 1180))⟩, _, rfl, rfl, rfl, rfl⟩
theorem c_RX6_321 : Cal RX6 321 0 185 1 3 RX6 := ⟨⟨_, _, _, (by decide +kernel : mm_C RX6 321 = some (RX6, 321, 0, 185, 1184))⟩, _, rfl, rfl, rfl, rfl⟩
theorem c_RX6_174 : Cal RX6 174 2 186 1 1 RX6 := ⟨⟨_, _, _, (by decide +kernel : mm_C RX6 174 = some (RX6, 174, 2, 186, 1188))⟩, _, rfl, rfl, rfl, rfl⟩
theorem c_RX6_171 : Cal RX6 171 2 187 1 1 RX6 := ⟨⟨_, _, _, (by decide +kernel : mm_C RX6 171 = some (RX6, 171, 2, 187, 1191))⟩, _, rfl, rfl, rfl, rfl⟩
theorem c_RX6_177 : Cal RX6 177 0 188 1 4 RX6 := ⟨⟨_, _, _, (by decide +kernel : mm_C RX6 177 = some (RX6, 177, 0, 188, 1194))⟩, _, rfl, rfl, rfl, rfl⟩
theorem c_RX6_165 : Cal RX6 165 0 189 1 4 RX6 := ⟨⟨_, _, _, (by decide +kernel : mm_C RX6 165 = some (RX6, 165, 0, 189, 1198))⟩, _, rfl, rfl, rfl, rfl⟩
theorem c_RX6_183 : Cal RX6 183 0 190 1 3 RX6 := ⟨⟨_, _, _, (by decide +kernel : mm_C RX6 183 = some (RX6, 183, 0, 190, 1202))⟩, _, rfl, rfl, rfl, rfl⟩
theorem c_RX6_186 : Cal RX6 186 0 191 1 5 RX6 := ⟨⟨_, _, _, (by decide +kernel : mm_C RX6 186 = some (RX6, 186, 0, 191, 1206))⟩, _, rfl, rfl, rfl, rfl⟩
theorem c_RX6_214 : Cal RX6 214 0 192 1 3 RX6 := ⟨⟨_, _, _, (by decide +kernel : mm_C RX6 214 = some (RX6, 214, 0, 192, 1210))⟩, _, rfl, rfl, rfl, rfl⟩
theorem c_RX6_189 : Cal RX6 189 0 193 1 3 RX6 := ⟨⟨_, _, _, (by decide +kernel : mm_C RX6 189 = some (RX6, 189, 0, 193, 1214))⟩, _, rfl, rfl, rfl, rfl⟩
theorem c_RX6_192 : Cal RX6 192 0 194 2 3 RX6 := ⟨⟨_, _, _, (by decide +kernel : mm_C RX6 192 = some (RX6, 192, 0, 194, 1218))⟩, _, rfl, rfl, rfl, rfl⟩
theorem c_RX6_217 : Cal RX6 217 0 195 1 2 RX6 := ⟨⟨_, _, _, (by decide +kernel : mm_C RX6 217 = some (RX6, 217, 0, 195, 1222))⟩, _, rfl, rfl, rfl, rfl⟩
theorem c_RX6_195 : Cal RX6 195 0 196 2 4 RX6 := ⟨⟨_, _, _, (by decide +kernel : mm_C RX6 195 = some (RX6, 195, 0, 196, 1226))⟩, _, rfl, rfl, rfl, rfl⟩
theorem c_RX6_324 : Cal RX6 324 0 197 1 2 RX6 := ⟨⟨_, _, _, (by decide +kernel : mm_C RX6 324 = some (RX6, 324, 0, 197, 1230))⟩, _, rfl, rfl, rfl, rfl⟩
theorem c_RX6_238 : Cal RX6 238 0 198 3 4 RX6 := ⟨⟨_, _, _, (by decide +kernel : mm_C RX6 238 = some (RX6, 238, 0, 198, 1234))⟩, _, rfl, rfl, rfl, rfl⟩
theorem c_RX6_327 : Cal RX6 327 0 199 2 3 RX6 := ⟨⟨_, _, _, (by decide +kernel : mm_C RX6 327 = some (RX6, 327, 0, 199, 1238))⟩, _, rfl, rfl, rfl, rfl⟩
theorem c_RX6_330 : Cal RX6 330 0 200 2 9 RX6 := ⟨⟨_, _, _, (by decide +kernel : mm_C RX6 330 = some (RX6, 330, 0, 200, 1242))⟩, _, rfl, rfl, rfl, rfl⟩
theorem c_RX6_198 : Cal RX6 198 0 201 2 4 RX6 := ⟨⟨_, _, _, (by decide +kernel : mm_C RX6 198 = some (RX6, 198, 0, 201, 1246))⟩, _, rfl, rfl, rfl, rfl⟩
theorem c_RX6_205 : Cal RX6 205 0 202 2 4 RX6 := ⟨⟨_, _, _, (by decide +kernel : mm_C RX6 205 = some (RX6, 205, 0, 202, 1250))⟩, _, rfl, rfl, rfl, rfl⟩
theorem c_RX6_208 : Cal RX6 208 0 203 3 5 RX6 := ⟨⟨_, _, _, (by decide +kernel : mm_C RX6 208 = some (RX6, 208, 0, 203, 1254))⟩, _, rfl, rfl, rfl, rfl⟩
theorem c_RX6_201 : Cal RX6 201 0 204 3 6 RX6 := ⟨⟨_, _, _, (by decide +kernel : mm_C RX6 201 = some (RX6, 201, 0, 204, 1258))⟩, _, rfl, rfl, rfl, rfl⟩
theorem c_RX6_333 : Cal RX6 333 0 205 2 6 RX6 := ⟨⟨_, _, _, (by decide +kernel : mm_C RX6 333 = some (RX6, 333, 0, 205, 1262))⟩, _, rfl, rfl, rfl, rfl⟩
theorem c_RX6_336 : Cal RX6 336 0 206 1 2 RX6 := ⟨⟨_, _, _, (by decide +kernel : mm_C RX6 336 = some (RX6, 336, 0, 206, 1266))⟩, _, rfl, rfl, rfl, rfl⟩
theorem c_RX6_211 : Cal RX6 211 0 207 1 6 RX6 := ⟨⟨_, _, _, (by decide +kernel : mm_C RX6 211 = some (RX6, 211, 0, 207, 1270))⟩, _, rfl, rfl, rfl, rfl⟩
theorem c_RX6_339 : Cal RX6 339 0 208 1 2 RX6 := ⟨⟨_, _, _, (by decide +kernel : mm_C RX6 339 = some (RX6, 339, 0, 208, 1274))⟩, _, rfl, rfl, rfl, rfl⟩
theorem c_RX6_342 : Cal RX6 342 0 209 1 2 RX6 := ⟨⟨_, _, _, (by decide +kernel : mm_C RX6 342 = some (RX6, 342, 0, 209, 1278))⟩, _, rfl, rfl, rfl, rfl⟩
theorem c_RX6_345 : Cal RX6 345 0 210 2 4 RX6 := ⟨⟨_, _, _, (by decide +kernel : mm_C RX6 345 = some (RX6, 345, 0, 210, 1282))⟩, _, rfl, rfl, rfl, rfl⟩
theorem c_RX6_348 : Cal RX6 348 0 211 1 3 RX6 := ⟨⟨_, _, _, (by decide +kernel : mm_C RX6 348 = some (RX6, 348, 0, 211, 1286))⟩, _, rfl, rfl, rfl, rfl⟩
theorem c_RX6_351 : Cal RX6 351 0 212 2 6 RX6 := ⟨⟨_, _, _, (by decide +kernel : mm_C RX6 351 = some (RX6, 351, 0, 212, 1290))⟩, _, rfl, rfl, rfl, rfl⟩
theorem c_RX6_354 : Cal RX6 354 0 213 1 3 RX6 := ⟨⟨_, _, _, (by decide +kernel : mm_C RX6 354 = some (RX6, 354, 0, 213, 1294))⟩, _, rfl, rfl, rfl, rfl⟩
theorem c_RX6_357 : Cal RX6 357 0 214 1 2 RX6 := ⟨⟨_, _, _, (by decide +kernel : mm_C RX6 357 = some (RX6, 357, 0, 214, 1298))⟩, _, rfl, rfl, rfl, rfl⟩
theorem c_RX6_360 : Cal RX6 360 0 215 1 3 RX6 := ⟨⟨_, _, _, (by decide +kernel : mm_C RX6 360 = some (RX6, 360, 0, 215, 1302))⟩, _, rfl, rfl, rfl, rfl⟩
theorem c_RX6_168 : Cal RX6 168 0 216 1 5 RX6 := ⟨⟨_, _, _, (by decide +kernel : mm_C RX6 168 = some (RX6, 168, 0, 216, 1306))⟩, _, rfl, rfl, rfl, rfl⟩
theorem c_RX6_363 : Cal RX6 363 0 217 2 6 RX6 := ⟨⟨_, _, _, (by decide +kernel : mm_C RX6 363 = some (RX6, 363, 0, 217, 1310))⟩, _, rfl, rfl, rfl, rfl⟩
theorem c_RX6_372 : Cal RX6 372 0 218 1 3 RX6 := ⟨⟨_, _, _, (by decide +kernel : mm_C RX6 372 = some (RX6, 372, 0, 218, 1314))⟩, _, rfl, rfl, rfl, rfl⟩
theorem c_RL_46 : Cal RL 46 0 219 0 1 RX6 := ⟨⟨_, _, _, (by decide +kernel : mm_C RL 46 = some (RL, 46, 0, 219, 1318))⟩, _, rfl, rfl, rfl, rfl⟩
theorem c_RL_52 : Cal RL 52 0 220 2 6 RX6 := ⟨⟨_, _, _, (by decide +kernel : mm_C RL 52 = some (RL, 52, 0, 220, 1322))⟩, _, rfl, rfl, rfl, rfl⟩
theorem c_RX6_375 : Cal RX6 375 0 221 0 1 RX6 := ⟨⟨_, _, _, (by decide +kernel : mm_C RX6 375 = some (RX6, 375, 0, 221, 1326))⟩, _, rfl, rfl, rfl, rfl⟩
theorem c_RL_55 : Cal RL 55 0 222 2 5 RX6 := ⟨⟨_, _, _, (by decide +kernel : mm_C RL 55 = some (RL, 55, 0, 222, 1330))⟩, _, rfl, rfl, rfl, rfl⟩
theorem m_X5_init : Is 0 RX5 cX5_init 1 (none) "<init>" := ⟨_, rfl, rfl, rfl, rfl, rfl, rfl, rfl⟩
theorem m_X2_init : Is 1 RX2 cX2_init 1 (none) "<init>" := ⟨_, rfl, rfl, rfl, rfl, rfl, rfl, rfl⟩
theorem m_X3_init : Is 2 RX3 cX3_init 1 (none) "<init>" := ⟨_, rfl, rfl, rfl, rfl, rfl, rfl, rfl⟩
theorem m_X5_add : Is 3 RX5 cX5_add 2 (some .boolean) "add" := ⟨_, rfl, rfl, rfl, rfl, rfl, rfl, rfl⟩
theorem m_X0_exists : Is 4 RX0 cX0_exists 1 (some .boolean) "exists" := ⟨_, rfl, rfl, rfl, rfl, rfl, rfl, rfl⟩
theorem m_X2_haveRoomFor : Is 5 RX2 cX2_haveRoomFor 2 (some .boolean) "haveRoomFor" := ⟨_, rfl, rfl, rfl, rfl, rfl, rfl, rfl⟩
theorem m_X2_append : Is 6 RX2 cX2_append 2 (none) "append" := ⟨_, rfl, rfl, rfl, rfl, rfl, rfl, rfl⟩
theorem m_X5_addAll : Is 7 RX5 cX5_addAll 6 (some .boolean) "addAll" := ⟨_, rfl, rfl, rfl, rfl, rfl, rfl, rfl⟩
theorem m_X5_byteOf : Is 8 RX5 cX5_byteOf 3 (some .int) "byteOf" := ⟨_, rfl, rfl, rfl, rfl, rfl, rfl, rfl⟩
theorem m_X3_beginFor : Is 10 RX3 cX3_beginFor 3 (none) "beginFor" := ⟨_, rfl, rfl, rfl, rfl, rfl, rfl, rfl⟩
theorem m_X3_makeRows : Is 11 RX3 cX3_makeRows 2 (none) "makeRows" := ⟨_, rfl, rfl, rfl, rfl, rfl, rfl, rfl⟩
theorem m_X1_init : Is 12 RX1 cX1_init 3 (none) "<init>" := ⟨_, rfl, rfl, rfl, rfl, rfl, rfl, rfl⟩
theorem m_X2_kindAt : Is 13 RX2 cX2_kindAt 2 (some .int) "kindAt" := ⟨_, rfl, rfl, rfl, rfl, rfl, rfl, rfl⟩
theorem m_X1_file : Is 14 RX1 cX1_file 3 (none) "file" := ⟨_, rfl, rfl, rfl, rfl, rfl, rfl, rfl⟩
theorem m_X1_expect : Is 15 RX1 cX1_expect 2 (some .int) "expect" := ⟨_, rfl, rfl, rfl, rfl, rfl, rfl, rfl⟩
theorem m_X1_sees : Is 16 RX1 cX1_sees 2 (some .boolean) "sees" := ⟨_, rfl, rfl, rfl, rfl, rfl, rfl, rfl⟩
theorem m_X1_refuse : Is 17 RX1 cX1_refuse 1 (none) "refuse" := ⟨_, rfl, rfl, rfl, rfl, rfl, rfl, rfl⟩
theorem m_X1_take : Is 18 RX1 cX1_take 2 (some .int) "take" := ⟨_, rfl, rfl, rfl, rfl, rfl, rfl, rfl⟩
theorem m_X1_name : Is 19 RX1 cX1_name 1 (none) "name" := ⟨_, rfl, rfl, rfl, rfl, rfl, rfl, rfl⟩
theorem m_X3_put : Is 20 RX3 cX3_put 7 (none) "put" := ⟨_, rfl, rfl, rfl, rfl, rfl, rfl, rfl⟩
theorem m_X3_spanPutAt : Is 21 RX3 cX3_spanPutAt 2 (some .int) "spanPutAt" := ⟨_, rfl, rfl, rfl, rfl, rfl, rfl, rfl⟩
theorem m_X1_functionDecl : Is 22 RX1 cX1_functionDecl 3 (none) "functionDecl" := ⟨_, rfl, rfl, rfl, rfl, rfl, rfl, rfl⟩
theorem m_X1_receiver : Is 23 RX1 cX1_receiver 3 (none) "receiver" := ⟨_, rfl, rfl, rfl, rfl, rfl, rfl, rfl⟩
theorem m_X1_enter : Is 24 RX1 cX1_enter 2 (some .int) "enter" := ⟨_, rfl, rfl, rfl, rfl, rfl, rfl, rfl⟩
theorem m_X1_openPart : Is 25 RX1 cX1_openPart 1 (none) "openPart" := ⟨_, rfl, rfl, rfl, rfl, rfl, rfl, rfl⟩
theorem m_X1_type : Is 26 RX1 cX1_type 1 (none) "type" := ⟨_, rfl, rfl, rfl, rfl, rfl, rfl, rfl⟩
theorem m_X0_beginsType : Is 27 RX0 cX0_beginsType 1 (some .boolean) "beginsType" := ⟨_, rfl, rfl, rfl, rfl, rfl, rfl, rfl⟩
theorem m_X1_listType : Is 28 RX1 cX1_listType 4 (none) "listType" := ⟨_, rfl, rfl, rfl, rfl, rfl, rfl, rfl⟩
theorem m_X1_expr : Is 29 RX1 cX1_expr 4 (none) "expr" := ⟨_, rfl, rfl, rfl, rfl, rfl, rfl, rfl⟩
theorem m_X1_unary : Is 30 RX1 cX1_unary 5 (none) "unary" := ⟨_, rfl, rfl, rfl, rfl, rfl, rfl, rfl⟩
theorem m_X1_seesUnarySign : Is 31 RX1 cX1_seesUnarySign 2 (some .boolean) "seesUnarySign" := ⟨_, rfl, rfl, rfl, rfl, rfl, rfl, rfl⟩
theorem m_X1_nextKind : Is 32 RX1 cX1_nextKind 1 (some .int) "nextKind" := ⟨_, rfl, rfl, rfl, rfl, rfl, rfl, rfl⟩
theorem m_X0_isUnarySign : Is 33 RX0 cX0_isUnarySign 1 (some .boolean) "isUnarySign" := ⟨_, rfl, rfl, rfl, rfl, rfl, rfl, rfl⟩
theorem m_X1_primary : Is 34 RX1 cX1_primary 4 (none) "primary" := ⟨_, rfl, rfl, rfl, rfl, rfl, rfl, rfl⟩
theorem m_X1_operand : Is 35 RX1 cX1_operand 2 (none) "operand" := ⟨_, rfl, rfl, rfl, rfl, rfl, rfl, rfl⟩
theorem m_X1_putLeaf : Is 36 RX1 cX1_putLeaf 2 (none) "putLeaf" := ⟨_, rfl, rfl, rfl, rfl, rfl, rfl, rfl⟩
theorem m_X1_elements : Is 37 RX1 cX1_elements 9 (none) "elements" := ⟨_, rfl, rfl, rfl, rfl, rfl, rfl, rfl⟩
theorem m_X1_value : Is 38 RX1 cX1_value 1 (none) "value" := ⟨_, rfl, rfl, rfl, rfl, rfl, rfl, rfl⟩
theorem m_X1_accept : Is 39 RX1 cX1_accept 3 (some .boolean) "accept" := ⟨_, rfl, rfl, rfl, rfl, rfl, rfl, rfl⟩
theorem m_X1_leave : Is 40 RX1 cX1_leave 2 (none) "leave" := ⟨_, rfl, rfl, rfl, rfl, rfl, rfl, rfl⟩
theorem m_X1_closePart : Is 41 RX1 cX1_closePart 1 (none) "closePart" := ⟨_, rfl, rfl, rfl, rfl, rfl, rfl, rfl⟩
theorem m_X1_paren : Is 42 RX1 cX1_paren 3 (none) "paren" := ⟨_, rfl, rfl, rfl, rfl, rfl, rfl, rfl⟩
theorem m_X1_functionOrType : Is 43 RX1 cX1_functionOrType 2 (none) "functionOrType" := ⟨_, rfl, rfl, rfl, rfl, rfl, rfl, rfl⟩
theorem m_X1_signature : Is 44 RX1 cX1_signature 3 (none) "signature" := ⟨_, rfl, rfl, rfl, rfl, rfl, rfl, rfl⟩
theorem m_X1_params : Is 45 RX1 cX1_params 8 (none) "params" := ⟨_, rfl, rfl, rfl, rfl, rfl, rfl, rfl⟩
theorem m_X1_param : Is 46 RX1 cX1_param 8 (some .int) "param" := ⟨_, rfl, rfl, rfl, rfl, rfl, rfl, rfl⟩
theorem m_X1_block : Is 47 RX1 cX1_block 3 (none) "block" := ⟨_, rfl, rfl, rfl, rfl, rfl, rfl, rfl⟩
theorem m_X1_stmts : Is 48 RX1 cX1_stmts 4 (some .int) "stmts" := ⟨_, rfl, rfl, rfl, rfl, rfl, rfl, rfl⟩
theorem m_X1_stmt : Is 49 RX1 cX1_stmt 1 (some .boolean) "stmt" := ⟨_, rfl, rfl, rfl, rfl, rfl, rfl, rfl⟩
theorem m_X1_decl : Is 50 RX1 cX1_decl 4 (none) "decl" := ⟨_, rfl, rfl, rfl, rfl, rfl, rfl, rfl⟩
theorem m_X1_group : Is 51 RX1 cX1_group 5 (some .int) "group" := ⟨_, rfl, rfl, rfl, rfl, rfl, rfl, rfl⟩
theorem m_X1_spec : Is 52 RX1 cX1_spec 2 (none) "spec" := ⟨_, rfl, rfl, rfl, rfl, rfl, rfl, rfl⟩
theorem m_X1_constSpec : Is 53 RX1 cX1_constSpec 3 (none) "constSpec" := ⟨_, rfl, rfl, rfl, rfl, rfl, rfl, rfl⟩
theorem m_X1_names : Is 54 RX1 cX1_names 3 (none) "names" := ⟨_, rfl, rfl, rfl, rfl, rfl, rfl, rfl⟩
theorem m_X1_exprs : Is 55 RX1 cX1_exprs 2 (none) "exprs" := ⟨_, rfl, rfl, rfl, rfl, rfl, rfl, rfl⟩
theorem m_X1_restOfExprs : Is 56 RX1 cX1_restOfExprs 4 (none) "restOfExprs" := ⟨_, rfl, rfl, rfl, rfl, rfl, rfl, rfl⟩
theorem m_X1_typeSpec : Is 57 RX1 cX1_typeSpec 2 (none) "typeSpec" := ⟨_, rfl, rfl, rfl, rfl, rfl, rfl, rfl⟩
theorem m_X1_varSpec : Is 58 RX1 cX1_varSpec 3 (none) "varSpec" := ⟨_, rfl, rfl, rfl, rfl, rfl, rfl, rfl⟩
theorem m_X1_groupWhat : Is 59 RX1 cX1_groupWhat 1 (some .int) "groupWhat" := ⟨_, rfl, rfl, rfl, rfl, rfl, rfl, rfl⟩
theorem m_X1_ifStmt : Is 60 RX1 cX1_ifStmt 4 (none) "ifStmt" := ⟨_, rfl, rfl, rfl, rfl, rfl, rfl, rfl⟩
theorem m_X1_opening : Is 61 RX1 cX1_opening 7 (some .int) "opening" := ⟨_, rfl, rfl, rfl, rfl, rfl, rfl, rfl⟩
theorem m_X1_simple : Is 62 RX1 cX1_simple 6 (some .int) "simple" := ⟨_, rfl, rfl, rfl, rfl, rfl, rfl, rfl⟩
theorem m_X1_putGuard : Is 63 RX1 cX1_putGuard 2 (none) "putGuard" := ⟨_, rfl, rfl, rfl, rfl, rfl, rfl, rfl⟩
theorem m_X1_isNameFrom : Is 64 RX1 cX1_isNameFrom 2 (some .boolean) "isNameFrom" := ⟨_, rfl, rfl, rfl, rfl, rfl, rfl, rfl⟩
theorem m_X1_assign : Is 65 RX1 cX1_assign 4 (some .int) "assign" := ⟨_, rfl, rfl, rfl, rfl, rfl, rfl, rfl⟩
theorem m_X1_define : Is 66 RX1 cX1_define 5 (some .int) "define" := ⟨_, rfl, rfl, rfl, rfl, rfl, rfl, rfl⟩
theorem m_X1_behindExpr : Is 67 RX1 cX1_behindExpr 3 (some .int) "behindExpr" := ⟨_, rfl, rfl, rfl, rfl, rfl, rfl, rfl⟩
theorem m_X0_isOpAssign : Is 68 RX0 cX0_isOpAssign 1 (some .boolean) "isOpAssign" := ⟨_, rfl, rfl, rfl, rfl, rfl, rfl, rfl⟩
theorem m_X1_elseBranch : Is 69 RX1 cX1_elseBranch 1 (none) "elseBranch" := ⟨_, rfl, rfl, rfl, rfl, rfl, rfl, rfl⟩
theorem m_X1_switchStmt : Is 70 RX1 cX1_switchStmt 6 (none) "switchStmt" := ⟨_, rfl, rfl, rfl, rfl, rfl, rfl, rfl⟩
theorem m_X1_tag : Is 71 RX1 cX1_tag 2 (some .boolean) "tag" := ⟨_, rfl, rfl, rfl, rfl, rfl, rfl, rfl⟩
theorem m_X1_clauses : Is 72 RX1 cX1_clauses 3 (some .int) "clauses" := ⟨_, rfl, rfl, rfl, rfl, rfl, rfl, rfl⟩
theorem m_X1_caseClause : Is 73 RX1 cX1_caseClause 3 (none) "caseClause" := ⟨_, rfl, rfl, rfl, rfl, rfl, rfl, rfl⟩
theorem m_X1_types : Is 74 RX1 cX1_types 3 (none) "types" := ⟨_, rfl, rfl, rfl, rfl, rfl, rfl, rfl⟩
theorem m_X1_wholeSimple : Is 75 RX1 cX1_wholeSimple 3 (none) "wholeSimple" := ⟨_, rfl, rfl, rfl, rfl, rfl, rfl, rfl⟩
theorem m_X1_clauseBody : Is 76 RX1 cX1_clauseBody 2 (none) "clauseBody" := ⟨_, rfl, rfl, rfl, rfl, rfl, rfl, rfl⟩
theorem m_X1_defaultClause : Is 77 RX1 cX1_defaultClause 3 (none) "defaultClause" := ⟨_, rfl, rfl, rfl, rfl, rfl, rfl, rfl⟩
theorem m_X1_selectStmt : Is 78 RX1 cX1_selectStmt 2 (none) "selectStmt" := ⟨_, rfl, rfl, rfl, rfl, rfl, rfl, rfl⟩
theorem m_X1_forStmt : Is 79 RX1 cX1_forStmt 4 (none) "forStmt" := ⟨_, rfl, rfl, rfl, rfl, rfl, rfl, rfl⟩
theorem m_X1_forHead : Is 80 RX1 cX1_forHead 2 (some .int) "forHead" := ⟨_, rfl, rfl, rfl, rfl, rfl, rfl, rfl⟩
theorem m_X1_range : Is 81 RX1 cX1_range 3 (none) "range" := ⟨_, rfl, rfl, rfl, rfl, rfl, rfl, rfl⟩
theorem m_X1_restOfForHead : Is 82 RX1 cX1_restOfForHead 3 (none) "restOfForHead" := ⟨_, rfl, rfl, rfl, rfl, rfl, rfl, rfl⟩
theorem m_X1_wordStmt : Is 83 RX1 cX1_wordStmt 1 (some .boolean) "wordStmt" := ⟨_, rfl, rfl, rfl, rfl, rfl, rfl, rfl⟩
theorem m_X1_startStmt : Is 84 RX1 cX1_startStmt 3 (none) "startStmt" := ⟨_, rfl, rfl, rfl, rfl, rfl, rfl, rfl⟩
theorem m_X1_returnStmt : Is 85 RX1 cX1_returnStmt 3 (none) "returnStmt" := ⟨_, rfl, rfl, rfl, rfl, rfl, rfl, rfl⟩
theorem m_X0_beginsExpr : Is 86 RX0 cX0_beginsExpr 1 (some .boolean) "beginsExpr" := ⟨_, rfl, rfl, rfl, rfl, rfl, rfl, rfl⟩
theorem m_X1_jumpStmt : Is 87 RX1 cX1_jumpStmt 4 (none) "jumpStmt" := ⟨_, rfl, rfl, rfl, rfl, rfl, rfl, rfl⟩
theorem m_X1_simpleStmt : Is 88 RX1 cX1_simpleStmt 1 (some .boolean) "simpleStmt" := ⟨_, rfl, rfl, rfl, rfl, rfl, rfl, rfl⟩
theorem m_X1_labeledStmt : Is 89 RX1 cX1_labeledStmt 3 (none) "labeledStmt" := ⟨_, rfl, rfl, rfl, rfl, rfl, rfl, rfl⟩
theorem m_X1_countedArrayType : Is 90 RX1 cX1_countedArrayType 2 (none) "countedArrayType" := ⟨_, rfl, rfl, rfl, rfl, rfl, rfl, rfl⟩
theorem m_X1_behindOperand : Is 91 RX1 cX1_behindOperand 2 (some .boolean) "behindOperand" := ⟨_, rfl, rfl, rfl, rfl, rfl, rfl, rfl⟩
theorem m_X1_dot : Is 92 RX1 cX1_dot 4 (some .boolean) "dot" := ⟨_, rfl, rfl, rfl, rfl, rfl, rfl, rfl⟩
theorem m_X1_index : Is 93 RX1 cX1_index 5 (none) "index" := ⟨_, rfl, rfl, rfl, rfl, rfl, rfl, rfl⟩
theorem m_X1_upperBounds : Is 94 RX1 cX1_upperBounds 1 (some .int) "upperBounds" := ⟨_, rfl, rfl, rfl, rfl, rfl, rfl, rfl⟩
theorem m_X1_call : Is 95 RX1 cX1_call 6 (none) "call" := ⟨_, rfl, rfl, rfl, rfl, rfl, rfl, rfl⟩
theorem m_X0_binding : Is 96 RX0 cX0_binding 1 (some .int) "binding" := ⟨_, rfl, rfl, rfl, rfl, rfl, rfl, rfl⟩
theorem m_X1_putWaiting : Is 97 RX1 cX1_putWaiting 4 (none) "putWaiting" := ⟨_, rfl, rfl, rfl, rfl, rfl, rfl, rfl⟩
theorem m_X1_await : Is 98 RX1 cX1_await 2 (none) "await" := ⟨_, rfl, rfl, rfl, rfl, rfl, rfl, rfl⟩
theorem m_X1_mapType : Is 99 RX1 cX1_mapType 2 (none) "mapType" := ⟨_, rfl, rfl, rfl, rfl, rfl, rfl, rfl⟩
theorem m_X1_chanType : Is 100 RX1 cX1_chanType 3 (none) "chanType" := ⟨_, rfl, rfl, rfl, rfl, rfl, rfl, rfl⟩
theorem m_X1_receiveChanType : Is 101 RX1 cX1_receiveChanType 2 (none) "receiveChanType" := ⟨_, rfl, rfl, rfl, rfl, rfl, rfl, rfl⟩
theorem m_X1_pointerType : Is 102 RX1 cX1_pointerType 2 (none) "pointerType" := ⟨_, rfl, rfl, rfl, rfl, rfl, rfl, rfl⟩
theorem m_X1_structType : Is 103 RX1 cX1_structType 5 (none) "structType" := ⟨_, rfl, rfl, rfl, rfl, rfl, rfl, rfl⟩
theorem m_X1_functionType : Is 104 RX1 cX1_functionType 2 (none) "functionType" := ⟨_, rfl, rfl, rfl, rfl, rfl, rfl, rfl⟩
theorem m_X1_interfaceType : Is 105 RX1 cX1_interfaceType 5 (none) "interfaceType" := ⟨_, rfl, rfl, rfl, rfl, rfl, rfl, rfl⟩
theorem m_X0_beginsDecl : Is 106 RX0 cX0_beginsDecl 1 (some .boolean) "beginsDecl" := ⟨_, rfl, rfl, rfl, rfl, rfl, rfl, rfl⟩
theorem m_X3_number : Is 107 RX3 cX3_number 2 (none) "number" := ⟨_, rfl, rfl, rfl, rfl, rfl, rfl, rfl⟩
theorem m_X3_numberChildren : Is 108 RX3 cX3_numberChildren 8 (none) "numberChildren" := ⟨_, rfl, rfl, rfl, rfl, rfl, rfl, rfl⟩
theorem m_X3_spanOf : Is 109 RX3 cX3_spanOf 2 (some .int) "spanOf" := ⟨_, rfl, rfl, rfl, rfl, rfl, rfl, rfl⟩
theorem m_X3_placeOf : Is 110 RX3 cX3_placeOf 2 (some .int) "placeOf" := ⟨_, rfl, rfl, rfl, rfl, rfl, rfl, rfl⟩
theorem m_X3_read : Is 111 RX3 cX3_read 3 (some .int) "read" := ⟨_, rfl, rfl, rfl, rfl, rfl, rfl, rfl⟩
theorem m_X3_childrenOf : Is 112 RX3 cX3_childrenOf 2 (some .int) "childrenOf" := ⟨_, rfl, rfl, rfl, rfl, rfl, rfl, rfl⟩
theorem m_X5_size : Is 113 RX5 cX5_size 1 (some .int) "size" := ⟨_, rfl, rfl, rfl, rfl, rfl, rfl, rfl⟩
theorem m_X5_nodes : Is 114 RX5 cX5_nodes 1 (some .int) "nodes" := ⟨_, rfl, rfl, rfl, rfl, rfl, rfl, rfl⟩
theorem m_X5_node : Is 116 RX5 cX5_node 3 (some .int) "node" := ⟨_, rfl, rfl, rfl, rfl, rfl, rfl, rfl⟩
theorem m_X3_has : Is 117 RX3 cX3_has 2 (some .boolean) "has" := ⟨_, rfl, rfl, rfl, rfl, rfl, rfl, rfl⟩
theorem m_X3_whatOf : Is 118 RX3 cX3_whatOf 2 (some .int) "whatOf" := ⟨_, rfl, rfl, rfl, rfl, rfl, rfl, rfl⟩
theorem m_X3_tokenOf : Is 119 RX3 cX3_tokenOf 2 (some .int) "tokenOf" := ⟨_, rfl, rfl, rfl, rfl, rfl, rfl, rfl⟩
theorem m_X3_parentOf : Is 120 RX3 cX3_parentOf 2 (some .int) "parentOf" := ⟨_, rfl, rfl, rfl, rfl, rfl, rfl, rfl⟩
theorem m_X5_child : Is 122 RX5 cX5_child 5 (some .int) "child" := ⟨_, rfl, rfl, rfl, rfl, rfl, rfl, rfl⟩
theorem m_X6_init : Is 123 RX6 cX6_init 1 (none) "<init>" := ⟨_, rfl, rfl, rfl, rfl, rfl, rfl, rfl⟩
theorem m_X6_add : Is 124 RX6 cX6_add 2 (some .boolean) "add" := ⟨_, rfl, rfl, rfl, rfl, rfl, rfl, rfl⟩
theorem m_X6_isKind : Is 125 RX6 cX6_isKind 1 (some .boolean) "isKind" := ⟨_, rfl, rfl, rfl, rfl, rfl, rfl, rfl⟩
theorem m_X6_addAll : Is 126 RX6 cX6_addAll 6 (some .boolean) "addAll" := ⟨_, rfl, rfl, rfl, rfl, rfl, rfl, rfl⟩
theorem m_X6_size : Is 127 RX6 cX6_size 1 (some .int) "size" := ⟨_, rfl, rfl, rfl, rfl, rfl, rfl, rfl⟩
theorem m_X6_build : Is 128 RX6 cX6_build 2 (some .int) "build" := ⟨_, rfl, rfl, rfl, rfl, rfl, rfl, rfl⟩
theorem m_X6_child : Is 129 RX6 cX6_child 4 (some .int) "child" := ⟨_, rfl, rfl, rfl, rfl, rfl, rfl, rfl⟩
theorem m_X6_pass : Is 130 RX6 cX6_pass 2 (none) "pass" := ⟨_, rfl, rfl, rfl, rfl, rfl, rfl, rfl⟩
theorem m_X6_look : Is 131 RX6 cX6_look 1 (some .int) "look" := ⟨_, rfl, rfl, rfl, rfl, rfl, rfl, rfl⟩
theorem m_X6_error : Is 132 RX6 cX6_error 1 (none) "error" := ⟨_, rfl, rfl, rfl, rfl, rfl, rfl, rfl⟩
theorem m_X6_name : Is 133 RX6 cX6_name 3 (some .int) "name" := ⟨_, rfl, rfl, rfl, rfl, rfl, rfl, rfl⟩
theorem m_X6_push : Is 134 RX6 cX6_push 4 (none) "push" := ⟨_, rfl, rfl, rfl, rfl, rfl, rfl, rfl⟩
theorem m_X6_step : Is 135 RX6 cX6_step 4 (none) "step" := ⟨_, rfl, rfl, rfl, rfl, rfl, rfl, rfl⟩
theorem m_X6_binary : Is 136 RX6 cX6_binary 6 (none) "binary" := ⟨_, rfl, rfl, rfl, rfl, rfl, rfl, rfl⟩
theorem m_X6_strength : Is 137 RX6 cX6_strength 1 (some .int) "strength" := ⟨_, rfl, rfl, rfl, rfl, rfl, rfl, rfl⟩
theorem m_X6_wrap : Is 138 RX6 cX6_wrap 8 (some .int) "wrap" := ⟨_, rfl, rfl, rfl, rfl, rfl, rfl, rfl⟩
theorem m_X6_expression : Is 139 RX6 cX6_expression 4 (none) "expression" := ⟨_, rfl, rfl, rfl, rfl, rfl, rfl, rfl⟩
theorem m_X6_unary : Is 140 RX6 cX6_unary 5 (none) "unary" := ⟨_, rfl, rfl, rfl, rfl, rfl, rfl, rfl⟩
theorem m_X6_isUnary : Is 141 RX6 cX6_isUnary 1 (some .boolean) "isUnary" := ⟨_, rfl, rfl, rfl, rfl, rfl, rfl, rfl⟩
theorem m_X6_ahead : Is 142 RX6 cX6_ahead 1 (some .int) "ahead" := ⟨_, rfl, rfl, rfl, rfl, rfl, rfl, rfl⟩
theorem m_X6_more : Is 143 RX6 cX6_more 1 (none) "more" := ⟨_, rfl, rfl, rfl, rfl, rfl, rfl, rfl⟩
theorem m_X6_operand : Is 144 RX6 cX6_operand 5 (none) "operand" := ⟨_, rfl, rfl, rfl, rfl, rfl, rfl, rfl⟩
theorem m_X6_postfix : Is 145 RX6 cX6_postfix 5 (none) "postfix" := ⟨_, rfl, rfl, rfl, rfl, rfl, rfl, rfl⟩
theorem m_X6_dot : Is 146 RX6 cX6_dot 5 (none) "dot" := ⟨_, rfl, rfl, rfl, rfl, rfl, rfl, rfl⟩
theorem m_X6_has : Is 147 RX6 cX6_has 2 (some .boolean) "has" := ⟨_, rfl, rfl, rfl, rfl, rfl, rfl, rfl⟩
theorem m_X6_slice : Is 148 RX6 cX6_slice 2 (none) "slice" := ⟨_, rfl, rfl, rfl, rfl, rfl, rfl, rfl⟩
theorem m_X6_value_ : Is 149 RX6 cX6_value_ 4 (none) "value" := ⟨_, rfl, rfl, rfl, rfl, rfl, rfl, rfl⟩
theorem m_X6_literal : Is 150 RX6 cX6_literal 8 (none) "literal" := ⟨_, rfl, rfl, rfl, rfl, rfl, rfl, rfl⟩
theorem m_X6_args : Is 151 RX6 cX6_args 2 (none) "args" := ⟨_, rfl, rfl, rfl, rfl, rfl, rfl, rfl⟩
theorem m_X6_argsMore : Is 152 RX6 cX6_argsMore 2 (none) "argsMore" := ⟨_, rfl, rfl, rfl, rfl, rfl, rfl, rfl⟩
theorem m_X6_index : Is 153 RX6 cX6_index 2 (none) "index" := ⟨_, rfl, rfl, rfl, rfl, rfl, rfl, rfl⟩
theorem m_X6_sliced : Is 154 RX6 cX6_sliced 2 (none) "sliced" := ⟨_, rfl, rfl, rfl, rfl, rfl, rfl, rfl⟩
theorem m_X6_sliceMore : Is 155 RX6 cX6_sliceMore 2 (none) "sliceMore" := ⟨_, rfl, rfl, rfl, rfl, rfl, rfl, rfl⟩
theorem m_X6_elements : Is 156 RX6 cX6_elements 3 (none) "elements" := ⟨_, rfl, rfl, rfl, rfl, rfl, rfl, rfl⟩
theorem m_X6_elementsMore : Is 157 RX6 cX6_elementsMore 2 (none) "elementsMore" := ⟨_, rfl, rfl, rfl, rfl, rfl, rfl, rfl⟩
theorem m_X6_keyed : Is 158 RX6 cX6_keyed 2 (none) "keyed" := ⟨_, rfl, rfl, rfl, rfl, rfl, rfl, rfl⟩
theorem m_X6_value : Is 159 RX6 cX6_value 3 (none) "value" := ⟨_, rfl, rfl, rfl, rfl, rfl, rfl, rfl⟩
theorem m_X6_typing : Is 160 RX6 cX6_typing 4 (none) "typing" := ⟨_, rfl, rfl, rfl, rfl, rfl, rfl, rfl⟩
theorem m_X6_type : Is 161 RX6 cX6_type 5 (none) "type" := ⟨_, rfl, rfl, rfl, rfl, rfl, rfl, rfl⟩
theorem m_X6_beginsType : Is 162 RX6 cX6_beginsType 1 (some .boolean) "beginsType" := ⟨_, rfl, rfl, rfl, rfl, rfl, rfl, rfl⟩
theorem m_X6_array : Is 163 RX6 cX6_array 4 (none) "array" := ⟨_, rfl, rfl, rfl, rfl, rfl, rfl, rfl⟩
theorem m_X6_functionTail : Is 164 RX6 cX6_functionTail 2 (none) "functionTail" := ⟨_, rfl, rfl, rfl, rfl, rfl, rfl, rfl⟩
theorem m_X6_block : Is 165 RX6 cX6_block 3 (none) "block" := ⟨_, rfl, rfl, rfl, rfl, rfl, rfl, rfl⟩
theorem m_X6_signature : Is 166 RX6 cX6_signature 3 (none) "signature" := ⟨_, rfl, rfl, rfl, rfl, rfl, rfl, rfl⟩
theorem m_X6_result : Is 167 RX6 cX6_result 3 (none) "result" := ⟨_, rfl, rfl, rfl, rfl, rfl, rfl, rfl⟩
theorem m_X6_params : Is 168 RX6 cX6_params 3 (none) "params" := ⟨_, rfl, rfl, rfl, rfl, rfl, rfl, rfl⟩
theorem m_X6_param : Is 169 RX6 cX6_param 7 (none) "param" := ⟨_, rfl, rfl, rfl, rfl, rfl, rfl, rfl⟩
theorem m_X6_paramMore : Is 170 RX6 cX6_paramMore 3 (none) "paramMore" := ⟨_, rfl, rfl, rfl, rfl, rfl, rfl, rfl⟩
theorem m_X6_fields : Is 171 RX6 cX6_fields 3 (none) "fields" := ⟨_, rfl, rfl, rfl, rfl, rfl, rfl, rfl⟩
theorem m_X6_fieldsMore : Is 172 RX6 cX6_fieldsMore 3 (none) "fieldsMore" := ⟨_, rfl, rfl, rfl, rfl, rfl, rfl, rfl⟩
theorem m_X6_methods : Is 173 RX6 cX6_methods 3 (none) "methods" := ⟨_, rfl, rfl, rfl, rfl, rfl, rfl, rfl⟩
theorem m_X6_declaring : Is 174 RX6 cX6_declaring 4 (none) "declaring" := ⟨_, rfl, rfl, rfl, rfl, rfl, rfl, rfl⟩
theorem m_X6_names : Is 175 RX6 cX6_names 3 (none) "names" := ⟨_, rfl, rfl, rfl, rfl, rfl, rfl, rfl⟩
theorem m_X6_namesMore : Is 176 RX6 cX6_namesMore 2 (none) "namesMore" := ⟨_, rfl, rfl, rfl, rfl, rfl, rfl, rfl⟩
theorem m_X6_exprsMore : Is 177 RX6 cX6_exprsMore 3 (none) "exprsMore" := ⟨_, rfl, rfl, rfl, rfl, rfl, rfl, rfl⟩
theorem m_X6_spec : Is 178 RX6 cX6_spec 4 (none) "spec" := ⟨_, rfl, rfl, rfl, rfl, rfl, rfl, rfl⟩
theorem m_X6_specs : Is 179 RX6 cX6_specs 3 (none) "specs" := ⟨_, rfl, rfl, rfl, rfl, rfl, rfl, rfl⟩
theorem m_X6_specsMore : Is 180 RX6 cX6_specsMore 3 (none) "specsMore" := ⟨_, rfl, rfl, rfl, rfl, rfl, rfl, rfl⟩
theorem m_X6_constRest : Is 181 RX6 cX6_constRest 2 (none) "constRest" := ⟨_, rfl, rfl, rfl, rfl, rfl, rfl, rfl⟩
theorem m_X6_valued : Is 182 RX6 cX6_valued 3 (none) "valued" := ⟨_, rfl, rfl, rfl, rfl, rfl, rfl, rfl⟩
theorem m_X6_exprs : Is 183 RX6 cX6_exprs 4 (none) "exprs" := ⟨_, rfl, rfl, rfl, rfl, rfl, rfl, rfl⟩
theorem m_X6_varRest : Is 184 RX6 cX6_varRest 2 (none) "varRest" := ⟨_, rfl, rfl, rfl, rfl, rfl, rfl, rfl⟩
theorem m_X6_statements : Is 185 RX6 cX6_statements 3 (none) "statements" := ⟨_, rfl, rfl, rfl, rfl, rfl, rfl, rfl⟩
theorem m_X6_beginsStatement : Is 186 RX6 cX6_beginsStatement 1 (some .boolean) "beginsStatement" := ⟨_, rfl, rfl, rfl, rfl, rfl, rfl, rfl⟩
theorem m_X6_beginsExpr : Is 187 RX6 cX6_beginsExpr 1 (some .boolean) "beginsExpr" := ⟨_, rfl, rfl, rfl, rfl, rfl, rfl, rfl⟩
theorem m_X6_statement : Is 188 RX6 cX6_statement 4 (none) "statement" := ⟨_, rfl, rfl, rfl, rfl, rfl, rfl, rfl⟩
theorem m_X6_declaration : Is 189 RX6 cX6_declaration 4 (none) "declaration" := ⟨_, rfl, rfl, rfl, rfl, rfl, rfl, rfl⟩
theorem m_X6_ifs : Is 190 RX6 cX6_ifs 3 (none) "ifs" := ⟨_, rfl, rfl, rfl, rfl, rfl, rfl, rfl⟩
theorem m_X6_loop : Is 191 RX6 cX6_loop 5 (none) "loop" := ⟨_, rfl, rfl, rfl, rfl, rfl, rfl, rfl⟩
theorem m_X6_condition : Is 192 RX6 cX6_condition 3 (none) "condition" := ⟨_, rfl, rfl, rfl, rfl, rfl, rfl, rfl⟩
theorem m_X6_choice : Is 193 RX6 cX6_choice 3 (none) "choice" := ⟨_, rfl, rfl, rfl, rfl, rfl, rfl, rfl⟩
theorem m_X6_body : Is 194 RX6 cX6_body 3 (none) "body" := ⟨_, rfl, rfl, rfl, rfl, rfl, rfl, rfl⟩
theorem m_X6_second : Is 195 RX6 cX6_second 2 (none) "second" := ⟨_, rfl, rfl, rfl, rfl, rfl, rfl, rfl⟩
theorem m_X6_leaving : Is 196 RX6 cX6_leaving 4 (none) "leaving" := ⟨_, rfl, rfl, rfl, rfl, rfl, rfl, rfl⟩
theorem m_X6_statementsMore : Is 197 RX6 cX6_statementsMore 2 (none) "statementsMore" := ⟨_, rfl, rfl, rfl, rfl, rfl, rfl, rfl⟩
theorem m_X6_stating : Is 198 RX6 cX6_stating 4 (none) "stating" := ⟨_, rfl, rfl, rfl, rfl, rfl, rfl, rfl⟩
theorem m_X6_simple : Is 199 RX6 cX6_simple 3 (none) "simple" := ⟨_, rfl, rfl, rfl, rfl, rfl, rfl, rfl⟩
theorem m_X6_simpleRest : Is 200 RX6 cX6_simpleRest 9 (none) "simpleRest" := ⟨_, rfl, rfl, rfl, rfl, rfl, rfl, rfl⟩
theorem m_X6_assign : Is 201 RX6 cX6_assign 4 (none) "assign" := ⟨_, rfl, rfl, rfl, rfl, rfl, rfl, rfl⟩
theorem m_X6_ranges : Is 202 RX6 cX6_ranges 4 (some .boolean) "ranges" := ⟨_, rfl, rfl, rfl, rfl, rfl, rfl, rfl⟩
theorem m_X6_right : Is 203 RX6 cX6_right 5 (none) "right" := ⟨_, rfl, rfl, rfl, rfl, rfl, rfl, rfl⟩
theorem m_X6_define : Is 204 RX6 cX6_define 6 (none) "define" := ⟨_, rfl, rfl, rfl, rfl, rfl, rfl, rfl⟩
theorem m_X6_listRest : Is 205 RX6 cX6_listRest 6 (none) "listRest" := ⟨_, rfl, rfl, rfl, rfl, rfl, rfl, rfl⟩
theorem m_X6_ifRest : Is 206 RX6 cX6_ifRest 2 (none) "ifRest" := ⟨_, rfl, rfl, rfl, rfl, rfl, rfl, rfl⟩
theorem m_X6_unwrap : Is 207 RX6 cX6_unwrap 6 (none) "unwrap" := ⟨_, rfl, rfl, rfl, rfl, rfl, rfl, rfl⟩
theorem m_X6_ifElse : Is 208 RX6 cX6_ifElse 2 (none) "ifElse" := ⟨_, rfl, rfl, rfl, rfl, rfl, rfl, rfl⟩
theorem m_X6_forRest : Is 209 RX6 cX6_forRest 2 (none) "forRest" := ⟨_, rfl, rfl, rfl, rfl, rfl, rfl, rfl⟩
theorem m_X6_forPost : Is 210 RX6 cX6_forPost 4 (none) "forPost" := ⟨_, rfl, rfl, rfl, rfl, rfl, rfl, rfl⟩
theorem m_X6_switchRest : Is 211 RX6 cX6_switchRest 3 (none) "switchRest" := ⟨_, rfl, rfl, rfl, rfl, rfl, rfl, rfl⟩
theorem m_X6_clauses : Is 212 RX6 cX6_clauses 6 (none) "clauses" := ⟨_, rfl, rfl, rfl, rfl, rfl, rfl, rfl⟩
theorem m_X6_clause : Is 213 RX6 cX6_clause 3 (none) "clause" := ⟨_, rfl, rfl, rfl, rfl, rfl, rfl, rfl⟩
theorem m_X6_types : Is 214 RX6 cX6_types 2 (none) "types" := ⟨_, rfl, rfl, rfl, rfl, rfl, rfl, rfl⟩
theorem m_X6_tops : Is 215 RX6 cX6_tops 3 (none) "tops" := ⟨_, rfl, rfl, rfl, rfl, rfl, rfl, rfl⟩
theorem m_X6_function : Is 216 RX6 cX6_function 5 (none) "function" := ⟨_, rfl, rfl, rfl, rfl, rfl, rfl, rfl⟩
theorem m_X6_guarded : Is 217 RX6 cX6_guarded 6 (none) "guarded" := ⟨_, rfl, rfl, rfl, rfl, rfl, rfl, rfl⟩
theorem m_X6_numberAll : Is 218 RX6 cX6_numberAll 3 (none) "numberAll" := ⟨_, rfl, rfl, rfl, rfl, rfl, rfl, rfl⟩
theorem m_X6_nodes : Is 219 RX6 cX6_nodes 1 (some .int) "nodes" := ⟨_, rfl, rfl, rfl, rfl, rfl, rfl, rfl⟩
theorem m_X6_node : Is 220 RX6 cX6_node 6 (some .int) "node" := ⟨_, rfl, rfl, rfl, rfl, rfl, rfl, rfl⟩
theorem m_X6_fail : Is 221 RX6 cX6_fail 1 (some .int) "fail" := ⟨_, rfl, rfl, rfl, rfl, rfl, rfl, rfl⟩
theorem m_X6_child_ : Is 222 RX6 cX6_child_ 5 (some .int) "child" := ⟨_, rfl, rfl, rfl, rfl, rfl, rfl, rfl⟩
theorem m_law : Is 223 RL code 7 ret "law" := ⟨_, mm_lawAt, rfl, rfl, rfl, rfl, rfl, rfl⟩
