/-! The tables' words, by their places in lw_tbl -/
def mm_gw : List Cond := lw_tbl.filter goodWord
def mm_odd (w : Cond) : Bool := match w with
  | .methodLinkNest _ _ _ _ => true
  | .fieldLinkNest _ _ _ _ _ _ => true
  | .declares _ => true
  | .castable _ _ => true
  | _ => false
def mm_nest : List Cond := lw_tbl.filter mm_odd
def mm_at (i : Nat) (w : Cond) : Bool := decide (lw_tbl[i]? = some w)
theorem mm_at_in {i : Nat} {w : Cond} (h : mm_at i w = true) : w ∈ lw_tbl := List.mem_of_getElem? (of_decide_eq_true h)
theorem mm_at_gw {i : Nat} {w : Cond} (h : mm_at i w = true) (g : goodWord w = true) : w ∈ mm_gw := List.mem_filter.mpr ⟨mm_at_in h, g⟩
theorem mm_at_nest {i : Nat} {w : Cond} (h : mm_at i w = true) (g : mm_odd w = true) : w ∈ mm_nest := List.mem_filter.mpr ⟨mm_at_in h, g⟩
theorem mm_gw_in {w : Cond} (h : w ∈ mm_gw) : w ∈ lw_tbl := (List.mem_filter.mp h).1
theorem mm_gw_good {w : Cond} (h : w ∈ mm_gw) : goodWord w = true := (List.mem_filter.mp h).2
/-- of each method: static, the place of that word (or instanceMethod), of selects, of initialized -/
def mm_MP0 : List (Bool × Nat × Nat × Nat) := [(false, 203, 0, 188), (false, 211, 0, 189), (false, 226, 0, 190), (false, 264, 265, 188), (true, 268, 0, 192), (false, 272, 0, 189), (false, 276, 1, 189), (false, 279, 280, 188), (true, 283, 0, 188), (false, 286, 287, 188), (false, 292, 2, 190), (false, 299, 3, 190), (false, 304, 0, 194), (false, 309, 4, 189), (false, 342, 5, 194), (false, 346, 6, 194), (false, 350, 7, 194), (false, 354, 8, 194), (false, 424, 10, 194), (false, 428, 11, 194), (false, 432, 12, 190), (false, 436, 13, 190), (false, 440, 14, 194), (false, 444, 15, 194), (false, 448, 16, 194), (false, 452, 17, 194), (false, 456, 18, 194), (true, 459, 0, 192), (false, 463, 19, 194), (false, 467, 20, 194), (false, 471, 21, 194), (false, 475, 22, 194), (false, 479, 23, 194), (true, 482, 0, 192), (false, 486, 24, 194), (false, 490, 25, 194), (false, 494, 26, 194), (false, 498, 27, 194), (false, 502, 28, 194), (false, 506, 29, 194), (false, 510, 30, 194), (false, 514, 31, 194), (false, 518, 32, 194), (false, 522, 33, 194), (false, 526, 34, 194), (false, 530, 35, 194), (false, 534, 36, 194), (false, 538, 37, 194), (false, 542, 38, 194), (false, 546, 39, 194), (false, 550, 40, 194), (false, 554, 41, 194), (false, 558, 42, 194), (false, 562, 43, 194), (false, 566, 44, 194), (false, 570, 45, 194), (false, 574, 46, 194), (false, 578, 47, 194), (false, 582, 48, 194), (true, 585, 0, 194)]
def mm_MP1 : List (Bool × Nat × Nat × Nat) := [(false, 589, 49, 194), (false, 593, 50, 194), (false, 597, 51, 194), (false, 601, 52, 194), (false, 605, 53, 194), (false, 609, 54, 194), (false, 613, 55, 194), (false, 617, 56, 194), (true, 620, 0, 192), (false, 624, 57, 194), (false, 628, 58, 194), (false, 632, 59, 194), (false, 636, 60, 194), (false, 640, 61, 194), (false, 644, 62, 194), (false, 648, 63, 194), (false, 652, 64, 194), (false, 656, 65, 194), (false, 660, 66, 194), (false, 664, 67, 194), (false, 668, 68, 194), (false, 672, 69, 194), (false, 676, 70, 194), (false, 680, 71, 194), (false, 684, 72, 194), (false, 688, 73, 194), (true, 691, 0, 192), (false, 697, 74, 194), (false, 701, 75, 194), (false, 705, 76, 194), (false, 709, 77, 194), (false, 713, 78, 194), (false, 717, 79, 194), (false, 721, 80, 194), (false, 725, 81, 194), (false, 729, 82, 194), (true, 732, 0, 192), (false, 736, 83, 194), (false, 740, 84, 194), (false, 744, 85, 194), (false, 748, 86, 194), (false, 752, 87, 194), (false, 756, 88, 194), (false, 760, 89, 194), (false, 764, 90, 194), (false, 768, 91, 194), (true, 771, 0, 192), (false, 775, 92, 190), (false, 779, 93, 190), (false, 783, 94, 190), (false, 787, 95, 190), (false, 791, 96, 190), (false, 795, 97, 190), (false, 798, 799, 188), (false, 802, 803, 188), (true, 806, 0, 187), (false, 810, 811, 188), (false, 815, 98, 190), (false, 835, 99, 190), (false, 839, 100, 190)]
def mm_MP2 : List (Bool × Nat × Nat × Nat) := [(false, 845, 101, 190), (true, 850, 0, 187), (false, 853, 854, 188), (false, 860, 0, 191), (false, 945, 946, 191), (true, 949, 0, 191), (false, 952, 953, 191), (false, 957, 958, 191), (false, 961, 962, 191), (false, 966, 102, 191), (false, 970, 103, 191), (false, 974, 104, 191), (false, 978, 105, 191), (false, 982, 106, 191), (false, 986, 107, 191), (false, 990, 108, 191), (false, 994, 109, 191), (true, 997, 0, 191), (false, 1001, 110, 191), (false, 1005, 111, 191), (false, 1009, 112, 191), (true, 1012, 0, 191), (false, 1016, 113, 191), (false, 1020, 114, 191), (false, 1024, 115, 191), (false, 1028, 116, 191), (false, 1032, 117, 191), (true, 1035, 0, 191), (false, 1039, 118, 191), (false, 1043, 119, 191), (false, 1047, 120, 191), (false, 1051, 121, 191), (false, 1055, 122, 191), (false, 1059, 123, 191), (false, 1063, 124, 191), (false, 1067, 125, 191), (false, 1071, 126, 191), (false, 1075, 127, 191), (false, 1079, 128, 191), (false, 1083, 129, 191), (false, 1087, 130, 191), (false, 1091, 131, 191), (true, 1094, 0, 191), (false, 1098, 132, 191), (false, 1102, 133, 191), (false, 1106, 134, 191), (false, 1110, 135, 191), (false, 1114, 136, 191), (false, 1118, 137, 191), (false, 1122, 138, 191), (false, 1126, 139, 191), (false, 1130, 140, 191), (false, 1134, 141, 191), (false, 1138, 142, 191), (false, 1142, 143, 191), (false, 1146, 144, 191), (false, 1150, 145, 191), (false, 1154, 146, 191), (false, 1158, 147, 191), (false, 1162, 148, 191)]
def mm_MP3 : List (Bool × Nat × Nat × Nat) := [(false, 1166, 149, 191), (false, 1170, 150, 191), (false, 1174, 151, 191), (false, 1178, 152, 191), (false, 1182, 153, 191), (false, 1186, 154, 191), (true, 1189, 0, 191), (true, 1192, 0, 191), (false, 1196, 155, 191), (false, 1200, 156, 191), (false, 1204, 157, 191), (false, 1208, 158, 191), (false, 1212, 159, 191), (false, 1216, 160, 191), (false, 1220, 161, 191), (false, 1224, 162, 191), (false, 1228, 163, 191), (false, 1232, 164, 191), (false, 1236, 165, 191), (false, 1240, 166, 191), (false, 1244, 167, 191), (false, 1248, 168, 191), (false, 1252, 169, 191), (false, 1256, 170, 191), (false, 1260, 171, 191), (false, 1264, 172, 191), (false, 1268, 173, 191), (false, 1272, 174, 191), (false, 1276, 175, 191), (false, 1280, 176, 191), (false, 1284, 177, 191), (false, 1288, 178, 191), (false, 1292, 179, 191), (false, 1296, 180, 191), (false, 1300, 181, 191), (false, 1304, 182, 191), (false, 1308, 183, 191), (false, 1312, 184, 191), (false, 1316, 185, 191), (false, 1319, 1320, 191), (false, 1323, 1324, 191), (false, 1328, 186, 191), (false, 1331, 1332, 191)]
def mm_MP : List (Bool × Nat × Nat × Nat) := mm_MP0 ++ (mm_MP1 ++ (mm_MP2 ++ (mm_MP3)))
def mm_chkM (q : mm_Me × (Bool × Nat × Nat × Nat)) : Bool :=
  (if q.2.1 then mm_at q.2.2.1 (.static q.1.2.1) else mm_at q.2.2.1 (.instanceMethod q.1.2.1)) &&
  (q.2.1 || decide (q.1.2.1.name = "<init>") || mm_at q.2.2.2.1 (.selects q.1.1 q.1.2.1 q.1.2.1)) && mm_at q.2.2.2.2 (.initialized q.1.1) &&
  decide (q.1.2.1.cls = q.1.1) && plainName q.1.1 && decide (q.1.1 ≠ "java/lang/invoke/MethodHandle") && decide (q.1.1 ≠ "java/lang/invoke/VarHandle") &&
  decide ((parseMethodDescriptor q.1.2.1.desc).map (fun d => d.parameters.length) = some q.1.2.2.2.2.2.2.1) && decide (q.1.2.2.2.1 ≤ 14)
theorem mm_chkM_len : mm_MT.length = mm_MP.length := by decide +kernel
set_option maxRecDepth 100000 in
theorem mm_chkM_all : (mm_MT.zip mm_MP).all mm_chkM = true := by decide +kernel
def mm_chkF (e : String × Nat × Bool × Nat × Nat × Nat) : Bool := match mm_cl[e.2.2.2.1]? with
  | some (C, T, N) => decide (e.2.2.2.2.1 < N) && decide ((T e.2.2.2.2.1).1 = C) && (if e.2.2.1 then mm_at e.2.2.2.2.2 (.fieldLinkNest e.1 e.2.1 C (T e.2.2.2.2.1).2.1 (T e.2.2.2.2.1).2.2.1 "TreeBuilder") else mm_at e.2.2.2.2.2 (.fieldLink e.1 e.2.1 C (T e.2.2.2.2.1).2.1 (T e.2.2.2.2.1).2.2.1))
  | none => false
theorem mm_chkF_all : mm_FT.all mm_chkF = true := by decide +kernel
/-- of a call: what stands at its place, by its kind; whether the method is static, a constructor, has a table -/
def mm_chkC (e : String × Nat × Nat × Nat × Nat) : Bool :=
  if e.2.2.1 = 10 then mm_at e.2.2.2.2 (.methodLink e.1 e.2.1 Lib.objectInit)
  else if e.2.2.1 = 11 then mm_at e.2.2.2.2 (.methodLink e.1 e.2.1 Lib.Math.max.name)
  else match mm_MT[e.2.2.2.1]?, mm_MP[e.2.2.2.1]? with
    | some mf, some q => (if e.2.2.1 = 1 ∨ e.2.2.1 = 3 ∨ e.2.2.1 = 5 then mm_at e.2.2.2.2 (.methodLinkNest e.1 e.2.1 mf.2.1 "TreeBuilder") else mm_at e.2.2.2.2 (.methodLink e.1 e.2.1 mf.2.1)) &&
      (if e.2.2.1 = 2 ∨ e.2.2.1 = 3 ∨ e.2.2.1 = 9 then q.1 else !q.1) && (if e.2.2.1 = 4 ∨ e.2.2.1 = 5 then decide (mf.2.1.name = "<init>") && decide (mf.2.2.2.2.1 = none) else decide (mf.2.1.name ≠ "<init>")) &&
      (if e.2.2.1 = 8 ∨ e.2.2.1 = 9 then !decide (mf.2.2.2.2.2.1 = []) else decide (mf.2.2.2.2.2.1 = [])) && decide (e.2.2.1 < 10)
    | _, _ => false
set_option maxRecDepth 100000 in
theorem mm_chkC_all : mm_CT.all mm_chkC = true := by decide +kernel
theorem mm_objI : mm_at 206 (.instanceMethod Lib.objectInit) = true := by decide +kernel
theorem mm_objC : mm_at 207 (.code Lib.objectInit ⟨#[0xb1]⟩ 1 none) = true := by decide +kernel
theorem mm_maxS : mm_at 295 (.static Lib.Math.max.name) = true := by decide +kernel
theorem mm_maxC : mm_at 296 (.code Lib.Math.max.name Lib.Math.max.code 2 (some .int)) = true := by decide +kernel
theorem mm_maxI : mm_at 193 (.initialized "java/lang/Math") = true := by decide +kernel
def mm_chkN (e : String × Nat × Nat × Nat) : Bool := match mm_cl[e.2.2.1]? with
  | some (C, _, _) => mm_at e.2.2.2 (.classLink e.1 e.2.1 C)
  | none => false
theorem mm_chkN_all : mm_NT.all mm_chkN = true := by decide +kernel
def mm_chkX (e : String × Nat × String × Nat) : Bool := mm_at e.2.2.2 (.classLink e.1 e.2.1 e.2.2.1) && decide (e.2.1 ≠ 0)
theorem mm_chkX_all : mm_XT.all mm_chkX = true := by decide +kernel
theorem mm_chkI_all : mm_IT.all (fun e => mm_at e.2.2.2 (.constant e.1 e.2.1 e.2.2.1)) = true := by decide +kernel
theorem mm_chkJ_all : mm_JT.all (fun e => mm_at e.2.2.2 (.constantLong e.1 e.2.1 e.2.2.1)) = true := by decide +kernel
theorem mm_lay0 : ((List.range 9).zip [321, 323, 325, 327, 329, 331, 333, 335, 337]).all (fun q => mm_at q.2 (u_lay RX1 TX1 q.1)) = true := by decide +kernel
theorem mm_ins0 : mm_at 302 (.instantiable RX1 9) = true := by decide +kernel
theorem mm_ini0 : mm_at 194 (.initialized RX1) = true := by decide +kernel
theorem mm_lay1 : ((List.range 2).zip [217, 219]).all (fun q => mm_at q.2 (u_lay RX2 TX2 q.1)) = true := by decide +kernel
theorem mm_ins1 : mm_at 209 (.instantiable RX2 2) = true := by decide +kernel
theorem mm_ini1 : mm_at 189 (.initialized RX2) = true := by decide +kernel
theorem mm_lay2 : ((List.range 8).zip [238, 240, 242, 244, 246, 248, 250, 252]).all (fun q => mm_at q.2 (u_lay RX3 TX3 q.1)) = true := by decide +kernel
theorem mm_ins2 : mm_at 224 (.instantiable RX3 8) = true := by decide +kernel
theorem mm_ini2 : mm_at 190 (.initialized RX3) = true := by decide +kernel
theorem mm_lay3 : ((List.range 2).zip [258, 260]).all (fun q => mm_at q.2 (u_lay RX5 TX5 q.1)) = true := by decide +kernel
theorem mm_ins3 : mm_at 201 (.instantiable RX5 2) = true := by decide +kernel
theorem mm_ini3 : mm_at 188 (.initialized RX5) = true := by decide +kernel
theorem mm_lay4 : ((List.range 26).zip [890, 892, 894, 896, 898, 900, 902, 904, 906, 908, 910, 912, 914, 916, 918, 920, 922, 924, 926, 928, 930, 932, 934, 936, 938, 940]).all (fun q => mm_at q.2 (u_lay RX6 TX6 q.1)) = true := by decide +kernel
theorem mm_ins4 : mm_at 858 (.instantiable RX6 26) = true := by decide +kernel
theorem mm_ini4 : mm_at 191 (.initialized RX6) = true := by decide +kernel
theorem mm_arr_int : mm_at 255 (.arrayClass .int) = true := by decide +kernel
theorem mm_arr_byte : mm_at 222 (.arrayClass .byte) = true := by decide +kernel
theorem mm_arr_boolean : mm_at 943 (.arrayClass .boolean) = true := by decide +kernel
theorem mm_arr_long : mm_at 1335 (.arrayClass .long) = true := by decide +kernel
theorem mm_cast_ISE : mm_at 358 (.castable "java/lang/IllegalStateException" "java/lang/IllegalStateException") = true := by decide +kernel
theorem mm_inix_ISE : mm_at 198 (.initialized "java/lang/IllegalStateException") = true := by decide +kernel
theorem mm_cast_NSE : mm_at 819 (.castable "java/util/NoSuchElementException" "java/util/NoSuchElementException") = true := by decide +kernel
theorem mm_inix_NSE : mm_at 199 (.initialized "java/util/NoSuchElementException") = true := by decide +kernel
