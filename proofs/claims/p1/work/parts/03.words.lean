theorem vp_lit {i : Int32} {n : Nat} (h : (decide (i < 0) || decide (n ≤ i.toNatClampNeg)) = false) : vp_in i n := by
  unfold vp_in
  simp only [Bool.or_eq_false_iff, decide_eq_false_iff_not] at h
  exact fun q => q.elim h.1 h.2
theorem bi_fit (b : Bool) : fits .boolean (.int (bi b)) = true := by cases b <;> rfl
theorem wi_one {x c : Int32} (h : wi x c c = true) : x = c := by
  simp only [wi, Bool.and_eq_true, decide_eq_true_eq] at h
  exact Int32.le_antisymm h.2 h.1
theorem tb_ws {ws : List Cond} (ix : List Nat) (h : ws = ix.filterMap (fun i => tables_1[i]?)) (g : ws.all goodWord = true) : ∀ w ∈ ws, w ∈ TB := by
  intro w hw
  have g1 := List.all_eq_true.mp g w hw
  rw [h] at hw
  obtain ⟨i, -, hi⟩ := List.mem_filterMap.mp hw
  exact tb_t i hi g1
theorem P_nil {D : va_G} {H : Heap} : va_P D vwCl [] H := fun k q h => by simp at h
theorem D_nil {A : Nat → Prop} : va_D A [] := ⟨fun i j p q h => by simp at h, fun k q h => by simp at h⟩
def fl (v : Int32) (n : Nat) (f : Nat → Int32) : Nat → Int32 := fun k => if k < n then v else f k
theorem fl_0 (v : Int32) (f : Nat → Int32) : fl v 0 f = f := by funext k; simp [fl]
theorem fl_s (v : Int32) (n : Nat) (f : Nat → Int32) : upd (fl v n f) n v = fl v (n + 1) f := by
  funext k
  simp only [upd, fl]
  by_cases h : k = n
  · subst h; simp
  · by_cases h2 : k < n
    · rw [if_neg h, if_pos h2, if_pos (by omega)]
    · rw [if_neg h, if_neg h2, if_neg (by omega)]
theorem inX0 : ∀ w ∈ wsX00, w ∈ TB := tb_ws [65, 67, 69, 71, 73, 75, 77] (by decide +kernel) (by decide +kernel)
theorem nuX0 : ∀ j, j < 7 → defaultValue (tyX0 j) = vp_V [.null, .null, .null, .null, .null, .null, .int 0] j := by
  intro j hj
  match j, hj with
  | 0, _ => rfl
  | 1, _ => rfl
  | 2, _ => rfl
  | 3, _ => rfl
  | 4, _ => rfl
  | 5, _ => rfl
  | 6, _ => rfl
  | j + 7, hj => omega
theorem inX1 : ∀ w ∈ wsX10, w ∈ TB := tb_ws [114, 116, 118, 120, 122, 124, 126, 128] (by decide +kernel) (by decide +kernel)
theorem nuX1 : ∀ j, j < 8 → defaultValue (tyX1 j) = vp_V [.null, .null, .null, .null, .int 0, .int 0, .int 0, .int 0] j := by
  intro j hj
  match j, hj with
  | 0, _ => rfl
  | 1, _ => rfl
  | 2, _ => rfl
  | 3, _ => rfl
  | 4, _ => rfl
  | 5, _ => rfl
  | 6, _ => rfl
  | 7, _ => rfl
  | j + 8, hj => omega
theorem inX2 : ∀ w ∈ wsX20, w ∈ TB := tb_ws [189, 191, 193, 195, 197, 199, 201, 203, 205, 207, 209, 211] (by decide +kernel) (by decide +kernel)
theorem nuX2 : ∀ j, j < 12 → defaultValue (tyX2 j) = vp_V [.null, .null, .null, .null, .null, .null, .null, .null, .int 0, .int 0, .int 0, .int 0] j := by
  intro j hj
  match j, hj with
  | 0, _ => rfl
  | 1, _ => rfl
  | 2, _ => rfl
  | 3, _ => rfl
  | 4, _ => rfl
  | 5, _ => rfl
  | 6, _ => rfl
  | 7, _ => rfl
  | 8, _ => rfl
  | 9, _ => rfl
  | 10, _ => rfl
  | 11, _ => rfl
  | j + 12, hj => omega
theorem inX3 : ∀ w ∈ wsX30, w ∈ TB := tb_ws [225, 227, 229] (by decide +kernel) (by decide +kernel)
theorem nuX3 : ∀ j, j < 3 → defaultValue (tyX3 j) = vp_V [.null, .int 0, .int 0] j := by
  intro j hj
  match j, hj with
  | 0, _ => rfl
  | 1, _ => rfl
  | 2, _ => rfl
  | j + 3, hj => omega
theorem inX4 : ∀ w ∈ wsX40, w ∈ TB := tb_ws [298, 300, 302, 304, 306, 308, 310, 312, 314, 316, 318, 320, 322, 324] (by decide +kernel) (by decide +kernel)
theorem nuX4 : ∀ j, j < 14 → defaultValue (tyX4 j) = vp_V [.null, .null, .null, .null, .null, .int 0, .int 0, .int 0, .int 0, .int 0, .int 0, .int 0, .int 0, .int 0] j := by
  intro j hj
  match j, hj with
  | 0, _ => rfl
  | 1, _ => rfl
  | 2, _ => rfl
  | 3, _ => rfl
  | 4, _ => rfl
  | 5, _ => rfl
  | 6, _ => rfl
  | 7, _ => rfl
  | 8, _ => rfl
  | 9, _ => rfl
  | 10, _ => rfl
  | 11, _ => rfl
  | 12, _ => rfl
  | 13, _ => rfl
  | j + 14, hj => omega
theorem inX5 : ∀ w ∈ wsX50, w ∈ TB := tb_ws [257, 259, 261, 263, 265, 267, 269, 271] (by decide +kernel) (by decide +kernel)
theorem nuX5 : ∀ j, j < 8 → defaultValue (tyX5 j) = vp_V [.null, .null, .null, .null, .null, .int 0, .long 0, .int 0] j := by
  intro j hj
  match j, hj with
  | 0, _ => rfl
  | 1, _ => rfl
  | 2, _ => rfl
  | 3, _ => rfl
  | 4, _ => rfl
  | 5, _ => rfl
  | 6, _ => rfl
  | 7, _ => rfl
  | j + 8, hj => omega
theorem inX6 : ∀ w ∈ wsX60, w ∈ TB := tb_ws [150, 152, 154, 156, 158, 160, 162] (by decide +kernel) (by decide +kernel)
theorem nuX6 : ∀ j, j < 7 → defaultValue (tyX6 j) = vp_V [.null, .null, .null, .null, .int 0, .long 0, .int 0] j := by
  intro j hj
  match j, hj with
  | 0, _ => rfl
  | 1, _ => rfl
  | 2, _ => rfl
  | 3, _ => rfl
  | 4, _ => rfl
  | 5, _ => rfl
  | 6, _ => rfl
  | j + 7, hj => omega
theorem inX7 : ∀ w ∈ wsX70, w ∈ TB := tb_ws [402, 404, 406, 408, 410, 412, 414, 416] (by decide +kernel) (by decide +kernel)
theorem nuX7 : ∀ j, j < 8 → defaultValue (tyX7 j) = vp_V [.null, .null, .int 0, .int 0, .int 0, .int 0, .int 0, .int 0] j := by
  intro j hj
  match j, hj with
  | 0, _ => rfl
  | 1, _ => rfl
  | 2, _ => rfl
  | 3, _ => rfl
  | 4, _ => rfl
  | 5, _ => rfl
  | 6, _ => rfl
  | 7, _ => rfl
  | j + 8, hj => omega
theorem inX8 : ∀ w ∈ wsX80, w ∈ TB := tb_ws [359, 361, 363, 365, 367, 369, 371, 373, 375, 377, 379, 381, 383] (by decide +kernel) (by decide +kernel)
theorem nuX8 : ∀ j, j < 13 → defaultValue (tyX8 j) = vp_V [.null, .null, .null, .null, .null, .null, .null, .null, .null, .int 0, .int 0, .int 0, .int 0] j := by
  intro j hj
  match j, hj with
  | 0, _ => rfl
  | 1, _ => rfl
  | 2, _ => rfl
  | 3, _ => rfl
  | 4, _ => rfl
  | 5, _ => rfl
  | 6, _ => rfl
  | 7, _ => rfl
  | 8, _ => rfl
  | 9, _ => rfl
  | 10, _ => rfl
  | 11, _ => rfl
  | 12, _ => rfl
  | j + 13, hj => omega
theorem inX9 : ∀ w ∈ wsX90, w ∈ TB := tb_ws [38, 40] (by decide +kernel) (by decide +kernel)
theorem nuX9 : ∀ j, j < 2 → defaultValue (tyX9 j) = vp_V [.null, .int 0] j := by
  intro j hj
  match j, hj with
  | 0, _ => rfl
  | 1, _ => rfl
  | j + 2, hj => omega
theorem inX10 : ∀ w ∈ wsX100, w ∈ TB := tb_ws [451, 453, 455, 457, 459, 461, 463, 465, 467, 469, 471, 473, 475, 477, 479] (by decide +kernel) (by decide +kernel)
theorem nuX10 : ∀ j, j < 15 → defaultValue (tyX10 j) = vp_V [.null, .null, .null, .null, .null, .null, .null, .null, .null, .null, .null, .int 0, .int 0, .int 0, .int 0] j := by
  intro j hj
  match j, hj with
  | 0, _ => rfl
  | 1, _ => rfl
  | 2, _ => rfl
  | 3, _ => rfl
  | 4, _ => rfl
  | 5, _ => rfl
  | 6, _ => rfl
  | 7, _ => rfl
  | 8, _ => rfl
  | 9, _ => rfl
  | 10, _ => rfl
  | 11, _ => rfl
  | 12, _ => rfl
  | 13, _ => rfl
  | 14, _ => rfl
  | j + 15, hj => omega
theorem inX11 : ∀ w ∈ wsX110, w ∈ TB := tb_ws [1156, 1158, 1160, 1162, 1164, 1166, 1168, 1170, 1172, 1174, 1176, 1178, 1180, 1182, 1184, 1186, 1188, 1190, 1192, 1194, 1196, 1198, 1200, 1202, 1204, 1206, 1208, 1210, 1212, 1214, 1216, 1218, 1220, 1222, 1224, 1226, 1228, 1230, 1232, 1234, 1236, 1238, 1240, 1242, 1244, 1246, 1248, 1250, 1252, 1254, 1256, 1258, 1260, 1262, 1264, 1266, 1268, 1270, 1272, 1274, 1276, 1278, 1280, 1282, 1284, 1286, 1288, 1290, 1292, 1294, 1296, 1298, 1300, 1302, 1304, 1306, 1308, 1310, 1312, 1314, 1316, 1318, 1320, 1322, 1324, 1326, 1328, 1330, 1332, 1334, 1336, 1338, 1340, 1342, 1344, 1346, 1348, 1350, 1352, 1354, 1356, 1358, 1360, 1362, 1364] (by decide +kernel) (by decide +kernel)
theorem nuX11 : ∀ j, j < 105 → defaultValue (tyX11 j) = vp_V [.null, .int 0, .int 0, .int 0, .int 0, .int 0, .int 0, .int 0, .int 0, .null, .null, .null, .null, .null, .null, .null, .null, .null, .null, .null, .null, .null, .null, .null, .null, .null, .null, .null, .null, .null, .int 0, .null, .null, .null, .null, .null, .null, .null, .null, .null, .null, .null, .null, .int 0, .null, .int 0, .int 0, .int 0, .int 0, .int 0, .int 0, .int 0, .null, .null, .null, .null, .null, .null, .int 0, .int 0, .null, .null, .null, .null, .null, .int 0, .null, .null, .int 0, .int 0, .null, .null, .int 0, .null, .null, .null, .null, .null, .int 0, .null, .int 0, .int 0, .int 0, .null, .null, .null, .null, .int 0, .null, .null, .null, .null, .int 0, .null, .null, .null, .int 0, .null, .null, .null, .int 0, .null, .null, .int 0, .int 0] j := by
  intro j hj
  match j, hj with
  | 0, _ => rfl
  | 1, _ => rfl
  | 2, _ => rfl
  | 3, _ => rfl
  | 4, _ => rfl
  | 5, _ => rfl
  | 6, _ => rfl
  | 7, _ => rfl
  | 8, _ => rfl
  | 9, _ => rfl
  | 10, _ => rfl
  | 11, _ => rfl
  | 12, _ => rfl
  | 13, _ => rfl
  | 14, _ => rfl
  | 15, _ => rfl
  | 16, _ => rfl
  | 17, _ => rfl
  | 18, _ => rfl
  | 19, _ => rfl
  | 20, _ => rfl
  | 21, _ => rfl
  | 22, _ => rfl
  | 23, _ => rfl
  | 24, _ => rfl
  | 25, _ => rfl
  | 26, _ => rfl
  | 27, _ => rfl
  | 28, _ => rfl
  | 29, _ => rfl
  | 30, _ => rfl
  | 31, _ => rfl
  | 32, _ => rfl
  | 33, _ => rfl
  | 34, _ => rfl
  | 35, _ => rfl
  | 36, _ => rfl
  | 37, _ => rfl
  | 38, _ => rfl
  | 39, _ => rfl
  | 40, _ => rfl
  | 41, _ => rfl
  | 42, _ => rfl
  | 43, _ => rfl
  | 44, _ => rfl
  | 45, _ => rfl
  | 46, _ => rfl
  | 47, _ => rfl
  | 48, _ => rfl
  | 49, _ => rfl
  | 50, _ => rfl
  | 51, _ => rfl
  | 52, _ => rfl
  | 53, _ => rfl
  | 54, _ => rfl
  | 55, _ => rfl
  | 56, _ => rfl
  | 57, _ => rfl
  | 58, _ => rfl
  | 59, _ => rfl
  | 60, _ => rfl
  | 61, _ => rfl
  | 62, _ => rfl
  | 63, _ => rfl
  | 64, _ => rfl
  | 65, _ => rfl
  | 66, _ => rfl
  | 67, _ => rfl
  | 68, _ => rfl
  | 69, _ => rfl
  | 70, _ => rfl
  | 71, _ => rfl
  | 72, _ => rfl
  | 73, _ => rfl
  | 74, _ => rfl
  | 75, _ => rfl
  | 76, _ => rfl
  | 77, _ => rfl
  | 78, _ => rfl
  | 79, _ => rfl
  | 80, _ => rfl
  | 81, _ => rfl
  | 82, _ => rfl
  | 83, _ => rfl
  | 84, _ => rfl
  | 85, _ => rfl
  | 86, _ => rfl
  | 87, _ => rfl
  | 88, _ => rfl
  | 89, _ => rfl
  | 90, _ => rfl
  | 91, _ => rfl
  | 92, _ => rfl
  | 93, _ => rfl
  | 94, _ => rfl
  | 95, _ => rfl
  | 96, _ => rfl
  | 97, _ => rfl
  | 98, _ => rfl
  | 99, _ => rfl
  | 100, _ => rfl
  | 101, _ => rfl
  | 102, _ => rfl
  | 103, _ => rfl
  | 104, _ => rfl
  | j + 105, hj => omega
theorem mw_0 : Cond.methodLink RX10 3 objectInit ∈ TB := tb_t 24 (by decide +kernel) (by decide +kernel)
theorem mw_1 : Cond.instanceMethod objectInit ∈ TB := tb_t 25 (by decide +kernel) (by decide +kernel)
theorem mw_2 : Cond.code objectInit ⟨#[0xb1]⟩ 1 none ∈ TB := tb_t 26 (by decide +kernel) (by decide +kernel)
theorem mw_3 : Cond.classLink RX10 9 RX9 ∈ TB := tb_t 27 (by decide +kernel) (by decide +kernel)
theorem mw_4 : Cond.instantiable RX9 2 ∈ TB := tb_t 28 (by decide +kernel) (by decide +kernel)
theorem mw_5 : Cond.initialized RX9 ∈ TB := tb_t 2 (by decide +kernel) (by decide +kernel)
theorem mw_6 : Cond.methodLink RX9 3 objectInit ∈ TB := tb_t 32 (by decide +kernel) (by decide +kernel)
theorem mw_7 : Cond.arrayClass (newarray.typeOf .byte) ∈ TB := tb_t 43 (by decide +kernel) (by decide +kernel)
theorem mw_8 : Cond.fieldLink RX9 11 RX9 "bytes" "[B" ∈ TB := tb_t 33 (by decide +kernel) (by decide +kernel)
theorem mw_9 : Cond.fieldLink RX9 15 RX9 "size" "I" ∈ TB := tb_t 35 (by decide +kernel) (by decide +kernel)
theorem dn_10 : DescN yX9_init 0 := by decide +kernel
theorem mw_11 : Cond.instanceMethod yX9_init ∈ TB := tb_t 30 (by decide +kernel) (by decide +kernel)
theorem mw_12 : Cond.code yX9_init cX9_init 1 none ∈ TB := tb_t 31 (by decide +kernel) (by decide +kernel)
theorem mw_13 : Cond.fieldLink RX10 12 RX10 "tape" "LHookBoard$Tape;" ∈ TB := tb_t 436 (by decide +kernel) (by decide +kernel)
theorem mw_14 : Cond.classLink RX10 16 RX0 ∈ TB := tb_t 44 (by decide +kernel) (by decide +kernel)
theorem mw_15 : Cond.instantiable RX0 7 ∈ TB := tb_t 45 (by decide +kernel) (by decide +kernel)
theorem mw_16 : Cond.initialized RX0 ∈ TB := tb_t 3 (by decide +kernel) (by decide +kernel)
theorem mw_17 : Cond.methodLink RX0 3 objectInit ∈ TB := tb_t 49 (by decide +kernel) (by decide +kernel)
theorem mw_18 : Cond.arrayClass (newarray.typeOf .int) ∈ TB := tb_t 80 (by decide +kernel) (by decide +kernel)
theorem mw_19 : Cond.fieldLink RX0 11 RX0 "type" "[I" ∈ TB := tb_t 50 (by decide +kernel) (by decide +kernel)
theorem mw_20 : Cond.fieldLink RX0 15 RX0 "first" "[I" ∈ TB := tb_t 52 (by decide +kernel) (by decide +kernel)
theorem mw_21 : Cond.fieldLink RX0 18 RX0 "second" "[I" ∈ TB := tb_t 54 (by decide +kernel) (by decide +kernel)
theorem mw_22 : Cond.fieldLink RX0 21 RX0 "third" "[I" ∈ TB := tb_t 57 (by decide +kernel) (by decide +kernel)
theorem mw_23 : Cond.fieldLink RX0 24 RX0 "fourth" "[I" ∈ TB := tb_t 60 (by decide +kernel) (by decide +kernel)
theorem mw_24 : Cond.fieldLink RX0 27 RX0 "voidBy" "[I" ∈ TB := tb_t 62 (by decide +kernel) (by decide +kernel)
theorem mw_25 : Cond.fieldLink RX0 30 RX0 "count" "I" ∈ TB := tb_t 63 (by decide +kernel) (by decide +kernel)
theorem dn_26 : DescN yX0_init 0 := by decide +kernel
theorem mw_27 : Cond.instanceMethod yX0_init ∈ TB := tb_t 47 (by decide +kernel) (by decide +kernel)
theorem mw_28 : Cond.code yX0_init cX0_init 1 none ∈ TB := tb_t 48 (by decide +kernel) (by decide +kernel)
theorem mw_29 : Cond.fieldLink RX10 19 RX10 "acts" "LHookBoard$Acts;" ∈ TB := tb_t 438 (by decide +kernel) (by decide +kernel)
theorem mw_30 : Cond.classLink RX10 23 RX2 ∈ TB := tb_t 81 (by decide +kernel) (by decide +kernel)
theorem mw_31 : Cond.instantiable RX2 12 ∈ TB := tb_t 82 (by decide +kernel) (by decide +kernel)
theorem mw_32 : Cond.initialized RX2 ∈ TB := tb_t 4 (by decide +kernel) (by decide +kernel)
theorem mw_33 : Cond.methodLink RX2 3 objectInit ∈ TB := tb_t 86 (by decide +kernel) (by decide +kernel)
theorem mw_34 : Cond.fieldLink RX2 9 RX2 "kindOf" "[I" ∈ TB := tb_t 165 (by decide +kernel) (by decide +kernel)
theorem mw_35 : Cond.fieldLink RX2 15 RX2 "slack" "[I" ∈ TB := tb_t 168 (by decide +kernel) (by decide +kernel)
theorem mw_36 : Cond.fieldLink RX2 18 RX2 "worn" "[I" ∈ TB := tb_t 171 (by decide +kernel) (by decide +kernel)
theorem mw_37 : Cond.fieldLink RX2 21 RX2 "heap" "[I" ∈ TB := tb_t 173 (by decide +kernel) (by decide +kernel)
theorem mw_38 : Cond.fieldLink RX2 24 RX2 "fluff" "[I" ∈ TB := tb_t 175 (by decide +kernel) (by decide +kernel)
theorem mw_39 : Cond.fieldLink RX2 29 RX2 "great" "[I" ∈ TB := tb_t 177 (by decide +kernel) (by decide +kernel)
theorem mw_40 : Cond.classLink RX2 32 RX1 ∈ TB := tb_t 87 (by decide +kernel) (by decide +kernel)
theorem mw_41 : Cond.instantiable RX1 8 ∈ TB := tb_t 88 (by decide +kernel) (by decide +kernel)
theorem mw_42 : Cond.initialized RX1 ∈ TB := tb_t 5 (by decide +kernel) (by decide +kernel)
theorem mw_43 : Cond.methodLink RX1 3 objectInit ∈ TB := tb_t 92 (by decide +kernel) (by decide +kernel)
theorem mw_44 : Cond.fieldLink RX1 9 RX1 "held" "[I" ∈ TB := tb_t 93 (by decide +kernel) (by decide +kernel)
theorem mw_45 : Cond.fieldLink RX1 15 RX1 "stiff" "[I" ∈ TB := tb_t 98 (by decide +kernel) (by decide +kernel)
theorem mw_46 : Cond.fieldLink RX1 18 RX1 "slack" "[I" ∈ TB := tb_t 100 (by decide +kernel) (by decide +kernel)
theorem mw_47 : Cond.fieldLink RX1 21 RX1 "opens" "[I" ∈ TB := tb_t 102 (by decide +kernel) (by decide +kernel)
theorem mw_48 : Cond.fieldLink RX1 24 RX1 "cells" "I" ∈ TB := tb_t 105 (by decide +kernel) (by decide +kernel)
theorem mw_49 : Cond.fieldLink RX1 28 RX1 "wide" "I" ∈ TB := tb_t 108 (by decide +kernel) (by decide +kernel)
theorem mw_50 : Cond.fieldLink RX1 31 RX1 "count" "I" ∈ TB := tb_t 110 (by decide +kernel) (by decide +kernel)
theorem mw_51 : Cond.fieldLink RX1 34 RX1 "made" "Z" ∈ TB := tb_t 112 (by decide +kernel) (by decide +kernel)
theorem dn_52 : DescN yX1_init 0 := by decide +kernel
theorem mw_53 : Cond.instanceMethod yX1_init ∈ TB := tb_t 90 (by decide +kernel) (by decide +kernel)
theorem mw_54 : Cond.code yX1_init cX1_init 1 none ∈ TB := tb_t 91 (by decide +kernel) (by decide +kernel)
theorem mw_55 : Cond.fieldLink RX2 35 RX2 "trial" "LHookBoard$Draw;" ∈ TB := tb_t 179 (by decide +kernel) (by decide +kernel)
theorem mw_56 : Cond.classLink RX2 39 RX6 ∈ TB := tb_t 131 (by decide +kernel) (by decide +kernel)
theorem mw_57 : Cond.instantiable RX6 7 ∈ TB := tb_t 132 (by decide +kernel) (by decide +kernel)
theorem mw_58 : Cond.initialized RX6 ∈ TB := tb_t 6 (by decide +kernel) (by decide +kernel)
theorem mw_59 : Cond.methodLink RX6 3 objectInit ∈ TB := tb_t 136 (by decide +kernel) (by decide +kernel)
theorem mw_60 : Cond.fieldLink RX6 9 RX6 "cell" "[I" ∈ TB := tb_t 137 (by decide +kernel) (by decide +kernel)
theorem mw_61 : Cond.fieldLink RX6 15 RX6 "stiff" "[I" ∈ TB := tb_t 139 (by decide +kernel) (by decide +kernel)
theorem mw_62 : Cond.fieldLink RX6 18 RX6 "slack" "[I" ∈ TB := tb_t 141 (by decide +kernel) (by decide +kernel)
theorem mw_63 : Cond.fieldLink RX6 21 RX6 "gives" "[I" ∈ TB := tb_t 142 (by decide +kernel) (by decide +kernel)
theorem mw_64 : Cond.fieldLink RX6 24 RX6 "steps" "I" ∈ TB := tb_t 143 (by decide +kernel) (by decide +kernel)
theorem mw_65 : Cond.fieldLink RX6 28 RX6 "most" "J" ∈ TB := tb_t 145 (by decide +kernel) (by decide +kernel)
theorem mw_66 : Cond.fieldLink RX6 32 RX6 "made" "Z" ∈ TB := tb_t 148 (by decide +kernel) (by decide +kernel)
theorem dn_67 : DescN yX6_init 0 := by decide +kernel
theorem mw_68 : Cond.instanceMethod yX6_init ∈ TB := tb_t 134 (by decide +kernel) (by decide +kernel)
theorem mw_69 : Cond.code yX6_init cX6_init 1 none ∈ TB := tb_t 135 (by decide +kernel) (by decide +kernel)
theorem mw_70 : Cond.fieldLink RX2 42 RX2 "tug" "LHookBoard$Pull;" ∈ TB := tb_t 180 (by decide +kernel) (by decide +kernel)
theorem mw_71 : Cond.fieldLink RX2 46 RX2 "greats" "I" ∈ TB := tb_t 181 (by decide +kernel) (by decide +kernel)
theorem mw_72 : Cond.fieldLink RX2 50 RX2 "cells" "I" ∈ TB := tb_t 183 (by decide +kernel) (by decide +kernel)
theorem mw_73 : Cond.fieldLink RX2 53 RX2 "wide" "I" ∈ TB := tb_t 185 (by decide +kernel) (by decide +kernel)
theorem mw_74 : Cond.fieldLink RX2 56 RX2 "at" "I" ∈ TB := tb_t 187 (by decide +kernel) (by decide +kernel)
theorem dn_75 : DescN yX2_init 0 := by decide +kernel
theorem mw_76 : Cond.instanceMethod yX2_init ∈ TB := tb_t 84 (by decide +kernel) (by decide +kernel)
theorem mw_77 : Cond.code yX2_init cX2_init 1 none ∈ TB := tb_t 85 (by decide +kernel) (by decide +kernel)
theorem mw_78 : Cond.fieldLink RX10 26 RX10 "known" "LHookBoard$Known;" ∈ TB := tb_t 439 (by decide +kernel) (by decide +kernel)
theorem mw_79 : Cond.classLink RX10 30 RX3 ∈ TB := tb_t 214 (by decide +kernel) (by decide +kernel)
theorem mw_80 : Cond.instantiable RX3 3 ∈ TB := tb_t 215 (by decide +kernel) (by decide +kernel)
theorem mw_81 : Cond.initialized RX3 ∈ TB := tb_t 7 (by decide +kernel) (by decide +kernel)
theorem mw_82 : Cond.methodLink RX3 3 objectInit ∈ TB := tb_t 219 (by decide +kernel) (by decide +kernel)
theorem mw_83 : Cond.arrayClass (newarray.typeOf .long) ∈ TB := tb_t 232 (by decide +kernel) (by decide +kernel)
theorem mw_84 : Cond.fieldLink RX3 9 RX3 "row" "[J" ∈ TB := tb_t 220 (by decide +kernel) (by decide +kernel)
theorem mw_85 : Cond.fieldLink RX3 15 RX3 "hooks" "I" ∈ TB := tb_t 221 (by decide +kernel) (by decide +kernel)
theorem mw_86 : Cond.fieldLink RX3 19 RX3 "made" "Z" ∈ TB := tb_t 223 (by decide +kernel) (by decide +kernel)
theorem dn_87 : DescN yX3_init 0 := by decide +kernel
theorem mw_88 : Cond.instanceMethod yX3_init ∈ TB := tb_t 217 (by decide +kernel) (by decide +kernel)
theorem mw_89 : Cond.code yX3_init cX3_init 1 none ∈ TB := tb_t 218 (by decide +kernel) (by decide +kernel)
theorem mw_90 : Cond.fieldLink RX10 33 RX10 "odds" "LHookBoard$Odds;" ∈ TB := tb_t 440 (by decide +kernel) (by decide +kernel)
theorem mw_91 : Cond.classLink RX10 37 RX1 ∈ TB := tb_t 233 (by decide +kernel) (by decide +kernel)
theorem mw_92 : Cond.fieldLink RX10 40 RX10 "draw" "LHookBoard$Draw;" ∈ TB := tb_t 441 (by decide +kernel) (by decide +kernel)
theorem mw_93 : Cond.classLink RX10 44 RX6 ∈ TB := tb_t 235 (by decide +kernel) (by decide +kernel)
theorem mw_94 : Cond.fieldLink RX10 47 RX10 "pull" "LHookBoard$Pull;" ∈ TB := tb_t 442 (by decide +kernel) (by decide +kernel)
theorem mw_95 : Cond.classLink RX10 51 RX5 ∈ TB := tb_t 237 (by decide +kernel) (by decide +kernel)
theorem mw_96 : Cond.instantiable RX5 8 ∈ TB := tb_t 238 (by decide +kernel) (by decide +kernel)
theorem mw_97 : Cond.initialized RX5 ∈ TB := tb_t 8 (by decide +kernel) (by decide +kernel)
theorem mw_98 : Cond.methodLink RX5 3 objectInit ∈ TB := tb_t 242 (by decide +kernel) (by decide +kernel)
theorem mw_99 : Cond.fieldLink RX5 9 RX5 "row" "[I" ∈ TB := tb_t 243 (by decide +kernel) (by decide +kernel)
theorem mw_100 : Cond.fieldLink RX5 15 RX5 "force" "[I" ∈ TB := tb_t 245 (by decide +kernel) (by decide +kernel)
theorem mw_101 : Cond.fieldLink RX5 18 RX5 "went" "[I" ∈ TB := tb_t 247 (by decide +kernel) (by decide +kernel)
theorem mw_102 : Cond.fieldLink RX5 21 RX5 "hold" "[I" ∈ TB := tb_t 249 (by decide +kernel) (by decide +kernel)
theorem mw_103 : Cond.fieldLink RX5 24 RX5 "weight" "[I" ∈ TB := tb_t 250 (by decide +kernel) (by decide +kernel)
theorem mw_104 : Cond.fieldLink RX5 27 RX5 "fronts" "I" ∈ TB := tb_t 251 (by decide +kernel) (by decide +kernel)
theorem mw_105 : Cond.fieldLink RX5 31 RX5 "sum" "J" ∈ TB := tb_t 253 (by decide +kernel) (by decide +kernel)
theorem mw_106 : Cond.fieldLink RX5 35 RX5 "made" "Z" ∈ TB := tb_t 255 (by decide +kernel) (by decide +kernel)
theorem dn_107 : DescN yX5_init 0 := by decide +kernel
theorem mw_108 : Cond.instanceMethod yX5_init ∈ TB := tb_t 240 (by decide +kernel) (by decide +kernel)
theorem mw_109 : Cond.code yX5_init cX5_init 1 none ∈ TB := tb_t 241 (by decide +kernel) (by decide +kernel)
theorem mw_110 : Cond.fieldLink RX10 54 RX10 "peel" "LHookBoard$Peel;" ∈ TB := tb_t 443 (by decide +kernel) (by decide +kernel)
theorem mw_111 : Cond.classLink RX10 58 RX4 ∈ TB := tb_t 274 (by decide +kernel) (by decide +kernel)
theorem mw_112 : Cond.instantiable RX4 14 ∈ TB := tb_t 275 (by decide +kernel) (by decide +kernel)
theorem mw_113 : Cond.initialized RX4 ∈ TB := tb_t 9 (by decide +kernel) (by decide +kernel)
theorem mw_114 : Cond.methodLink RX4 3 objectInit ∈ TB := tb_t 279 (by decide +kernel) (by decide +kernel)
theorem mw_115 : Cond.fieldLink RX4 11 RX4 "place" "[I" ∈ TB := tb_t 280 (by decide +kernel) (by decide +kernel)
theorem mw_116 : Cond.fieldLink RX4 15 RX4 "bears" "[I" ∈ TB := tb_t 281 (by decide +kernel) (by decide +kernel)
theorem mw_117 : Cond.fieldLink RX4 18 RX4 "cost" "[I" ∈ TB := tb_t 282 (by decide +kernel) (by decide +kernel)
theorem mw_118 : Cond.fieldLink RX4 21 RX4 "pullPlace" "[I" ∈ TB := tb_t 283 (by decide +kernel) (by decide +kernel)
theorem mw_119 : Cond.fieldLink RX4 24 RX4 "pullForce" "[I" ∈ TB := tb_t 284 (by decide +kernel) (by decide +kernel)
theorem mw_120 : Cond.fieldLink RX4 27 RX4 "count" "I" ∈ TB := tb_t 285 (by decide +kernel) (by decide +kernel)
theorem mw_121 : Cond.fieldLink RX4 31 RX4 "pulls" "I" ∈ TB := tb_t 287 (by decide +kernel) (by decide +kernel)
theorem mw_122 : Cond.fieldLink RX4 34 RX4 "picked" "I" ∈ TB := tb_t 289 (by decide +kernel) (by decide +kernel)
theorem mw_123 : Cond.fieldLink RX4 37 RX4 "pickedOf" "I" ∈ TB := tb_t 291 (by decide +kernel) (by decide +kernel)
theorem dn_124 : DescN yX4_init 0 := by decide +kernel
theorem mw_125 : Cond.instanceMethod yX4_init ∈ TB := tb_t 277 (by decide +kernel) (by decide +kernel)
theorem mw_126 : Cond.code yX4_init cX4_init 1 none ∈ TB := tb_t 278 (by decide +kernel) (by decide +kernel)
theorem mw_127 : Cond.fieldLink RX10 61 RX10 "patches" "LHookBoard$Patches;" ∈ TB := tb_t 444 (by decide +kernel) (by decide +kernel)
theorem mw_128 : Cond.classLink RX10 65 RX8 ∈ TB := tb_t 327 (by decide +kernel) (by decide +kernel)
theorem mw_129 : Cond.instantiable RX8 13 ∈ TB := tb_t 328 (by decide +kernel) (by decide +kernel)
theorem mw_130 : Cond.initialized RX8 ∈ TB := tb_t 10 (by decide +kernel) (by decide +kernel)
theorem mw_131 : Cond.methodLink RX8 3 objectInit ∈ TB := tb_t 332 (by decide +kernel) (by decide +kernel)
theorem mw_132 : Cond.fieldLink RX8 11 RX8 "names" "[J" ∈ TB := tb_t 333 (by decide +kernel) (by decide +kernel)
theorem mw_133 : Cond.fieldLink RX8 15 RX8 "numbers" "[I" ∈ TB := tb_t 335 (by decide +kernel) (by decide +kernel)
theorem mw_134 : Cond.fieldLink RX8 19 RX8 "ruleWord" "[I" ∈ TB := tb_t 337 (by decide +kernel) (by decide +kernel)
theorem mw_135 : Cond.fieldLink RX8 22 RX8 "ruleSum" "[I" ∈ TB := tb_t 339 (by decide +kernel) (by decide +kernel)
theorem mw_136 : Cond.fieldLink RX8 25 RX8 "ruleTest" "[I" ∈ TB := tb_t 341 (by decide +kernel) (by decide +kernel)
theorem mw_137 : Cond.fieldLink RX8 28 RX8 "ruleEnd" "[I" ∈ TB := tb_t 343 (by decide +kernel) (by decide +kernel)
theorem mw_138 : Cond.fieldLink RX8 33 RX8 "code" "[I" ∈ TB := tb_t 345 (by decide +kernel) (by decide +kernel)
theorem mw_139 : Cond.fieldLink RX8 36 RX8 "facts" "[I" ∈ TB := tb_t 346 (by decide +kernel) (by decide +kernel)
theorem mw_140 : Cond.fieldLink RX8 39 RX8 "stack" "[I" ∈ TB := tb_t 348 (by decide +kernel) (by decide +kernel)
theorem mw_141 : Cond.fieldLink RX8 42 RX8 "kinds" "I" ∈ TB := tb_t 349 (by decide +kernel) (by decide +kernel)
theorem mw_142 : Cond.fieldLink RX8 46 RX8 "rules" "I" ∈ TB := tb_t 352 (by decide +kernel) (by decide +kernel)
theorem mw_143 : Cond.fieldLink RX8 49 RX8 "statements" "I" ∈ TB := tb_t 354 (by decide +kernel) (by decide +kernel)
theorem mw_144 : Cond.fieldLink RX8 52 RX8 "length" "I" ∈ TB := tb_t 357 (by decide +kernel) (by decide +kernel)
theorem dn_145 : DescN yX8_init 0 := by decide +kernel
theorem mw_146 : Cond.instanceMethod yX8_init ∈ TB := tb_t 330 (by decide +kernel) (by decide +kernel)
theorem mw_147 : Cond.code yX8_init cX8_init 1 none ∈ TB := tb_t 331 (by decide +kernel) (by decide +kernel)
theorem mw_148 : Cond.fieldLink RX10 68 RX10 "script" "LHookBoard$Script;" ∈ TB := tb_t 445 (by decide +kernel) (by decide +kernel)
theorem mw_149 : Cond.fieldLink RX10 72 RX10 "spare" "LHookBoard$Script;" ∈ TB := tb_t 446 (by decide +kernel) (by decide +kernel)
theorem mw_150 : Cond.classLink RX10 75 RX7 ∈ TB := tb_t 386 (by decide +kernel) (by decide +kernel)
theorem mw_151 : Cond.instantiable RX7 8 ∈ TB := tb_t 387 (by decide +kernel) (by decide +kernel)
theorem mw_152 : Cond.initialized RX7 ∈ TB := tb_t 11 (by decide +kernel) (by decide +kernel)
theorem mw_153 : Cond.methodLink RX7 3 objectInit ∈ TB := tb_t 391 (by decide +kernel) (by decide +kernel)
theorem mw_154 : Cond.fieldLink RX7 9 RX7 "fault" "I" ∈ TB := tb_t 398 (by decide +kernel) (by decide +kernel)
theorem mw_155 : Cond.fieldLink RX7 15 RX7 "place" "I" ∈ TB := tb_t 400 (by decide +kernel) (by decide +kernel)
theorem mw_156 : Cond.fieldLink RX7 18 RX7 "tape" "LHookBoard$Tape;" ∈ TB := tb_t 392 (by decide +kernel) (by decide +kernel)
theorem mw_157 : Cond.fieldLink RX7 22 RX7 "out" "LHookBoard$Script;" ∈ TB := tb_t 393 (by decide +kernel) (by decide +kernel)
theorem dn_158 : DescN yX7_init 2 := by decide +kernel
theorem mw_159 : Cond.methodLink RX10 77 yX7_init ∈ TB := tb_t 388 (by decide +kernel) (by decide +kernel)
theorem mw_160 : Cond.instanceMethod yX7_init ∈ TB := tb_t 389 (by decide +kernel) (by decide +kernel)
theorem mw_161 : Cond.code yX7_init cX7_init 3 none ∈ TB := tb_t 390 (by decide +kernel) (by decide +kernel)
theorem mw_162 : Cond.fieldLink RX10 80 RX10 "reader" "LHookBoard$Reader;" ∈ TB := tb_t 437 (by decide +kernel) (by decide +kernel)
theorem mw_163 : Cond.fieldLink RX10 84 RX10 "cells" "I" ∈ TB := tb_t 447 (by decide +kernel) (by decide +kernel)
theorem mw_164 : Cond.fieldLink RX10 88 RX10 "asAct" "I" ∈ TB := tb_t 448 (by decide +kernel) (by decide +kernel)
theorem mw_165 : Cond.fieldLink RX10 91 RX10 "fault" "I" ∈ TB := tb_t 449 (by decide +kernel) (by decide +kernel)
theorem mw_166 : Cond.fieldLink RX10 94 RX10 "faultPlace" "I" ∈ TB := tb_t 450 (by decide +kernel) (by decide +kernel)
theorem mw_167 : Cond.methodLink RX2 59 Lib.Math.max.name ∈ TB := tb_t 423 (by decide +kernel) (by decide +kernel)
theorem mw_168 : Cond.static Lib.Math.max.name ∈ TB := tb_t 424 (by decide +kernel) (by decide +kernel)
theorem mw_169 : Cond.initialized RJ9 ∈ TB := tb_t 12 (by decide +kernel) (by decide +kernel)
theorem mw_170 : Cond.code Lib.Math.max.name Lib.Math.max.code 2 (some .int) ∈ TB := tb_t 425 (by decide +kernel) (by decide +kernel)
theorem mw_171 : Cond.methodLink RX2 65 Lib.Math.min.name ∈ TB := tb_t 426 (by decide +kernel) (by decide +kernel)
theorem mw_172 : Cond.static Lib.Math.min.name ∈ TB := tb_t 427 (by decide +kernel) (by decide +kernel)
theorem mw_173 : Cond.code Lib.Math.min.name Lib.Math.min.code 2 (some .int) ∈ TB := tb_t 428 (by decide +kernel) (by decide +kernel)
theorem dn_174 : DescN yJ7_fill_53178 2 := by decide +kernel
theorem mw_175 : Cond.methodLink RX2 71 yJ7_fill_53178 ∈ TB := tb_t 433 (by decide +kernel) (by decide +kernel)
theorem mw_176 : Cond.static yJ7_fill_53178 ∈ TB := tb_t 434 (by decide +kernel) (by decide +kernel)
theorem mw_177 : Cond.initialized RJ7 ∈ TB := tb_t 13 (by decide +kernel) (by decide +kernel)
theorem mw_178 : Cond.code yJ7_fill_53178 cJ7_fill_53178 4 none ∈ TB := tb_t 435 (by decide +kernel) (by decide +kernel)
theorem dn_179 : DescN yX2_forget 0 := by decide +kernel
theorem mw_180 : Cond.methodLink RX2 68 yX2_forget ∈ TB := tb_t 429 (by decide +kernel) (by decide +kernel)
theorem mw_181 : Cond.instanceMethod yX2_forget ∈ TB := tb_t 430 (by decide +kernel) (by decide +kernel)
theorem mw_182 : Cond.selects RX2 yX2_forget yX2_forget ∈ TB := tb_t 431 (by decide +kernel) (by decide +kernel)
theorem mw_183 : Cond.code yX2_forget cX2_forget 1 none ∈ TB := tb_t 432 (by decide +kernel) (by decide +kernel)
theorem dn_184 : DescN yX2_begin 2 := by decide +kernel
theorem mw_185 : Cond.methodLink RX10 97 yX2_begin ∈ TB := tb_t 419 (by decide +kernel) (by decide +kernel)
theorem mw_186 : Cond.instanceMethod yX2_begin ∈ TB := tb_t 420 (by decide +kernel) (by decide +kernel)
theorem mw_187 : Cond.selects RX2 yX2_begin yX2_begin ∈ TB := tb_t 421 (by decide +kernel) (by decide +kernel)
theorem mw_188 : Cond.code yX2_begin cX2_begin 3 none ∈ TB := tb_t 422 (by decide +kernel) (by decide +kernel)
