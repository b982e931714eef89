theorem vp_lit {i : Int32} {n : Nat} (h : (decide (i < 0) || decide (n ≤ i.toNatClampNeg)) = false) : vp_in i n := by
  unfold vp_in
  simp only [Bool.or_eq_false_iff, decide_eq_false_iff_not] at h
  exact fun q => q.elim h.1 h.2
theorem bi_fit (b : Bool) : fits .boolean (.int (bi b)) = true := by cases b <;> rfl
theorem wi_one {x c : Int32} (h : wi x c c = true) : x = c := by
  simp only [wi, Bool.and_eq_true, decide_eq_true_eq] at h
  exact Int32.le_antisymm h.2 h.1
theorem tb_ws {ws : List Cond} (ix : List Nat) (h : ws = ix.filterMap (fun i => tables_1[i]?)) (g : ws.all goodWord = true) : ∀ w ∈ ws, w ∈ TB := by
  intro w hw
  have g1 := List.all_eq_true.mp g w hw
  rw [h] at hw
  obtain ⟨i, -, hi⟩ := List.mem_filterMap.mp hw
  exact tb_t i hi g1
theorem P_nil {D : va_G} {H : Heap} : va_P D vwCl [] H := fun k q h => by simp at h
theorem D_nil {A : Nat → Prop} : va_D A [] := ⟨fun i j p q h => by simp at h, fun k q h => by simp at h⟩
def fl (v : Int32) (n : Nat) (f : Nat → Int32) : Nat → Int32 := fun k => if k < n then v else f k
theorem fl_0 (v : Int32) (f : Nat → Int32) : fl v 0 f = f := by funext k; simp [fl]
theorem fl_s (v : Int32) (n : Nat) (f : Nat → Int32) : upd (fl v n f) n v = fl v (n + 1) f := by
  funext k
  simp only [upd, fl]
  by_cases h : k = n
  · subst h; simp
  · by_cases h2 : k < n
    · rw [if_neg h, if_pos h2, if_pos (by omega)]
    · rw [if_neg h, if_neg h2, if_neg (by omega)]
theorem wi_ge {x lo hi : Int32} (h : wi x lo hi = true) : ¬ x < lo := by
  simp only [wi, Bool.and_eq_true, decide_eq_true_eq] at h
  exact Int32.not_lt.mpr h.1
theorem wi_le {x lo hi : Int32} (h : wi x lo hi = true) : ¬ hi < x := by
  simp only [wi, Bool.and_eq_true, decide_eq_true_eq] at h
  exact Int32.not_lt.mpr h.2
theorem wi_empty {x lo hi : Int32} (hh : hi < lo) : ¬ wi x lo hi = true := fun h => by
  simp only [wi, Bool.and_eq_true, decide_eq_true_eq] at h
  exact absurd (Int32.lt_of_lt_of_le hh (Int32.le_trans h.1 h.2)) (Int32.lt_irrefl)
theorem wi_a {n lo hi : Int32} (h : n < lo) : (0 : Int32) = bi (wi n lo hi) := by
  have h2 : ¬ lo ≤ n := fun q => absurd h (Int32.not_lt.mpr q)
  simp [wi, bi, h2]
theorem wi_b {n lo hi : Int32} (h : hi < n) : (0 : Int32) = bi (wi n lo hi) := by
  have h2 : ¬ n ≤ hi := fun q => absurd h (Int32.not_lt.mpr q)
  simp [wi, bi, h2]
theorem wi_c {n lo hi : Int32} (h1 : ¬ n < lo) (h2 : ¬ hi < n) : (1 : Int32) = bi (wi n lo hi) := by
  simp [wi, bi, Int32.not_lt.mp h1, Int32.not_lt.mp h2]
theorem wl_a {n lo hi : Int64} (h : lg_cmp n lo < 0) : (0 : Int32) = bi (wl n lo hi) := by
  have h2 : ¬ lo ≤ n := fun q => absurd ((lg_cmp_lt _ _).mp h) (Int64.not_lt.mpr q)
  simp [wl, bi, h2]
theorem wl_b {n lo hi : Int64} (h : 0 < lg_cmp n hi) : (0 : Int32) = bi (wl n lo hi) := by
  have h2 : ¬ n ≤ hi := fun q => absurd ((lg_cmp_gt _ _).mp h) (Int64.not_lt.mpr q)
  simp [wl, bi, h2]
theorem wl_c {n lo hi : Int64} (h1 : ¬ lg_cmp n lo < 0) (h2 : ¬ 0 < lg_cmp n hi) : (1 : Int32) = bi (wl n lo hi) := by
  rw [lg_cmp_lt] at h1
  rw [lg_cmp_gt] at h2
  simp [wl, bi, Int64.not_lt.mp h1, Int64.not_lt.mp h2]
theorem wl_wi {n lo hi : Int32} {lo2 hi2 : Int64} (h1 : lo.toInt64 = lo2) (h2 : hi.toInt64 = hi2) : wl n.toInt64 lo2 hi2 = wi n lo hi := by
  subst h1; subst h2
  simp [wl, wi, Int64.le_iff_toInt_le, Int32.le_iff_toInt_le]
theorem inX0 : ∀ w ∈ wsX00, w ∈ TB := tb_ws [65, 67, 69, 71, 73, 75, 77] (by decide +kernel) (by decide +kernel)
theorem nuX0 : ∀ j, j < 7 → defaultValue (tyX0 j) = vp_V [.null, .null, .null, .null, .null, .null, .int 0] j := by
  intro j hj
  match j, hj with
  | 0, _ => rfl
  | 1, _ => rfl
  | 2, _ => rfl
  | 3, _ => rfl
  | 4, _ => rfl
  | 5, _ => rfl
  | 6, _ => rfl
  | j + 7, hj => omega
theorem inX1 : ∀ w ∈ wsX10, w ∈ TB := tb_ws [114, 116, 118, 120, 122, 124, 126, 128] (by decide +kernel) (by decide +kernel)
theorem nuX1 : ∀ j, j < 8 → defaultValue (tyX1 j) = vp_V [.null, .null, .null, .null, .int 0, .int 0, .int 0, .int 0] j := by
  intro j hj
  match j, hj with
  | 0, _ => rfl
  | 1, _ => rfl
  | 2, _ => rfl
  | 3, _ => rfl
  | 4, _ => rfl
  | 5, _ => rfl
  | 6, _ => rfl
  | 7, _ => rfl
  | j + 8, hj => omega
theorem inX2 : ∀ w ∈ wsX20, w ∈ TB := tb_ws [189, 191, 193, 195, 197, 199, 201, 203, 205, 207, 209, 211] (by decide +kernel) (by decide +kernel)
theorem nuX2 : ∀ j, j < 12 → defaultValue (tyX2 j) = vp_V [.null, .null, .null, .null, .null, .null, .null, .null, .int 0, .int 0, .int 0, .int 0] j := by
  intro j hj
  match j, hj with
  | 0, _ => rfl
  | 1, _ => rfl
  | 2, _ => rfl
  | 3, _ => rfl
  | 4, _ => rfl
  | 5, _ => rfl
  | 6, _ => rfl
  | 7, _ => rfl
  | 8, _ => rfl
  | 9, _ => rfl
  | 10, _ => rfl
  | 11, _ => rfl
  | j + 12, hj => omega
theorem inX3 : ∀ w ∈ wsX30, w ∈ TB := tb_ws [225, 227, 229] (by decide +kernel) (by decide +kernel)
theorem nuX3 : ∀ j, j < 3 → defaultValue (tyX3 j) = vp_V [.null, .int 0, .int 0] j := by
  intro j hj
  match j, hj with
  | 0, _ => rfl
  | 1, _ => rfl
  | 2, _ => rfl
  | j + 3, hj => omega
theorem inX4 : ∀ w ∈ wsX40, w ∈ TB := tb_ws [298, 300, 302, 304, 306, 308, 310, 312, 314, 316, 318, 320, 322, 324] (by decide +kernel) (by decide +kernel)
theorem nuX4 : ∀ j, j < 14 → defaultValue (tyX4 j) = vp_V [.null, .null, .null, .null, .null, .int 0, .int 0, .int 0, .int 0, .int 0, .int 0, .int 0, .int 0, .int 0] j := by
  intro j hj
  match j, hj with
  | 0, _ => rfl
  | 1, _ => rfl
  | 2, _ => rfl
  | 3, _ => rfl
  | 4, _ => rfl
  | 5, _ => rfl
  | 6, _ => rfl
  | 7, _ => rfl
  | 8, _ => rfl
  | 9, _ => rfl
  | 10, _ => rfl
  | 11, _ => rfl
  | 12, _ => rfl
  | 13, _ => rfl
  | j + 14, hj => omega
theorem inX5 : ∀ w ∈ wsX50, w ∈ TB := tb_ws [257, 259, 261, 263, 265, 267, 269, 271] (by decide +kernel) (by decide +kernel)
theorem nuX5 : ∀ j, j < 8 → defaultValue (tyX5 j) = vp_V [.null, .null, .null, .null, .null, .int 0, .long 0, .int 0] j := by
  intro j hj
  match j, hj with
  | 0, _ => rfl
  | 1, _ => rfl
  | 2, _ => rfl
  | 3, _ => rfl
  | 4, _ => rfl
  | 5, _ => rfl
  | 6, _ => rfl
  | 7, _ => rfl
  | j + 8, hj => omega
theorem inX6 : ∀ w ∈ wsX60, w ∈ TB := tb_ws [150, 152, 154, 156, 158, 160, 162] (by decide +kernel) (by decide +kernel)
theorem nuX6 : ∀ j, j < 7 → defaultValue (tyX6 j) = vp_V [.null, .null, .null, .null, .int 0, .long 0, .int 0] j := by
  intro j hj
  match j, hj with
  | 0, _ => rfl
  | 1, _ => rfl
  | 2, _ => rfl
  | 3, _ => rfl
  | 4, _ => rfl
  | 5, _ => rfl
  | 6, _ => rfl
  | j + 7, hj => omega
theorem inX7 : ∀ w ∈ wsX70, w ∈ TB := tb_ws [402, 404, 406, 408, 410, 412, 414, 416] (by decide +kernel) (by decide +kernel)
theorem nuX7 : ∀ j, j < 8 → defaultValue (tyX7 j) = vp_V [.null, .null, .int 0, .int 0, .int 0, .int 0, .int 0, .int 0] j := by
  intro j hj
  match j, hj with
  | 0, _ => rfl
  | 1, _ => rfl
  | 2, _ => rfl
  | 3, _ => rfl
  | 4, _ => rfl
  | 5, _ => rfl
  | 6, _ => rfl
  | 7, _ => rfl
  | j + 8, hj => omega
theorem inX8 : ∀ w ∈ wsX80, w ∈ TB := tb_ws [359, 361, 363, 365, 367, 369, 371, 373, 375, 377, 379, 381, 383] (by decide +kernel) (by decide +kernel)
theorem nuX8 : ∀ j, j < 13 → defaultValue (tyX8 j) = vp_V [.null, .null, .null, .null, .null, .null, .null, .null, .null, .int 0, .int 0, .int 0, .int 0] j := by
  intro j hj
  match j, hj with
  | 0, _ => rfl
  | 1, _ => rfl
  | 2, _ => rfl
  | 3, _ => rfl
  | 4, _ => rfl
  | 5, _ => rfl
  | 6, _ => rfl
  | 7, _ => rfl
  | 8, _ => rfl
  | 9, _ => rfl
  | 10, _ => rfl
  | 11, _ => rfl
  | 12, _ => rfl
  | j + 13, hj => omega
theorem inX9 : ∀ w ∈ wsX90, w ∈ TB := tb_ws [38, 40] (by decide +kernel) (by decide +kernel)
theorem nuX9 : ∀ j, j < 2 → defaultValue (tyX9 j) = vp_V [.null, .int 0] j := by
  intro j hj
  match j, hj with
  | 0, _ => rfl
  | 1, _ => rfl
  | j + 2, hj => omega
theorem inX10 : ∀ w ∈ wsX100, w ∈ TB := tb_ws [451, 453, 455, 457, 459, 461, 463, 465, 467, 469, 471, 473, 475, 477, 479] (by decide +kernel) (by decide +kernel)
theorem nuX10 : ∀ j, j < 15 → defaultValue (tyX10 j) = vp_V [.null, .null, .null, .null, .null, .null, .null, .null, .null, .null, .null, .int 0, .int 0, .int 0, .int 0] j := by
  intro j hj
  match j, hj with
  | 0, _ => rfl
  | 1, _ => rfl
  | 2, _ => rfl
  | 3, _ => rfl
  | 4, _ => rfl
  | 5, _ => rfl
  | 6, _ => rfl
  | 7, _ => rfl
  | 8, _ => rfl
  | 9, _ => rfl
  | 10, _ => rfl
  | 11, _ => rfl
  | 12, _ => rfl
  | 13, _ => rfl
  | 14, _ => rfl
  | j + 15, hj => omega
theorem inX11 : ∀ w ∈ wsX110, w ∈ TB := tb_ws [1156, 1158, 1160, 1162, 1164, 1166, 1168, 1170, 1172, 1174, 1176, 1178, 1180, 1182, 1184, 1186, 1188, 1190, 1192, 1194, 1196, 1198, 1200, 1202, 1204, 1206, 1208, 1210, 1212, 1214, 1216, 1218, 1220, 1222, 1224, 1226, 1228, 1230, 1232, 1234, 1236, 1238, 1240, 1242, 1244, 1246, 1248, 1250, 1252, 1254, 1256, 1258, 1260, 1262, 1264, 1266, 1268, 1270, 1272, 1274, 1276, 1278, 1280, 1282, 1284, 1286, 1288, 1290, 1292, 1294, 1296, 1298, 1300, 1302, 1304, 1306, 1308, 1310, 1312, 1314, 1316, 1318, 1320, 1322, 1324, 1326, 1328, 1330, 1332, 1334, 1336, 1338, 1340, 1342, 1344, 1346, 1348, 1350, 1352, 1354, 1356, 1358, 1360, 1362, 1364] (by decide +kernel) (by decide +kernel)
theorem nuX11 : ∀ j, j < 105 → defaultValue (tyX11 j) = vp_V [.null, .int 0, .int 0, .int 0, .int 0, .int 0, .int 0, .int 0, .int 0, .null, .null, .null, .null, .null, .null, .null, .null, .null, .null, .null, .null, .null, .null, .null, .null, .null, .null, .null, .null, .null, .int 0, .null, .null, .null, .null, .null, .null, .null, .null, .null, .null, .null, .null, .int 0, .null, .int 0, .int 0, .int 0, .int 0, .int 0, .int 0, .int 0, .null, .null, .null, .null, .null, .null, .int 0, .int 0, .null, .null, .null, .null, .null, .int 0, .null, .null, .int 0, .int 0, .null, .null, .int 0, .null, .null, .null, .null, .null, .int 0, .null, .int 0, .int 0, .int 0, .null, .null, .null, .null, .int 0, .null, .null, .null, .null, .int 0, .null, .null, .null, .int 0, .null, .null, .null, .int 0, .null, .null, .int 0, .int 0] j := by
  intro j hj
  match j, hj with
  | 0, _ => rfl
  | 1, _ => rfl
  | 2, _ => rfl
  | 3, _ => rfl
  | 4, _ => rfl
  | 5, _ => rfl
  | 6, _ => rfl
  | 7, _ => rfl
  | 8, _ => rfl
  | 9, _ => rfl
  | 10, _ => rfl
  | 11, _ => rfl
  | 12, _ => rfl
  | 13, _ => rfl
  | 14, _ => rfl
  | 15, _ => rfl
  | 16, _ => rfl
  | 17, _ => rfl
  | 18, _ => rfl
  | 19, _ => rfl
  | 20, _ => rfl
  | 21, _ => rfl
  | 22, _ => rfl
  | 23, _ => rfl
  | 24, _ => rfl
  | 25, _ => rfl
  | 26, _ => rfl
  | 27, _ => rfl
  | 28, _ => rfl
  | 29, _ => rfl
  | 30, _ => rfl
  | 31, _ => rfl
  | 32, _ => rfl
  | 33, _ => rfl
  | 34, _ => rfl
  | 35, _ => rfl
  | 36, _ => rfl
  | 37, _ => rfl
  | 38, _ => rfl
  | 39, _ => rfl
  | 40, _ => rfl
  | 41, _ => rfl
  | 42, _ => rfl
  | 43, _ => rfl
  | 44, _ => rfl
  | 45, _ => rfl
  | 46, _ => rfl
  | 47, _ => rfl
  | 48, _ => rfl
  | 49, _ => rfl
  | 50, _ => rfl
  | 51, _ => rfl
  | 52, _ => rfl
  | 53, _ => rfl
  | 54, _ => rfl
  | 55, _ => rfl
  | 56, _ => rfl
  | 57, _ => rfl
  | 58, _ => rfl
  | 59, _ => rfl
  | 60, _ => rfl
  | 61, _ => rfl
  | 62, _ => rfl
  | 63, _ => rfl
  | 64, _ => rfl
  | 65, _ => rfl
  | 66, _ => rfl
  | 67, _ => rfl
  | 68, _ => rfl
  | 69, _ => rfl
  | 70, _ => rfl
  | 71, _ => rfl
  | 72, _ => rfl
  | 73, _ => rfl
  | 74, _ => rfl
  | 75, _ => rfl
  | 76, _ => rfl
  | 77, _ => rfl
  | 78, _ => rfl
  | 79, _ => rfl
  | 80, _ => rfl
  | 81, _ => rfl
  | 82, _ => rfl
  | 83, _ => rfl
  | 84, _ => rfl
  | 85, _ => rfl
  | 86, _ => rfl
  | 87, _ => rfl
  | 88, _ => rfl
  | 89, _ => rfl
  | 90, _ => rfl
  | 91, _ => rfl
  | 92, _ => rfl
  | 93, _ => rfl
  | 94, _ => rfl
  | 95, _ => rfl
  | 96, _ => rfl
  | 97, _ => rfl
  | 98, _ => rfl
  | 99, _ => rfl
  | 100, _ => rfl
  | 101, _ => rfl
  | 102, _ => rfl
  | 103, _ => rfl
  | 104, _ => rfl
  | j + 105, hj => omega
theorem mw_0 : Cond.methodLink RX10 3 objectInit ∈ TB := tb_t 24 (by decide +kernel) (by decide +kernel)
theorem mw_1 : Cond.instanceMethod objectInit ∈ TB := tb_t 25 (by decide +kernel) (by decide +kernel)
theorem mw_2 : Cond.code objectInit ⟨#[0xb1]⟩ 1 none ∈ TB := tb_t 26 (by decide +kernel) (by decide +kernel)
theorem mw_3 : Cond.classLink RX10 9 RX9 ∈ TB := tb_t 27 (by decide +kernel) (by decide +kernel)
theorem mw_4 : Cond.instantiable RX9 2 ∈ TB := tb_t 28 (by decide +kernel) (by decide +kernel)
theorem mw_5 : Cond.initialized RX9 ∈ TB := tb_t 2 (by decide +kernel) (by decide +kernel)
theorem mw_6 : Cond.methodLink RX9 3 objectInit ∈ TB := tb_t 32 (by decide +kernel) (by decide +kernel)
theorem mw_7 : Cond.arrayClass (newarray.typeOf .byte) ∈ TB := tb_t 43 (by decide +kernel) (by decide +kernel)
theorem mw_8 : Cond.fieldLink RX9 11 RX9 "bytes" "[B" ∈ TB := tb_t 33 (by decide +kernel) (by decide +kernel)
theorem mw_9 : Cond.fieldLink RX9 15 RX9 "size" "I" ∈ TB := tb_t 35 (by decide +kernel) (by decide +kernel)
theorem dn_10 : DescN yX9_init 0 := by decide +kernel
theorem mw_11 : Cond.instanceMethod yX9_init ∈ TB := tb_t 30 (by decide +kernel) (by decide +kernel)
theorem mw_12 : Cond.code yX9_init cX9_init 1 none ∈ TB := tb_t 31 (by decide +kernel) (by decide +kernel)
theorem mw_13 : Cond.fieldLink RX10 12 RX10 "tape" "LHookBoard$Tape;" ∈ TB := tb_t 436 (by decide +kernel) (by decide +kernel)
theorem mw_14 : Cond.classLink RX10 16 RX0 ∈ TB := tb_t 44 (by decide +kernel) (by decide +kernel)
theorem mw_15 : Cond.instantiable RX0 7 ∈ TB := tb_t 45 (by decide +kernel) (by decide +kernel)
theorem mw_16 : Cond.initialized RX0 ∈ TB := tb_t 3 (by decide +kernel) (by decide +kernel)
theorem mw_17 : Cond.methodLink RX0 3 objectInit ∈ TB := tb_t 49 (by decide +kernel) (by decide +kernel)
theorem mw_18 : Cond.arrayClass (newarray.typeOf .int) ∈ TB := tb_t 80 (by decide +kernel) (by decide +kernel)
theorem mw_19 : Cond.fieldLink RX0 11 RX0 "type" "[I" ∈ TB := tb_t 50 (by decide +kernel) (by decide +kernel)
theorem mw_20 : Cond.fieldLink RX0 15 RX0 "first" "[I" ∈ TB := tb_t 52 (by decide +kernel) (by decide +kernel)
theorem mw_21 : Cond.fieldLink RX0 18 RX0 "second" "[I" ∈ TB := tb_t 54 (by decide +kernel) (by decide +kernel)
theorem mw_22 : Cond.fieldLink RX0 21 RX0 "third" "[I" ∈ TB := tb_t 57 (by decide +kernel) (by decide +kernel)
theorem mw_23 : Cond.fieldLink RX0 24 RX0 "fourth" "[I" ∈ TB := tb_t 60 (by decide +kernel) (by decide +kernel)
theorem mw_24 : Cond.fieldLink RX0 27 RX0 "voidBy" "[I" ∈ TB := tb_t 62 (by decide +kernel) (by decide +kernel)
theorem mw_25 : Cond.fieldLink RX0 30 RX0 "count" "I" ∈ TB := tb_t 63 (by decide +kernel) (by decide +kernel)
theorem dn_26 : DescN yX0_init 0 := by decide +kernel
theorem mw_27 : Cond.instanceMethod yX0_init ∈ TB := tb_t 47 (by decide +kernel) (by decide +kernel)
theorem mw_28 : Cond.code yX0_init cX0_init 1 none ∈ TB := tb_t 48 (by decide +kernel) (by decide +kernel)
theorem mw_29 : Cond.fieldLink RX10 19 RX10 "acts" "LHookBoard$Acts;" ∈ TB := tb_t 438 (by decide +kernel) (by decide +kernel)
theorem mw_30 : Cond.classLink RX10 23 RX2 ∈ TB := tb_t 81 (by decide +kernel) (by decide +kernel)
theorem mw_31 : Cond.instantiable RX2 12 ∈ TB := tb_t 82 (by decide +kernel) (by decide +kernel)
theorem mw_32 : Cond.initialized RX2 ∈ TB := tb_t 4 (by decide +kernel) (by decide +kernel)
theorem mw_33 : Cond.methodLink RX2 3 objectInit ∈ TB := tb_t 86 (by decide +kernel) (by decide +kernel)
theorem mw_34 : Cond.fieldLink RX2 9 RX2 "kindOf" "[I" ∈ TB := tb_t 165 (by decide +kernel) (by decide +kernel)
theorem mw_35 : Cond.fieldLink RX2 15 RX2 "slack" "[I" ∈ TB := tb_t 168 (by decide +kernel) (by decide +kernel)
theorem mw_36 : Cond.fieldLink RX2 18 RX2 "worn" "[I" ∈ TB := tb_t 171 (by decide +kernel) (by decide +kernel)
theorem mw_37 : Cond.fieldLink RX2 21 RX2 "heap" "[I" ∈ TB := tb_t 173 (by decide +kernel) (by decide +kernel)
theorem mw_38 : Cond.fieldLink RX2 24 RX2 "fluff" "[I" ∈ TB := tb_t 175 (by decide +kernel) (by decide +kernel)
theorem mw_39 : Cond.fieldLink RX2 29 RX2 "great" "[I" ∈ TB := tb_t 177 (by decide +kernel) (by decide +kernel)
theorem mw_40 : Cond.classLink RX2 32 RX1 ∈ TB := tb_t 87 (by decide +kernel) (by decide +kernel)
theorem mw_41 : Cond.instantiable RX1 8 ∈ TB := tb_t 88 (by decide +kernel) (by decide +kernel)
theorem mw_42 : Cond.initialized RX1 ∈ TB := tb_t 5 (by decide +kernel) (by decide +kernel)
theorem mw_43 : Cond.methodLink RX1 3 objectInit ∈ TB := tb_t 92 (by decide +kernel) (by decide +kernel)
theorem mw_44 : Cond.fieldLink RX1 9 RX1 "held" "[I" ∈ TB := tb_t 93 (by decide +kernel) (by decide +kernel)
theorem mw_45 : Cond.fieldLink RX1 15 RX1 "stiff" "[I" ∈ TB := tb_t 98 (by decide +kernel) (by decide +kernel)
theorem mw_46 : Cond.fieldLink RX1 18 RX1 "slack" "[I" ∈ TB := tb_t 100 (by decide +kernel) (by decide +kernel)
theorem mw_47 : Cond.fieldLink RX1 21 RX1 "opens" "[I" ∈ TB := tb_t 102 (by decide +kernel) (by decide +kernel)
theorem mw_48 : Cond.fieldLink RX1 24 RX1 "cells" "I" ∈ TB := tb_t 105 (by decide +kernel) (by decide +kernel)
theorem mw_49 : Cond.fieldLink RX1 28 RX1 "wide" "I" ∈ TB := tb_t 108 (by decide +kernel) (by decide +kernel)
theorem mw_50 : Cond.fieldLink RX1 31 RX1 "count" "I" ∈ TB := tb_t 110 (by decide +kernel) (by decide +kernel)
theorem mw_51 : Cond.fieldLink RX1 34 RX1 "made" "Z" ∈ TB := tb_t 112 (by decide +kernel) (by decide +kernel)
theorem dn_52 : DescN yX1_init 0 := by decide +kernel
theorem mw_53 : Cond.instanceMethod yX1_init ∈ TB := tb_t 90 (by decide +kernel) (by decide +kernel)
theorem mw_54 : Cond.code yX1_init cX1_init 1 none ∈ TB := tb_t 91 (by decide +kernel) (by decide +kernel)
theorem mw_55 : Cond.fieldLink RX2 35 RX2 "trial" "LHookBoard$Draw;" ∈ TB := tb_t 179 (by decide +kernel) (by decide +kernel)
theorem mw_56 : Cond.classLink RX2 39 RX6 ∈ TB := tb_t 131 (by decide +kernel) (by decide +kernel)
theorem mw_57 : Cond.instantiable RX6 7 ∈ TB := tb_t 132 (by decide +kernel) (by decide +kernel)
theorem mw_58 : Cond.initialized RX6 ∈ TB := tb_t 6 (by decide +kernel) (by decide +kernel)
theorem mw_59 : Cond.methodLink RX6 3 objectInit ∈ TB := tb_t 136 (by decide +kernel) (by decide +kernel)
theorem mw_60 : Cond.fieldLink RX6 9 RX6 "cell" "[I" ∈ TB := tb_t 137 (by decide +kernel) (by decide +kernel)
theorem mw_61 : Cond.fieldLink RX6 15 RX6 "stiff" "[I" ∈ TB := tb_t 139 (by decide +kernel) (by decide +kernel)
theorem mw_62 : Cond.fieldLink RX6 18 RX6 "slack" "[I" ∈ TB := tb_t 141 (by decide +kernel) (by decide +kernel)
theorem mw_63 : Cond.fieldLink RX6 21 RX6 "gives" "[I" ∈ TB := tb_t 142 (by decide +kernel) (by decide +kernel)
theorem mw_64 : Cond.fieldLink RX6 24 RX6 "steps" "I" ∈ TB := tb_t 143 (by decide +kernel) (by decide +kernel)
theorem mw_65 : Cond.fieldLink RX6 28 RX6 "most" "J" ∈ TB := tb_t 145 (by decide +kernel) (by decide +kernel)
theorem mw_66 : Cond.fieldLink RX6 32 RX6 "made" "Z" ∈ TB := tb_t 148 (by decide +kernel) (by decide +kernel)
theorem dn_67 : DescN yX6_init 0 := by decide +kernel
theorem mw_68 : Cond.instanceMethod yX6_init ∈ TB := tb_t 134 (by decide +kernel) (by decide +kernel)
theorem mw_69 : Cond.code yX6_init cX6_init 1 none ∈ TB := tb_t 135 (by decide +kernel) (by decide +kernel)
theorem mw_70 : Cond.fieldLink RX2 42 RX2 "tug" "LHookBoard$Pull;" ∈ TB := tb_t 180 (by decide +kernel) (by decide +kernel)
theorem mw_71 : Cond.fieldLink RX2 46 RX2 "greats" "I" ∈ TB := tb_t 181 (by decide +kernel) (by decide +kernel)
theorem mw_72 : Cond.fieldLink RX2 50 RX2 "cells" "I" ∈ TB := tb_t 183 (by decide +kernel) (by decide +kernel)
theorem mw_73 : Cond.fieldLink RX2 53 RX2 "wide" "I" ∈ TB := tb_t 185 (by decide +kernel) (by decide +kernel)
theorem mw_74 : Cond.fieldLink RX2 56 RX2 "at" "I" ∈ TB := tb_t 187 (by decide +kernel) (by decide +kernel)
theorem dn_75 : DescN yX2_init 0 := by decide +kernel
theorem mw_76 : Cond.instanceMethod yX2_init ∈ TB := tb_t 84 (by decide +kernel) (by decide +kernel)
theorem mw_77 : Cond.code yX2_init cX2_init 1 none ∈ TB := tb_t 85 (by decide +kernel) (by decide +kernel)
theorem mw_78 : Cond.fieldLink RX10 26 RX10 "known" "LHookBoard$Known;" ∈ TB := tb_t 439 (by decide +kernel) (by decide +kernel)
theorem mw_79 : Cond.classLink RX10 30 RX3 ∈ TB := tb_t 214 (by decide +kernel) (by decide +kernel)
theorem mw_80 : Cond.instantiable RX3 3 ∈ TB := tb_t 215 (by decide +kernel) (by decide +kernel)
theorem mw_81 : Cond.initialized RX3 ∈ TB := tb_t 7 (by decide +kernel) (by decide +kernel)
theorem mw_82 : Cond.methodLink RX3 3 objectInit ∈ TB := tb_t 219 (by decide +kernel) (by decide +kernel)
theorem mw_83 : Cond.arrayClass (newarray.typeOf .long) ∈ TB := tb_t 232 (by decide +kernel) (by decide +kernel)
theorem mw_84 : Cond.fieldLink RX3 9 RX3 "row" "[J" ∈ TB := tb_t 220 (by decide +kernel) (by decide +kernel)
theorem mw_85 : Cond.fieldLink RX3 15 RX3 "hooks" "I" ∈ TB := tb_t 221 (by decide +kernel) (by decide +kernel)
theorem mw_86 : Cond.fieldLink RX3 19 RX3 "made" "Z" ∈ TB := tb_t 223 (by decide +kernel) (by decide +kernel)
theorem dn_87 : DescN yX3_init 0 := by decide +kernel
theorem mw_88 : Cond.instanceMethod yX3_init ∈ TB := tb_t 217 (by decide +kernel) (by decide +kernel)
theorem mw_89 : Cond.code yX3_init cX3_init 1 none ∈ TB := tb_t 218 (by decide +kernel) (by decide +kernel)
theorem mw_90 : Cond.fieldLink RX10 33 RX10 "odds" "LHookBoard$Odds;" ∈ TB := tb_t 440 (by decide +kernel) (by decide +kernel)
theorem mw_91 : Cond.classLink RX10 37 RX1 ∈ TB := tb_t 233 (by decide +kernel) (by decide +kernel)
theorem mw_92 : Cond.fieldLink RX10 40 RX10 "draw" "LHookBoard$Draw;" ∈ TB := tb_t 441 (by decide +kernel) (by decide +kernel)
theorem mw_93 : Cond.classLink RX10 44 RX6 ∈ TB := tb_t 235 (by decide +kernel) (by decide +kernel)
theorem mw_94 : Cond.fieldLink RX10 47 RX10 "pull" "LHookBoard$Pull;" ∈ TB := tb_t 442 (by decide +kernel) (by decide +kernel)
theorem mw_95 : Cond.classLink RX10 51 RX5 ∈ TB := tb_t 237 (by decide +kernel) (by decide +kernel)
theorem mw_96 : Cond.instantiable RX5 8 ∈ TB := tb_t 238 (by decide +kernel) (by decide +kernel)
theorem mw_97 : Cond.initialized RX5 ∈ TB := tb_t 8 (by decide +kernel) (by decide +kernel)
theorem mw_98 : Cond.methodLink RX5 3 objectInit ∈ TB := tb_t 242 (by decide +kernel) (by decide +kernel)
theorem mw_99 : Cond.fieldLink RX5 9 RX5 "row" "[I" ∈ TB := tb_t 243 (by decide +kernel) (by decide +kernel)
theorem mw_100 : Cond.fieldLink RX5 15 RX5 "force" "[I" ∈ TB := tb_t 245 (by decide +kernel) (by decide +kernel)
theorem mw_101 : Cond.fieldLink RX5 18 RX5 "went" "[I" ∈ TB := tb_t 247 (by decide +kernel) (by decide +kernel)
theorem mw_102 : Cond.fieldLink RX5 21 RX5 "hold" "[I" ∈ TB := tb_t 249 (by decide +kernel) (by decide +kernel)
theorem mw_103 : Cond.fieldLink RX5 24 RX5 "weight" "[I" ∈ TB := tb_t 250 (by decide +kernel) (by decide +kernel)
theorem mw_104 : Cond.fieldLink RX5 27 RX5 "fronts" "I" ∈ TB := tb_t 251 (by decide +kernel) (by decide +kernel)
theorem mw_105 : Cond.fieldLink RX5 31 RX5 "sum" "J" ∈ TB := tb_t 253 (by decide +kernel) (by decide +kernel)
theorem mw_106 : Cond.fieldLink RX5 35 RX5 "made" "Z" ∈ TB := tb_t 255 (by decide +kernel) (by decide +kernel)
theorem dn_107 : DescN yX5_init 0 := by decide +kernel
theorem mw_108 : Cond.instanceMethod yX5_init ∈ TB := tb_t 240 (by decide +kernel) (by decide +kernel)
theorem mw_109 : Cond.code yX5_init cX5_init 1 none ∈ TB := tb_t 241 (by decide +kernel) (by decide +kernel)
theorem mw_110 : Cond.fieldLink RX10 54 RX10 "peel" "LHookBoard$Peel;" ∈ TB := tb_t 443 (by decide +kernel) (by decide +kernel)
theorem mw_111 : Cond.classLink RX10 58 RX4 ∈ TB := tb_t 274 (by decide +kernel) (by decide +kernel)
theorem mw_112 : Cond.instantiable RX4 14 ∈ TB := tb_t 275 (by decide +kernel) (by decide +kernel)
theorem mw_113 : Cond.initialized RX4 ∈ TB := tb_t 9 (by decide +kernel) (by decide +kernel)
theorem mw_114 : Cond.methodLink RX4 3 objectInit ∈ TB := tb_t 279 (by decide +kernel) (by decide +kernel)
theorem mw_115 : Cond.fieldLink RX4 11 RX4 "place" "[I" ∈ TB := tb_t 280 (by decide +kernel) (by decide +kernel)
theorem mw_116 : Cond.fieldLink RX4 15 RX4 "bears" "[I" ∈ TB := tb_t 281 (by decide +kernel) (by decide +kernel)
theorem mw_117 : Cond.fieldLink RX4 18 RX4 "cost" "[I" ∈ TB := tb_t 282 (by decide +kernel) (by decide +kernel)
theorem mw_118 : Cond.fieldLink RX4 21 RX4 "pullPlace" "[I" ∈ TB := tb_t 283 (by decide +kernel) (by decide +kernel)
theorem mw_119 : Cond.fieldLink RX4 24 RX4 "pullForce" "[I" ∈ TB := tb_t 284 (by decide +kernel) (by decide +kernel)
theorem mw_120 : Cond.fieldLink RX4 27 RX4 "count" "I" ∈ TB := tb_t 285 (by decide +kernel) (by decide +kernel)
theorem mw_121 : Cond.fieldLink RX4 31 RX4 "pulls" "I" ∈ TB := tb_t 287 (by decide +kernel) (by decide +kernel)
theorem mw_122 : Cond.fieldLink RX4 34 RX4 "picked" "I" ∈ TB := tb_t 289 (by decide +kernel) (by decide +kernel)
theorem mw_123 : Cond.fieldLink RX4 37 RX4 "pickedOf" "I" ∈ TB := tb_t 291 (by decide +kernel) (by decide +kernel)
theorem dn_124 : DescN yX4_init 0 := by decide +kernel
theorem mw_125 : Cond.instanceMethod yX4_init ∈ TB := tb_t 277 (by decide +kernel) (by decide +kernel)
theorem mw_126 : Cond.code yX4_init cX4_init 1 none ∈ TB := tb_t 278 (by decide +kernel) (by decide +kernel)
theorem mw_127 : Cond.fieldLink RX10 61 RX10 "patches" "LHookBoard$Patches;" ∈ TB := tb_t 444 (by decide +kernel) (by decide +kernel)
theorem mw_128 : Cond.classLink RX10 65 RX8 ∈ TB := tb_t 327 (by decide +kernel) (by decide +kernel)
theorem mw_129 : Cond.instantiable RX8 13 ∈ TB := tb_t 328 (by decide +kernel) (by decide +kernel)
theorem mw_130 : Cond.initialized RX8 ∈ TB := tb_t 10 (by decide +kernel) (by decide +kernel)
theorem mw_131 : Cond.methodLink RX8 3 objectInit ∈ TB := tb_t 332 (by decide +kernel) (by decide +kernel)
theorem mw_132 : Cond.fieldLink RX8 11 RX8 "names" "[J" ∈ TB := tb_t 333 (by decide +kernel) (by decide +kernel)
theorem mw_133 : Cond.fieldLink RX8 15 RX8 "numbers" "[I" ∈ TB := tb_t 335 (by decide +kernel) (by decide +kernel)
theorem mw_134 : Cond.fieldLink RX8 19 RX8 "ruleWord" "[I" ∈ TB := tb_t 337 (by decide +kernel) (by decide +kernel)
theorem mw_135 : Cond.fieldLink RX8 22 RX8 "ruleSum" "[I" ∈ TB := tb_t 339 (by decide +kernel) (by decide +kernel)
theorem mw_136 : Cond.fieldLink RX8 25 RX8 "ruleTest" "[I" ∈ TB := tb_t 341 (by decide +kernel) (by decide +kernel)
theorem mw_137 : Cond.fieldLink RX8 28 RX8 "ruleEnd" "[I" ∈ TB := tb_t 343 (by decide +kernel) (by decide +kernel)
theorem mw_138 : Cond.fieldLink RX8 33 RX8 "code" "[I" ∈ TB := tb_t 345 (by decide +kernel) (by decide +kernel)
theorem mw_139 : Cond.fieldLink RX8 36 RX8 "facts" "[I" ∈ TB := tb_t 346 (by decide +kernel) (by decide +kernel)
theorem mw_140 : Cond.fieldLink RX8 39 RX8 "stack" "[I" ∈ TB := tb_t 348 (by decide +kernel) (by decide +kernel)
theorem mw_141 : Cond.fieldLink RX8 42 RX8 "kinds" "I" ∈ TB := tb_t 349 (by decide +kernel) (by decide +kernel)
theorem mw_142 : Cond.fieldLink RX8 46 RX8 "rules" "I" ∈ TB := tb_t 352 (by decide +kernel) (by decide +kernel)
theorem mw_143 : Cond.fieldLink RX8 49 RX8 "statements" "I" ∈ TB := tb_t 354 (by decide +kernel) (by decide +kernel)
theorem mw_144 : Cond.fieldLink RX8 52 RX8 "length" "I" ∈ TB := tb_t 357 (by decide +kernel) (by decide +kernel)
theorem dn_145 : DescN yX8_init 0 := by decide +kernel
theorem mw_146 : Cond.instanceMethod yX8_init ∈ TB := tb_t 330 (by decide +kernel) (by decide +kernel)
theorem mw_147 : Cond.code yX8_init cX8_init 1 none ∈ TB := tb_t 331 (by decide +kernel) (by decide +kernel)
theorem mw_148 : Cond.fieldLink RX10 68 RX10 "script" "LHookBoard$Script;" ∈ TB := tb_t 445 (by decide +kernel) (by decide +kernel)
theorem mw_149 : Cond.fieldLink RX10 72 RX10 "spare" "LHookBoard$Script;" ∈ TB := tb_t 446 (by decide +kernel) (by decide +kernel)
theorem mw_150 : Cond.classLink RX10 75 RX7 ∈ TB := tb_t 386 (by decide +kernel) (by decide +kernel)
theorem mw_151 : Cond.instantiable RX7 8 ∈ TB := tb_t 387 (by decide +kernel) (by decide +kernel)
theorem mw_152 : Cond.initialized RX7 ∈ TB := tb_t 11 (by decide +kernel) (by decide +kernel)
theorem mw_153 : Cond.methodLink RX7 3 objectInit ∈ TB := tb_t 391 (by decide +kernel) (by decide +kernel)
theorem mw_154 : Cond.fieldLink RX7 9 RX7 "fault" "I" ∈ TB := tb_t 398 (by decide +kernel) (by decide +kernel)
theorem mw_155 : Cond.fieldLink RX7 15 RX7 "place" "I" ∈ TB := tb_t 400 (by decide +kernel) (by decide +kernel)
theorem mw_156 : Cond.fieldLink RX7 18 RX7 "tape" "LHookBoard$Tape;" ∈ TB := tb_t 392 (by decide +kernel) (by decide +kernel)
theorem mw_157 : Cond.fieldLink RX7 22 RX7 "out" "LHookBoard$Script;" ∈ TB := tb_t 393 (by decide +kernel) (by decide +kernel)
theorem dn_158 : DescN yX7_init 2 := by decide +kernel
theorem mw_159 : Cond.methodLink RX10 77 yX7_init ∈ TB := tb_t 388 (by decide +kernel) (by decide +kernel)
theorem mw_160 : Cond.instanceMethod yX7_init ∈ TB := tb_t 389 (by decide +kernel) (by decide +kernel)
theorem mw_161 : Cond.code yX7_init cX7_init 3 none ∈ TB := tb_t 390 (by decide +kernel) (by decide +kernel)
theorem mw_162 : Cond.fieldLink RX10 80 RX10 "reader" "LHookBoard$Reader;" ∈ TB := tb_t 437 (by decide +kernel) (by decide +kernel)
theorem mw_163 : Cond.fieldLink RX10 84 RX10 "cells" "I" ∈ TB := tb_t 447 (by decide +kernel) (by decide +kernel)
theorem mw_164 : Cond.fieldLink RX10 88 RX10 "asAct" "I" ∈ TB := tb_t 448 (by decide +kernel) (by decide +kernel)
theorem mw_165 : Cond.fieldLink RX10 91 RX10 "fault" "I" ∈ TB := tb_t 449 (by decide +kernel) (by decide +kernel)
theorem mw_166 : Cond.fieldLink RX10 94 RX10 "faultPlace" "I" ∈ TB := tb_t 450 (by decide +kernel) (by decide +kernel)
theorem mw_167 : Cond.methodLink RX2 59 Lib.Math.max.name ∈ TB := tb_t 423 (by decide +kernel) (by decide +kernel)
theorem mw_168 : Cond.static Lib.Math.max.name ∈ TB := tb_t 424 (by decide +kernel) (by decide +kernel)
theorem mw_169 : Cond.initialized RJ9 ∈ TB := tb_t 12 (by decide +kernel) (by decide +kernel)
theorem mw_170 : Cond.code Lib.Math.max.name Lib.Math.max.code 2 (some .int) ∈ TB := tb_t 425 (by decide +kernel) (by decide +kernel)
theorem mw_171 : Cond.methodLink RX2 65 Lib.Math.min.name ∈ TB := tb_t 426 (by decide +kernel) (by decide +kernel)
theorem mw_172 : Cond.static Lib.Math.min.name ∈ TB := tb_t 427 (by decide +kernel) (by decide +kernel)
theorem mw_173 : Cond.code Lib.Math.min.name Lib.Math.min.code 2 (some .int) ∈ TB := tb_t 428 (by decide +kernel) (by decide +kernel)
theorem dn_174 : DescN yJ7_fill_53178 2 := by decide +kernel
theorem mw_175 : Cond.methodLink RX2 71 yJ7_fill_53178 ∈ TB := tb_t 433 (by decide +kernel) (by decide +kernel)
theorem mw_176 : Cond.static yJ7_fill_53178 ∈ TB := tb_t 434 (by decide +kernel) (by decide +kernel)
theorem mw_177 : Cond.initialized RJ7 ∈ TB := tb_t 13 (by decide +kernel) (by decide +kernel)
theorem mw_178 : Cond.code yJ7_fill_53178 cJ7_fill_53178 4 none ∈ TB := tb_t 435 (by decide +kernel) (by decide +kernel)
theorem dn_179 : DescN yX2_forget 0 := by decide +kernel
theorem mw_180 : Cond.methodLink RX2 68 yX2_forget ∈ TB := tb_t 429 (by decide +kernel) (by decide +kernel)
theorem mw_181 : Cond.instanceMethod yX2_forget ∈ TB := tb_t 430 (by decide +kernel) (by decide +kernel)
theorem mw_182 : Cond.selects RX2 yX2_forget yX2_forget ∈ TB := tb_t 431 (by decide +kernel) (by decide +kernel)
theorem mw_183 : Cond.code yX2_forget cX2_forget 1 none ∈ TB := tb_t 432 (by decide +kernel) (by decide +kernel)
theorem dn_184 : DescN yX2_begin 2 := by decide +kernel
theorem mw_185 : Cond.methodLink RX10 97 yX2_begin ∈ TB := tb_t 419 (by decide +kernel) (by decide +kernel)
theorem mw_186 : Cond.instanceMethod yX2_begin ∈ TB := tb_t 420 (by decide +kernel) (by decide +kernel)
theorem mw_187 : Cond.selects RX2 yX2_begin yX2_begin ∈ TB := tb_t 421 (by decide +kernel) (by decide +kernel)
theorem mw_188 : Cond.code yX2_begin cX2_begin 3 none ∈ TB := tb_t 422 (by decide +kernel) (by decide +kernel)
theorem mw_189 : Cond.methodLink RX11 1 objectInit ∈ TB := tb_t 1050 (by decide +kernel) (by decide +kernel)
theorem mw_190 : Cond.fieldLink RX11 7 RX11 "tape" "[I" ∈ TB := tb_t 1051 (by decide +kernel) (by decide +kernel)
theorem mw_191 : Cond.fieldLink RX11 13 RX11 "faultPlace" "I" ∈ TB := tb_t 1059 (by decide +kernel) (by decide +kernel)
theorem mw_192 : Cond.arrayClass (newarray.typeOf .char) ∈ TB := tb_t 1367 (by decide +kernel) (by decide +kernel)
theorem mw_193 : Cond.fieldLink RX11 17 RX11 "kindWord" "[C" ∈ TB := tb_t 1060 (by decide +kernel) (by decide +kernel)
theorem mw_194 : Cond.fieldLink RX11 21 RX11 "stiffWord" "[C" ∈ TB := tb_t 1061 (by decide +kernel) (by decide +kernel)
theorem mw_195 : Cond.fieldLink RX11 24 RX11 "opensWord" "[C" ∈ TB := tb_t 1062 (by decide +kernel) (by decide +kernel)
theorem mw_196 : Cond.fieldLink RX11 27 RX11 "tiresWord" "[C" ∈ TB := tb_t 1063 (by decide +kernel) (by decide +kernel)
theorem mw_197 : Cond.fieldLink RX11 30 RX11 "tearsWord" "[C" ∈ TB := tb_t 1064 (by decide +kernel) (by decide +kernel)
theorem mw_198 : Cond.fieldLink RX11 33 RX11 "catchWord" "[C" ∈ TB := tb_t 1065 (by decide +kernel) (by decide +kernel)
theorem mw_199 : Cond.fieldLink RX11 36 RX11 "whenWord" "[C" ∈ TB := tb_t 1066 (by decide +kernel) (by decide +kernel)
theorem mw_200 : Cond.fieldLink RX11 39 RX11 "lintWord" "[C" ∈ TB := tb_t 1067 (by decide +kernel) (by decide +kernel)
theorem mw_201 : Cond.fieldLink RX11 42 RX11 "orWord" "[C" ∈ TB := tb_t 1068 (by decide +kernel) (by decide +kernel)
theorem mw_202 : Cond.fieldLink RX11 45 RX11 "andWord" "[C" ∈ TB := tb_t 1069 (by decide +kernel) (by decide +kernel)
theorem mw_203 : Cond.fieldLink RX11 48 RX11 "notWord" "[C" ∈ TB := tb_t 1070 (by decide +kernel) (by decide +kernel)
theorem mw_204 : Cond.fieldLink RX11 51 RX11 "allWord" "[C" ∈ TB := tb_t 1071 (by decide +kernel) (by decide +kernel)
theorem mw_205 : Cond.fieldLink RX11 54 RX11 "isWord" "[C" ∈ TB := tb_t 1072 (by decide +kernel) (by decide +kernel)
theorem mw_206 : Cond.fieldLink RX11 57 RX11 "pressWord" "[C" ∈ TB := tb_t 1073 (by decide +kernel) (by decide +kernel)
theorem mw_207 : Cond.fieldLink RX11 60 RX11 "shakeWord" "[C" ∈ TB := tb_t 1074 (by decide +kernel) (by decide +kernel)
theorem mw_208 : Cond.fieldLink RX11 63 RX11 "loopsWord" "[C" ∈ TB := tb_t 1075 (by decide +kernel) (by decide +kernel)
theorem mw_209 : Cond.fieldLink RX11 66 RX11 "wornWord" "[C" ∈ TB := tb_t 1076 (by decide +kernel) (by decide +kernel)
theorem mw_210 : Cond.fieldLink RX11 69 RX11 "rowWord" "[C" ∈ TB := tb_t 1077 (by decide +kernel) (by decide +kernel)
theorem mw_211 : Cond.fieldLink RX11 72 RX11 "columnWord" "[C" ∈ TB := tb_t 1078 (by decide +kernel) (by decide +kernel)
theorem mw_212 : Cond.fieldLink RX11 75 RX11 "minWord" "[C" ∈ TB := tb_t 1079 (by decide +kernel) (by decide +kernel)
theorem mw_213 : Cond.fieldLink RX11 78 RX11 "maxWord" "[C" ∈ TB := tb_t 1080 (by decide +kernel) (by decide +kernel)
theorem mw_214 : Cond.fieldLink RX11 81 RX11 "kinds" "[I" ∈ TB := tb_t 1082 (by decide +kernel) (by decide +kernel)
theorem mw_215 : Cond.fieldLink RX11 84 RX11 "kindName" "[J" ∈ TB := tb_t 1083 (by decide +kernel) (by decide +kernel)
theorem mw_216 : Cond.fieldLink RX11 88 RX11 "stiff" "[I" ∈ TB := tb_t 1084 (by decide +kernel) (by decide +kernel)
theorem mw_217 : Cond.fieldLink RX11 91 RX11 "opens" "[I" ∈ TB := tb_t 1085 (by decide +kernel) (by decide +kernel)
theorem mw_218 : Cond.fieldLink RX11 94 RX11 "tires" "[I" ∈ TB := tb_t 1086 (by decide +kernel) (by decide +kernel)
theorem mw_219 : Cond.fieldLink RX11 97 RX11 "tears" "[I" ∈ TB := tb_t 1087 (by decide +kernel) (by decide +kernel)
theorem mw_220 : Cond.fieldLink RX11 100 RX11 "rules" "[I" ∈ TB := tb_t 1088 (by decide +kernel) (by decide +kernel)
theorem mw_221 : Cond.fieldLink RX11 103 RX11 "sort" "[I" ∈ TB := tb_t 1089 (by decide +kernel) (by decide +kernel)
theorem mw_222 : Cond.fieldLink RX11 106 RX11 "sumFrom" "[I" ∈ TB := tb_t 1090 (by decide +kernel) (by decide +kernel)
theorem mw_223 : Cond.fieldLink RX11 109 RX11 "sumEnd" "[I" ∈ TB := tb_t 1091 (by decide +kernel) (by decide +kernel)
theorem mw_224 : Cond.fieldLink RX11 112 RX11 "testEnd" "[I" ∈ TB := tb_t 1092 (by decide +kernel) (by decide +kernel)
theorem mw_225 : Cond.fieldLink RX11 115 RX11 "codes" "[I" ∈ TB := tb_t 1093 (by decide +kernel) (by decide +kernel)
theorem mw_226 : Cond.fieldLink RX11 118 RX11 "wait" "[I" ∈ TB := tb_t 1095 (by decide +kernel) (by decide +kernel)
theorem mw_227 : Cond.fieldLink RX11 121 RX11 "wide" "I" ∈ TB := tb_t 1100 (by decide +kernel) (by decide +kernel)
theorem mw_228 : Cond.fieldLink RX11 124 RX11 "high" "I" ∈ TB := tb_t 1101 (by decide +kernel) (by decide +kernel)
theorem mw_229 : Cond.fieldLink RX11 127 RX11 "sortOf" "[I" ∈ TB := tb_t 1103 (by decide +kernel) (by decide +kernel)
theorem mw_230 : Cond.fieldLink RX11 130 RX11 "one" "[I" ∈ TB := tb_t 1104 (by decide +kernel) (by decide +kernel)
theorem mw_231 : Cond.fieldLink RX11 133 RX11 "two" "[I" ∈ TB := tb_t 1105 (by decide +kernel) (by decide +kernel)
theorem mw_232 : Cond.fieldLink RX11 136 RX11 "three" "[I" ∈ TB := tb_t 1106 (by decide +kernel) (by decide +kernel)
theorem mw_233 : Cond.fieldLink RX11 139 RX11 "four" "[I" ∈ TB := tb_t 1107 (by decide +kernel) (by decide +kernel)
theorem mw_234 : Cond.fieldLink RX11 142 RX11 "voidAt" "[I" ∈ TB := tb_t 1108 (by decide +kernel) (by decide +kernel)
theorem mw_235 : Cond.fieldLink RX11 145 RX11 "as" "I" ∈ TB := tb_t 1109 (by decide +kernel) (by decide +kernel)
theorem mw_236 : Cond.fieldLink RX11 148 RX11 "gone" "I" ∈ TB := tb_t 1110 (by decide +kernel) (by decide +kernel)
theorem mw_237 : Cond.fieldLink RX11 151 RX11 "hookKind" "[I" ∈ TB := tb_t 1111 (by decide +kernel) (by decide +kernel)
theorem mw_238 : Cond.fieldLink RX11 154 RX11 "slack" "[I" ∈ TB := tb_t 1112 (by decide +kernel) (by decide +kernel)
theorem mw_239 : Cond.fieldLink RX11 157 RX11 "worn" "[I" ∈ TB := tb_t 1113 (by decide +kernel) (by decide +kernel)
theorem mw_240 : Cond.fieldLink RX11 160 RX11 "looped" "[I" ∈ TB := tb_t 1114 (by decide +kernel) (by decide +kernel)
theorem mw_241 : Cond.fieldLink RX11 163 RX11 "linted" "[I" ∈ TB := tb_t 1115 (by decide +kernel) (by decide +kernel)
theorem mw_242 : Cond.fieldLink RX11 166 RX11 "list" "[J" ∈ TB := tb_t 1117 (by decide +kernel) (by decide +kernel)
theorem mw_243 : Cond.fieldLink RX11 169 RX11 "pile" "[J" ∈ TB := tb_t 1118 (by decide +kernel) (by decide +kernel)
theorem mw_244 : Cond.fieldLink RX11 172 RX11 "tableMany" "I" ∈ TB := tb_t 1120 (by decide +kernel) (by decide +kernel)
theorem mw_245 : Cond.fieldLink RX11 175 RX11 "table" "[J" ∈ TB := tb_t 1121 (by decide +kernel) (by decide +kernel)
theorem mw_246 : Cond.arrayClass (newarray.typeOf .boolean) ∈ TB := tb_t 1368 (by decide +kernel) (by decide +kernel)
theorem mw_247 : Cond.fieldLink RX11 178 RX11 "isCaught" "[Z" ∈ TB := tb_t 1122 (by decide +kernel) (by decide +kernel)
theorem mw_248 : Cond.fieldLink RX11 182 RX11 "pulledCell" "[I" ∈ TB := tb_t 1124 (by decide +kernel) (by decide +kernel)
theorem mw_249 : Cond.fieldLink RX11 185 RX11 "pulledStiff" "[I" ∈ TB := tb_t 1125 (by decide +kernel) (by decide +kernel)
theorem mw_250 : Cond.fieldLink RX11 188 RX11 "pulledSlack" "[I" ∈ TB := tb_t 1126 (by decide +kernel) (by decide +kernel)
theorem mw_251 : Cond.fieldLink RX11 191 RX11 "pulledOpens" "[I" ∈ TB := tb_t 1127 (by decide +kernel) (by decide +kernel)
theorem mw_252 : Cond.fieldLink RX11 194 RX11 "order" "[I" ∈ TB := tb_t 1128 (by decide +kernel) (by decide +kernel)
theorem mw_253 : Cond.fieldLink RX11 197 RX11 "drawn" "[I" ∈ TB := tb_t 1130 (by decide +kernel) (by decide +kernel)
theorem mw_254 : Cond.fieldLink RX11 200 RX11 "drawnCell" "[I" ∈ TB := tb_t 1134 (by decide +kernel) (by decide +kernel)
theorem mw_255 : Cond.fieldLink RX11 203 RX11 "drawnStiff" "[I" ∈ TB := tb_t 1135 (by decide +kernel) (by decide +kernel)
theorem mw_256 : Cond.fieldLink RX11 206 RX11 "drawnSlack" "[I" ∈ TB := tb_t 1136 (by decide +kernel) (by decide +kernel)
theorem mw_257 : Cond.fieldLink RX11 209 RX11 "drawnOpens" "[I" ∈ TB := tb_t 1137 (by decide +kernel) (by decide +kernel)
theorem mw_258 : Cond.fieldLink RX11 212 RX11 "steps" "I" ∈ TB := tb_t 1138 (by decide +kernel) (by decide +kernel)
theorem mw_259 : Cond.fieldLink RX11 215 RX11 "stepCell" "[I" ∈ TB := tb_t 1139 (by decide +kernel) (by decide +kernel)
theorem mw_260 : Cond.fieldLink RX11 218 RX11 "stepLoad" "[J" ∈ TB := tb_t 1140 (by decide +kernel) (by decide +kernel)
theorem mw_261 : Cond.fieldLink RX11 221 RX11 "stepStiff" "[I" ∈ TB := tb_t 1141 (by decide +kernel) (by decide +kernel)
theorem mw_262 : Cond.fieldLink RX11 224 RX11 "stepLeft" "[I" ∈ TB := tb_t 1142 (by decide +kernel) (by decide +kernel)
theorem mw_263 : Cond.fieldLink RX11 227 RX11 "fronts" "I" ∈ TB := tb_t 1143 (by decide +kernel) (by decide +kernel)
theorem mw_264 : Cond.fieldLink RX11 230 RX11 "frontRow" "[I" ∈ TB := tb_t 1144 (by decide +kernel) (by decide +kernel)
theorem mw_265 : Cond.fieldLink RX11 233 RX11 "frontForce" "[I" ∈ TB := tb_t 1145 (by decide +kernel) (by decide +kernel)
theorem mw_266 : Cond.fieldLink RX11 236 RX11 "frontGone" "[I" ∈ TB := tb_t 1146 (by decide +kernel) (by decide +kernel)
theorem mw_267 : Cond.fieldLink RX11 239 RX11 "patchPlace" "[I" ∈ TB := tb_t 1148 (by decide +kernel) (by decide +kernel)
theorem mw_268 : Cond.fieldLink RX11 242 RX11 "patchBears" "[I" ∈ TB := tb_t 1149 (by decide +kernel) (by decide +kernel)
theorem mw_269 : Cond.fieldLink RX11 245 RX11 "patchCost" "[I" ∈ TB := tb_t 1150 (by decide +kernel) (by decide +kernel)
theorem mw_270 : Cond.fieldLink RX11 248 RX11 "forcePlace" "[I" ∈ TB := tb_t 1152 (by decide +kernel) (by decide +kernel)
theorem mw_271 : Cond.fieldLink RX11 251 RX11 "forceOf" "[I" ∈ TB := tb_t 1153 (by decide +kernel) (by decide +kernel)
theorem mw_272 : Cond.fieldLink RX11 254 RX11 "chosenSet" "I" ∈ TB := tb_t 1154 (by decide +kernel) (by decide +kernel)
theorem mw_273 : Cond.fieldLink RX10 101 RX9 "size" "I" ∈ TB := tb_t 36 (by decide +kernel) (by decide +kernel)
theorem dn_274 : DescN yX9_addFour 1 := by decide +kernel
theorem mw_275 : Cond.methodLink RX10 104 yX9_addFour ∈ TB := tb_t 486 (by decide +kernel) (by decide +kernel)
theorem mw_276 : Cond.instanceMethod yX9_addFour ∈ TB := tb_t 487 (by decide +kernel) (by decide +kernel)
theorem mw_277 : Cond.selects RX9 yX9_addFour yX9_addFour ∈ TB := tb_t 488 (by decide +kernel) (by decide +kernel)
theorem mw_278 : Cond.code yX9_addFour cX9_addFour 3 none ∈ TB := tb_t 489 (by decide +kernel) (by decide +kernel)
theorem dn_279 : DescN yX10_within 3 := by decide +kernel
theorem mw_280 : Cond.methodLink RX10 108 yX10_within ∈ TB := tb_t 498 (by decide +kernel) (by decide +kernel)
theorem mw_281 : Cond.static yX10_within ∈ TB := tb_t 499 (by decide +kernel) (by decide +kernel)
theorem mw_282 : Cond.initialized RX10 ∈ TB := tb_t 1 (by decide +kernel) (by decide +kernel)
theorem mw_283 : Cond.code yX10_within cX10_within 3 (some .boolean) ∈ TB := tb_t 500 (by decide +kernel) (by decide +kernel)
theorem dn_284 : DescN yX8_empty 0 := by decide +kernel
theorem mw_285 : Cond.methodLink RX7 26 yX8_empty ∈ TB := tb_t 505 (by decide +kernel) (by decide +kernel)
theorem mw_286 : Cond.instanceMethod yX8_empty ∈ TB := tb_t 506 (by decide +kernel) (by decide +kernel)
theorem mw_287 : Cond.selects RX8 yX8_empty yX8_empty ∈ TB := tb_t 507 (by decide +kernel) (by decide +kernel)
theorem mw_288 : Cond.code yX8_empty cX8_empty 1 none ∈ TB := tb_t 508 (by decide +kernel) (by decide +kernel)
theorem mw_289 : Cond.fieldLink RX7 31 RX7 "type" "I" ∈ TB := tb_t 394 (by decide +kernel) (by decide +kernel)
theorem mw_290 : Cond.fieldLink RX7 34 RX7 "behind" "I" ∈ TB := tb_t 396 (by decide +kernel) (by decide +kernel)
theorem mw_291 : Cond.fieldLink RX7 40 RX7 "start" "I" ∈ TB := tb_t 395 (by decide +kernel) (by decide +kernel)
theorem mw_292 : Cond.fieldLink RX7 166 RX9 "size" "I" ∈ TB := tb_t 37 (by decide +kernel) (by decide +kernel)
theorem dn_293 : DescN yX9_byteAt 1 := by decide +kernel
theorem mw_294 : Cond.methodLink RX7 161 yX9_byteAt ∈ TB := tb_t 513 (by decide +kernel) (by decide +kernel)
theorem mw_295 : Cond.instanceMethod yX9_byteAt ∈ TB := tb_t 514 (by decide +kernel) (by decide +kernel)
theorem mw_296 : Cond.selects RX9 yX9_byteAt yX9_byteAt ∈ TB := tb_t 515 (by decide +kernel) (by decide +kernel)
theorem mw_297 : Cond.code yX9_byteAt cX9_byteAt 2 (some .int) ∈ TB := tb_t 516 (by decide +kernel) (by decide +kernel)
theorem dn_298 : DescN yX7_next 0 := by decide +kernel
theorem mw_299 : Cond.methodLink RX7 37 yX7_next ∈ TB := tb_t 509 (by decide +kernel) (by decide +kernel)
theorem mw_300 : Cond.instanceMethod yX7_next ∈ TB := tb_t 511 (by decide +kernel) (by decide +kernel)
theorem mw_301 : Cond.selects RX7 yX7_next yX7_next ∈ TB := tb_p 0 (by decide +kernel) (by decide +kernel)
theorem mw_302 : Cond.code yX7_next cX7_next 4 none ∈ TB := tb_t 512 (by decide +kernel) (by decide +kernel)
theorem dn_303 : DescN yX7_read 1 := by decide +kernel
theorem mw_304 : Cond.methodLink RX10 112 yX7_read ∈ TB := tb_t 501 (by decide +kernel) (by decide +kernel)
theorem mw_305 : Cond.instanceMethod yX7_read ∈ TB := tb_t 502 (by decide +kernel) (by decide +kernel)
theorem mw_306 : Cond.selects RX7 yX7_read yX7_read ∈ TB := tb_t 503 (by decide +kernel) (by decide +kernel)
theorem mw_307 : Cond.code yX7_read cX7_read 3 none ∈ TB := tb_t 504 (by decide +kernel) (by decide +kernel)
theorem mw_308 : Cond.fieldLink RX10 116 RX7 "fault" "I" ∈ TB := tb_t 399 (by decide +kernel) (by decide +kernel)
theorem mw_309 : Cond.fieldLink RX10 117 RX7 "place" "I" ∈ TB := tb_t 401 (by decide +kernel) (by decide +kernel)
theorem mw_310 : Cond.fieldLink RX10 126 RX0 "count" "I" ∈ TB := tb_t 64 (by decide +kernel) (by decide +kernel)
theorem mw_311 : Cond.fieldLink RX10 129 RX3 "made" "Z" ∈ TB := tb_t 224 (by decide +kernel) (by decide +kernel)
theorem mw_312 : Cond.fieldLink RX10 133 RX1 "made" "Z" ∈ TB := tb_t 113 (by decide +kernel) (by decide +kernel)
theorem mw_313 : Cond.fieldLink RX10 134 RX6 "made" "Z" ∈ TB := tb_t 149 (by decide +kernel) (by decide +kernel)
theorem mw_314 : Cond.fieldLink RX10 135 RX5 "made" "Z" ∈ TB := tb_t 256 (by decide +kernel) (by decide +kernel)
theorem dn_315 : DescN yX10_beginBoard 2 := by decide +kernel
theorem mw_316 : Cond.methodLink RX10 120 yX10_beginBoard ∈ TB := tb_t 674 (by decide +kernel) (by decide +kernel)
theorem mw_317 : Cond.instanceMethod yX10_beginBoard ∈ TB := tb_t 676 (by decide +kernel) (by decide +kernel)
theorem mw_318 : Cond.selects RX10 yX10_beginBoard yX10_beginBoard ∈ TB := tb_p 22 (by decide +kernel) (by decide +kernel)
theorem mw_319 : Cond.code yX10_beginBoard cX10_beginBoard 3 none ∈ TB := tb_t 677 (by decide +kernel) (by decide +kernel)
theorem mw_320 : Cond.fieldLink RX10 123 RX8 "statements" "I" ∈ TB := tb_t 355 (by decide +kernel) (by decide +kernel)
theorem mw_321 : Cond.fieldLink RX10 136 RX8 "kinds" "I" ∈ TB := tb_t 351 (by decide +kernel) (by decide +kernel)
theorem dn_322 : DescN yX10_isCell 1 := by decide +kernel
theorem mw_323 : Cond.methodLink RX10 143 yX10_isCell ∈ TB := tb_t 694 (by decide +kernel) (by decide +kernel)
theorem mw_324 : Cond.instanceMethod yX10_isCell ∈ TB := tb_t 696 (by decide +kernel) (by decide +kernel)
theorem mw_325 : Cond.selects RX10 yX10_isCell yX10_isCell ∈ TB := tb_p 23 (by decide +kernel) (by decide +kernel)
theorem mw_326 : Cond.code yX10_isCell cX10_isCell 2 (some .boolean) ∈ TB := tb_t 697 (by decide +kernel) (by decide +kernel)
theorem dn_327 : DescN yX0_add 5 := by decide +kernel
theorem mw_328 : Cond.methodLink RX10 147 yX0_add ∈ TB := tb_t 698 (by decide +kernel) (by decide +kernel)
theorem mw_329 : Cond.instanceMethod yX0_add ∈ TB := tb_t 699 (by decide +kernel) (by decide +kernel)
theorem mw_330 : Cond.selects RX0 yX0_add yX0_add ∈ TB := tb_t 700 (by decide +kernel) (by decide +kernel)
theorem mw_331 : Cond.code yX0_add cX0_add 6 (some .int) ∈ TB := tb_t 701 (by decide +kernel) (by decide +kernel)
theorem dn_332 : DescN yX10_canPress 2 := by decide +kernel
theorem mw_333 : Cond.methodLink RX10 151 yX10_canPress ∈ TB := tb_t 710 (by decide +kernel) (by decide +kernel)
theorem mw_334 : Cond.static yX10_canPress ∈ TB := tb_t 711 (by decide +kernel) (by decide +kernel)
theorem mw_335 : Cond.code yX10_canPress cX10_canPress 2 (some .boolean) ∈ TB := tb_t 712 (by decide +kernel) (by decide +kernel)
theorem dn_336 : DescN yX0_canVoid 1 := by decide +kernel
theorem mw_337 : Cond.methodLink RX10 155 yX0_canVoid ∈ TB := tb_t 721 (by decide +kernel) (by decide +kernel)
theorem mw_338 : Cond.instanceMethod yX0_canVoid ∈ TB := tb_t 722 (by decide +kernel) (by decide +kernel)
theorem mw_339 : Cond.selects RX0 yX0_canVoid yX0_canVoid ∈ TB := tb_t 723 (by decide +kernel) (by decide +kernel)
theorem mw_340 : Cond.code yX0_canVoid cX0_canVoid 2 (some .boolean) ∈ TB := tb_t 724 (by decide +kernel) (by decide +kernel)
theorem dn_341 : DescN yX10_toldAct 0 := by decide +kernel
theorem mw_342 : Cond.methodLink RX10 301 yX10_toldAct ∈ TB := tb_t 742 (by decide +kernel) (by decide +kernel)
theorem mw_343 : Cond.instanceMethod yX10_toldAct ∈ TB := tb_t 744 (by decide +kernel) (by decide +kernel)
theorem mw_344 : Cond.selects RX10 yX10_toldAct yX10_toldAct ∈ TB := tb_p 25 (by decide +kernel) (by decide +kernel)
theorem mw_345 : Cond.code yX10_toldAct cX10_toldAct 1 (some .int) ∈ TB := tb_t 745 (by decide +kernel) (by decide +kernel)
theorem mw_346 : Cond.fieldLink RX10 308 RX2 "at" "I" ∈ TB := tb_t 188 (by decide +kernel) (by decide +kernel)
theorem dn_347 : DescN yX0_goesOn 2 := by decide +kernel
theorem mw_348 : Cond.methodLink RX10 311 yX0_goesOn ∈ TB := tb_t 746 (by decide +kernel) (by decide +kernel)
theorem mw_349 : Cond.instanceMethod yX0_goesOn ∈ TB := tb_t 747 (by decide +kernel) (by decide +kernel)
theorem mw_350 : Cond.selects RX0 yX0_goesOn yX0_goesOn ∈ TB := tb_t 748 (by decide +kernel) (by decide +kernel)
theorem mw_351 : Cond.code yX0_goesOn cX0_goesOn 4 (some .boolean) ∈ TB := tb_t 749 (by decide +kernel) (by decide +kernel)
theorem dn_352 : DescN yX10_broughtUp 0 := by decide +kernel
theorem mw_353 : Cond.methodLink RX10 162 yX10_broughtUp ∈ TB := tb_t 738 (by decide +kernel) (by decide +kernel)
theorem mw_354 : Cond.instanceMethod yX10_broughtUp ∈ TB := tb_t 740 (by decide +kernel) (by decide +kernel)
theorem mw_355 : Cond.selects RX10 yX10_broughtUp yX10_broughtUp ∈ TB := tb_p 24 (by decide +kernel) (by decide +kernel)
theorem mw_356 : Cond.code yX10_broughtUp cX10_broughtUp 6 (some (.object "HookBoard$Known")) ∈ TB := tb_t 741 (by decide +kernel) (by decide +kernel)
theorem dn_357 : DescN yX2_hasHook 1 := by decide +kernel
theorem mw_358 : Cond.methodLink RX10 166 yX2_hasHook ∈ TB := tb_t 854 (by decide +kernel) (by decide +kernel)
theorem mw_359 : Cond.instanceMethod yX2_hasHook ∈ TB := tb_t 764 (by decide +kernel) (by decide +kernel)
theorem mw_360 : Cond.selects RX2 yX2_hasHook yX2_hasHook ∈ TB := tb_t 765 (by decide +kernel) (by decide +kernel)
theorem mw_361 : Cond.code yX2_hasHook cX2_hasHook 2 (some .boolean) ∈ TB := tb_t 766 (by decide +kernel) (by decide +kernel)
theorem mw_362 : Cond.fieldLink RX10 169 RX2 "kindOf" "[I" ∈ TB := tb_t 167 (by decide +kernel) (by decide +kernel)
theorem mw_363 : Cond.fieldLink RX10 183 RX2 "heap" "[I" ∈ TB := tb_t 174 (by decide +kernel) (by decide +kernel)
theorem mw_364 : Cond.fieldLink RX10 186 RX2 "fluff" "[I" ∈ TB := tb_t 176 (by decide +kernel) (by decide +kernel)
theorem mw_365 : Cond.fieldLink RX10 189 RX2 "greats" "I" ∈ TB := tb_t 182 (by decide +kernel) (by decide +kernel)
theorem mw_366 : Cond.constantLong RX10 195 (-1) ∈ TB := tb_t 864 (by decide +kernel) (by decide +kernel)
theorem mw_367 : Cond.constantLong RX3 23 1073741824 ∈ TB := tb_t 882 (by decide +kernel) (by decide +kernel)
theorem dn_368 : DescN yX3_begin 0 := by decide +kernel
theorem mw_369 : Cond.methodLink RX10 201 yX3_begin ∈ TB := tb_t 878 (by decide +kernel) (by decide +kernel)
theorem mw_370 : Cond.instanceMethod yX3_begin ∈ TB := tb_t 879 (by decide +kernel) (by decide +kernel)
theorem mw_371 : Cond.selects RX3 yX3_begin yX3_begin ∈ TB := tb_t 880 (by decide +kernel) (by decide +kernel)
theorem mw_372 : Cond.code yX3_begin cX3_begin 1 none ∈ TB := tb_t 881 (by decide +kernel) (by decide +kernel)
theorem mw_373 : Cond.fieldLink RX10 206 RX3 "hooks" "I" ∈ TB := tb_t 222 (by decide +kernel) (by decide +kernel)
theorem mw_374 : Cond.fieldLink RX1 38 RX2 "cells" "I" ∈ TB := tb_t 184 (by decide +kernel) (by decide +kernel)
theorem mw_375 : Cond.fieldLink RX1 41 RX2 "wide" "I" ∈ TB := tb_t 186 (by decide +kernel) (by decide +kernel)
theorem mw_376 : Cond.methodLink RX1 42 yX2_hasHook ∈ TB := tb_t 779 (by decide +kernel) (by decide +kernel)
theorem dn_377 : DescN yX1_take 5 := by decide +kernel
theorem mw_378 : Cond.methodLink RX10 216 yX1_take ∈ TB := tb_t 908 (by decide +kernel) (by decide +kernel)
theorem mw_379 : Cond.instanceMethod yX1_take ∈ TB := tb_t 776 (by decide +kernel) (by decide +kernel)
theorem mw_380 : Cond.selects RX1 yX1_take yX1_take ∈ TB := tb_t 777 (by decide +kernel) (by decide +kernel)
theorem mw_381 : Cond.code yX1_take cX1_take 11 (some .long) ∈ TB := tb_t 778 (by decide +kernel) (by decide +kernel)
theorem mw_382 : Cond.fieldLink RX10 220 RX1 "count" "I" ∈ TB := tb_t 111 (by decide +kernel) (by decide +kernel)
theorem dn_383 : DescN yX10_isStep 1 := by decide +kernel
theorem mw_384 : Cond.methodLink RX10 231 yX10_isStep ∈ TB := tb_t 922 (by decide +kernel) (by decide +kernel)
theorem mw_385 : Cond.instanceMethod yX10_isStep ∈ TB := tb_t 924 (by decide +kernel) (by decide +kernel)
theorem mw_386 : Cond.selects RX10 yX10_isStep yX10_isStep ∈ TB := tb_p 33 (by decide +kernel) (by decide +kernel)
theorem mw_387 : Cond.code yX10_isStep cX10_isStep 2 (some .boolean) ∈ TB := tb_t 925 (by decide +kernel) (by decide +kernel)
theorem dn_388 : DescN yX4_addPatch 3 := by decide +kernel
theorem mw_389 : Cond.methodLink RX10 272 yX4_addPatch ∈ TB := tb_t 977 (by decide +kernel) (by decide +kernel)
theorem mw_390 : Cond.instanceMethod yX4_addPatch ∈ TB := tb_t 978 (by decide +kernel) (by decide +kernel)
theorem mw_391 : Cond.selects RX4 yX4_addPatch yX4_addPatch ∈ TB := tb_t 979 (by decide +kernel) (by decide +kernel)
theorem mw_392 : Cond.code yX4_addPatch cX4_addPatch 4 (some .int) ∈ TB := tb_t 980 (by decide +kernel) (by decide +kernel)
theorem dn_393 : DescN yX4_addPull 2 := by decide +kernel
theorem mw_394 : Cond.methodLink RX10 276 yX4_addPull ∈ TB := tb_t 985 (by decide +kernel) (by decide +kernel)
theorem mw_395 : Cond.instanceMethod yX4_addPull ∈ TB := tb_t 986 (by decide +kernel) (by decide +kernel)
theorem mw_396 : Cond.selects RX4 yX4_addPull yX4_addPull ∈ TB := tb_t 987 (by decide +kernel) (by decide +kernel)
theorem mw_397 : Cond.code yX4_addPull cX4_addPull 3 (some .int) ∈ TB := tb_t 988 (by decide +kernel) (by decide +kernel)
theorem mw_398 : Cond.fieldLink RX10 279 RX4 "count" "I" ∈ TB := tb_t 286 (by decide +kernel) (by decide +kernel)
theorem mw_399 : Cond.fieldLink RX10 280 RX4 "pulls" "I" ∈ TB := tb_t 288 (by decide +kernel) (by decide +kernel)
theorem mw_400 : Cond.fieldLink RX4 40 RX4 "reach" "I" ∈ TB := tb_t 293 (by decide +kernel) (by decide +kernel)
theorem mw_401 : Cond.fieldLink RX4 43 RX4 "open" "I" ∈ TB := tb_t 294 (by decide +kernel) (by decide +kernel)
theorem mw_402 : Cond.constant RX4 46 1000000 ∈ TB := tb_t 1001 (by decide +kernel) (by decide +kernel)
theorem mw_403 : Cond.fieldLink RX4 47 RX4 "bestCost" "I" ∈ TB := tb_t 295 (by decide +kernel) (by decide +kernel)
theorem mw_404 : Cond.fieldLink RX4 50 RX4 "bestSize" "I" ∈ TB := tb_t 296 (by decide +kernel) (by decide +kernel)
theorem mw_405 : Cond.fieldLink RX4 53 RX4 "best" "I" ∈ TB := tb_t 297 (by decide +kernel) (by decide +kernel)
theorem dn_406 : DescN yX4_holdsAll 1 := by decide +kernel
theorem mw_407 : Cond.methodLink RX4 56 yX4_holdsAll ∈ TB := tb_t 1002 (by decide +kernel) (by decide +kernel)
theorem mw_408 : Cond.instanceMethod yX4_holdsAll ∈ TB := tb_t 1004 (by decide +kernel) (by decide +kernel)
theorem mw_409 : Cond.selects RX4 yX4_holdsAll yX4_holdsAll ∈ TB := tb_p 35 (by decide +kernel) (by decide +kernel)
theorem mw_410 : Cond.code yX4_holdsAll cX4_holdsAll 3 (some .boolean) ∈ TB := tb_t 1005 (by decide +kernel) (by decide +kernel)
theorem dn_411 : DescN yX4_search 5 := by decide +kernel
theorem mw_412 : Cond.methodLink RX4 60 yX4_search ∈ TB := tb_t 1014 (by decide +kernel) (by decide +kernel)
theorem mw_413 : Cond.instanceMethod yX4_search ∈ TB := tb_t 1016 (by decide +kernel) (by decide +kernel)
theorem mw_414 : Cond.selects RX4 yX4_search yX4_search ∈ TB := tb_p 37 (by decide +kernel) (by decide +kernel)
theorem mw_415 : Cond.code yX4_search cX4_search 7 none ∈ TB := tb_t 1017 (by decide +kernel) (by decide +kernel)
theorem dn_416 : DescN yX4_pick 2 := by decide +kernel
theorem mw_417 : Cond.methodLink RX10 283 yX4_pick ∈ TB := tb_t 997 (by decide +kernel) (by decide +kernel)
theorem mw_418 : Cond.instanceMethod yX4_pick ∈ TB := tb_t 998 (by decide +kernel) (by decide +kernel)
theorem mw_419 : Cond.selects RX4 yX4_pick yX4_pick ∈ TB := tb_t 999 (by decide +kernel) (by decide +kernel)
theorem mw_420 : Cond.code yX4_pick cX4_pick 4 (some .int) ∈ TB := tb_t 1000 (by decide +kernel) (by decide +kernel)
theorem mw_421 : Cond.fieldLink RX10 286 RX4 "pickedOf" "I" ∈ TB := tb_t 292 (by decide +kernel) (by decide +kernel)
theorem mw_422 : Cond.methodLink RX2 92 yX2_hasHook ∈ TB := tb_t 763 (by decide +kernel) (by decide +kernel)
theorem dn_423 : DescN yX2_countHooks 0 := by decide +kernel
theorem mw_424 : Cond.methodLink RX10 305 yX2_countHooks ∈ TB := tb_t 1041 (by decide +kernel) (by decide +kernel)
theorem mw_425 : Cond.instanceMethod yX2_countHooks ∈ TB := tb_t 1042 (by decide +kernel) (by decide +kernel)
theorem mw_426 : Cond.selects RX2 yX2_countHooks yX2_countHooks ∈ TB := tb_t 1043 (by decide +kernel) (by decide +kernel)
theorem mw_427 : Cond.code yX2_countHooks cX2_countHooks 3 (some .int) ∈ TB := tb_t 1044 (by decide +kernel) (by decide +kernel)
theorem mw_428 : Cond.fieldLink RX11 257 RX11 "taped" "I" ∈ TB := tb_t 1052 (by decide +kernel) (by decide +kernel)
theorem mw_429 : Cond.constantLong RX11 401 8 ∈ TB := tb_t 1381 (by decide +kernel) (by decide +kernel)
theorem dn_430 : DescN yX11_isIn 3 := by decide +kernel
theorem mw_431 : Cond.methodLink RX11 300 yX11_isIn ∈ TB := tb_t 1382 (by decide +kernel) (by decide +kernel)
theorem mw_432 : Cond.static yX11_isIn ∈ TB := tb_t 1383 (by decide +kernel) (by decide +kernel)
theorem mw_433 : Cond.initialized RX11 ∈ TB := tb_t 14 (by decide +kernel) (by decide +kernel)
theorem mw_434 : Cond.code yX11_isIn cX11_isIn 6 (some .boolean) ∈ TB := tb_t 1384 (by decide +kernel) (by decide +kernel)
theorem mw_435 : Cond.fieldLink RX11 269 RX11 "end" "I" ∈ TB := tb_t 1054 (by decide +kernel) (by decide +kernel)
theorem mw_436 : Cond.fieldLink RX11 266 RX11 "at" "I" ∈ TB := tb_t 1053 (by decide +kernel) (by decide +kernel)
theorem mw_437 : Cond.fieldLink RX11 280 RX11 "ended" "I" ∈ TB := tb_t 1055 (by decide +kernel) (by decide +kernel)
theorem mw_438 : Cond.fieldLink RX11 260 RX11 "bad" "I" ∈ TB := tb_t 1056 (by decide +kernel) (by decide +kernel)
theorem mw_439 : Cond.fieldLink RX11 263 RX11 "badPlace" "I" ∈ TB := tb_t 1057 (by decide +kernel) (by decide +kernel)
theorem mw_440 : Cond.fieldLink RX11 323 RX11 "coded" "I" ∈ TB := tb_t 1094 (by decide +kernel) (by decide +kernel)
theorem mw_441 : Cond.fieldLink RX11 392 RX11 "statements" "I" ∈ TB := tb_t 1098 (by decide +kernel) (by decide +kernel)
theorem dn_442 : DescN yX11_look 0 := by decide +kernel
theorem mw_443 : Cond.methodLink RX11 272 yX11_look ∈ TB := tb_t 1385 (by decide +kernel) (by decide +kernel)
theorem mw_444 : Cond.instanceMethod yX11_look ∈ TB := tb_t 1387 (by decide +kernel) (by decide +kernel)
theorem mw_445 : Cond.selects RX11 yX11_look yX11_look ∈ TB := tb_p 38 (by decide +kernel) (by decide +kernel)
theorem mw_446 : Cond.code yX11_look cX11_look 1 (some .int) ∈ TB := tb_t 1388 (by decide +kernel) (by decide +kernel)
theorem mw_447 : Cond.fieldLink RX11 406 RX11 "fault" "I" ∈ TB := tb_t 1058 (by decide +kernel) (by decide +kernel)
theorem dn_448 : DescN yX11_stands 0 := by decide +kernel
theorem mw_449 : Cond.methodLink RX11 409 yX11_stands ∈ TB := tb_t 1509 (by decide +kernel) (by decide +kernel)
theorem mw_450 : Cond.instanceMethod yX11_stands ∈ TB := tb_t 1511 (by decide +kernel) (by decide +kernel)
theorem mw_451 : Cond.selects RX11 yX11_stands yX11_stands ∈ TB := tb_p 67 (by decide +kernel) (by decide +kernel)
theorem mw_452 : Cond.code yX11_stands cX11_stands 2 none ∈ TB := tb_t 1512 (by decide +kernel) (by decide +kernel)
theorem mw_453 : Cond.fieldLink RX11 412 RX11 "acts" "I" ∈ TB := tb_t 1102 (by decide +kernel) (by decide +kernel)
theorem mw_454 : Cond.fieldLink RX11 415 RX11 "hasDraw" "Z" ∈ TB := tb_t 1129 (by decide +kernel) (by decide +kernel)
theorem dn_455 : DescN yX11_cells 0 := by decide +kernel
theorem mw_456 : Cond.methodLink RX11 419 yX11_cells ∈ TB := tb_t 1529 (by decide +kernel) (by decide +kernel)
theorem mw_457 : Cond.instanceMethod yX11_cells ∈ TB := tb_t 1531 (by decide +kernel) (by decide +kernel)
theorem mw_458 : Cond.selects RX11 yX11_cells yX11_cells ∈ TB := tb_p 69 (by decide +kernel) (by decide +kernel)
theorem mw_459 : Cond.code yX11_cells cX11_cells 1 (some .int) ∈ TB := tb_t 1532 (by decide +kernel) (by decide +kernel)
theorem dn_460 : DescN yX11_isCell 1 := by decide +kernel
theorem mw_461 : Cond.methodLink RX11 422 yX11_isCell ∈ TB := tb_t 1525 (by decide +kernel) (by decide +kernel)
theorem mw_462 : Cond.instanceMethod yX11_isCell ∈ TB := tb_t 1527 (by decide +kernel) (by decide +kernel)
theorem mw_463 : Cond.selects RX11 yX11_isCell yX11_isCell ∈ TB := tb_p 68 (by decide +kernel) (by decide +kernel)
theorem mw_464 : Cond.code yX11_isCell cX11_isCell 2 (some .boolean) ∈ TB := tb_t 1528 (by decide +kernel) (by decide +kernel)
theorem mw_465 : Cond.constantLong RX11 431 9 ∈ TB := tb_t 1542 (by decide +kernel) (by decide +kernel)
theorem dn_466 : DescN yX11_act 5 := by decide +kernel
theorem mw_467 : Cond.methodLink RX11 427 yX11_act ∈ TB := tb_t 1534 (by decide +kernel) (by decide +kernel)
theorem mw_468 : Cond.instanceMethod yX11_act ∈ TB := tb_t 1536 (by decide +kernel) (by decide +kernel)
theorem mw_469 : Cond.selects RX11 yX11_act yX11_act ∈ TB := tb_p 70 (by decide +kernel) (by decide +kernel)
theorem mw_470 : Cond.code yX11_act cX11_act 6 (some .int) ∈ TB := tb_t 1537 (by decide +kernel) (by decide +kernel)
theorem mw_471 : Cond.constantLong RX11 433 10 ∈ TB := tb_t 1547 (by decide +kernel) (by decide +kernel)
theorem mw_472 : Cond.constantLong RX11 425 99 ∈ TB := tb_t 1533 (by decide +kernel) (by decide +kernel)
theorem dn_473 : DescN yX11_areHands 2 := by decide +kernel
theorem mw_474 : Cond.methodLink RX11 435 yX11_areHands ∈ TB := tb_t 1548 (by decide +kernel) (by decide +kernel)
theorem mw_475 : Cond.static yX11_areHands ∈ TB := tb_t 1549 (by decide +kernel) (by decide +kernel)
theorem mw_476 : Cond.code yX11_areHands cX11_areHands 2 (some .boolean) ∈ TB := tb_t 1550 (by decide +kernel) (by decide +kernel)
theorem mw_477 : Cond.constantLong RX11 439 (-1) ∈ TB := tb_t 1563 (by decide +kernel) (by decide +kernel)
theorem dn_478 : DescN yX11_now 0 := by decide +kernel
theorem mw_479 : Cond.methodLink RX11 441 yX11_now ∈ TB := tb_t 1572 (by decide +kernel) (by decide +kernel)
theorem mw_480 : Cond.instanceMethod yX11_now ∈ TB := tb_t 1574 (by decide +kernel) (by decide +kernel)
theorem mw_481 : Cond.selects RX11 yX11_now yX11_now ∈ TB := tb_p 72 (by decide +kernel) (by decide +kernel)
theorem mw_482 : Cond.code yX11_now cX11_now 1 (some .int) ∈ TB := tb_t 1575 (by decide +kernel) (by decide +kernel)
theorem mw_483 : Cond.fieldLink RX11 447 RX11 "listMany" "I" ∈ TB := tb_t 1116 (by decide +kernel) (by decide +kernel)
theorem dn_484 : DescN yX11_goes 0 := by decide +kernel
theorem mw_485 : Cond.methodLink RX11 472 yX11_goes ∈ TB := tb_t 1568 (by decide +kernel) (by decide +kernel)
theorem mw_486 : Cond.instanceMethod yX11_goes ∈ TB := tb_t 1570 (by decide +kernel) (by decide +kernel)
theorem mw_487 : Cond.selects RX11 yX11_goes yX11_goes ∈ TB := tb_p 71 (by decide +kernel) (by decide +kernel)
theorem mw_488 : Cond.code yX11_goes cX11_goes 4 none ∈ TB := tb_t 1571 (by decide +kernel) (by decide +kernel)
theorem mw_489 : Cond.constantLong RX11 511 1073741824 ∈ TB := tb_t 1673 (by decide +kernel) (by decide +kernel)
theorem dn_490 : DescN yX11_draws 3 := by decide +kernel
theorem mw_491 : Cond.methodLink RX11 457 yX11_draws ∈ TB := tb_t 1588 (by decide +kernel) (by decide +kernel)
theorem mw_492 : Cond.instanceMethod yX11_draws ∈ TB := tb_t 1590 (by decide +kernel) (by decide +kernel)
theorem mw_493 : Cond.selects RX11 yX11_draws yX11_draws ∈ TB := tb_p 76 (by decide +kernel) (by decide +kernel)
theorem mw_494 : Cond.code yX11_draws cX11_draws 8 (some .long) ∈ TB := tb_t 1591 (by decide +kernel) (by decide +kernel)
theorem mw_495 : Cond.fieldLink RX11 525 RX11 "pulled" "I" ∈ TB := tb_t 1123 (by decide +kernel) (by decide +kernel)
theorem dn_496 : DescN yX11_takes_ 0 := by decide +kernel
theorem mw_497 : Cond.methodLink RX11 460 yX11_takes_ ∈ TB := tb_t 1625 (by decide +kernel) (by decide +kernel)
theorem mw_498 : Cond.instanceMethod yX11_takes_ ∈ TB := tb_t 1627 (by decide +kernel) (by decide +kernel)
theorem mw_499 : Cond.selects RX11 yX11_takes_ yX11_takes_ ∈ TB := tb_p 82 (by decide +kernel) (by decide +kernel)
theorem mw_500 : Cond.code yX11_takes_ cX11_takes_ 2 none ∈ TB := tb_t 1628 (by decide +kernel) (by decide +kernel)
theorem mw_501 : Cond.fieldLink RX11 537 RX11 "drawnWide" "I" ∈ TB := tb_t 1132 (by decide +kernel) (by decide +kernel)
theorem mw_502 : Cond.fieldLink RX11 540 RX11 "drawnHigh" "I" ∈ TB := tb_t 1133 (by decide +kernel) (by decide +kernel)
theorem mw_503 : Cond.fieldLink RX11 543 RX11 "drawnMany" "I" ∈ TB := tb_t 1131 (by decide +kernel) (by decide +kernel)
theorem mw_504 : Cond.constantLong RX11 552 999 ∈ TB := tb_t 1733 (by decide +kernel) (by decide +kernel)
theorem mw_505 : Cond.fieldLink RX11 554 RX11 "patches" "I" ∈ TB := tb_t 1147 (by decide +kernel) (by decide +kernel)
theorem mw_506 : Cond.constantLong RX11 557 9999 ∈ TB := tb_t 1738 (by decide +kernel) (by decide +kernel)
theorem mw_507 : Cond.fieldLink RX11 559 RX11 "forces" "I" ∈ TB := tb_t 1151 (by decide +kernel) (by decide +kernel)
theorem mw_508 : Cond.constantLong RX11 562 20000 ∈ TB := tb_t 1747 (by decide +kernel) (by decide +kernel)
theorem mw_509 : Cond.fieldLink RX11 574 RX11 "chosenOf" "I" ∈ TB := tb_t 1155 (by decide +kernel) (by decide +kernel)
