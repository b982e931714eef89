theorem tb1 {w : Cond} (i : Nat) (h : tables_1_1[i]? = some w) (g : goodWord w = true) : w ∈ TB := List.mem_filter.mpr ⟨List.mem_append_right _ (show w ∈ tables_1 from List.mem_append_left _ (List.mem_of_getElem? h)), g⟩
theorem tb2 {w : Cond} (i : Nat) (h : tables_1_2[i]? = some w) (g : goodWord w = true) : w ∈ TB := List.mem_filter.mpr ⟨List.mem_append_right _ (show w ∈ tables_1 from List.mem_append_right _ (List.mem_append_left _ (List.mem_of_getElem? h))), g⟩
theorem tb3 {w : Cond} (i : Nat) (h : tables_1_3[i]? = some w) (g : goodWord w = true) : w ∈ TB := List.mem_filter.mpr ⟨List.mem_append_right _ (show w ∈ tables_1 from List.mem_append_right _ (List.mem_append_right _ (List.mem_append_left _ (List.mem_of_getElem? h)))), g⟩
theorem tb4 {w : Cond} (i : Nat) (h : tables_1_4[i]? = some w) (g : goodWord w = true) : w ∈ TB := List.mem_filter.mpr ⟨List.mem_append_right _ (show w ∈ tables_1 from List.mem_append_right _ (List.mem_append_right _ (List.mem_append_right _ (List.mem_append_left _ (List.mem_of_getElem? h))))), g⟩
theorem tb5 {w : Cond} (i : Nat) (h : tables_1_5[i]? = some w) (g : goodWord w = true) : w ∈ TB := List.mem_filter.mpr ⟨List.mem_append_right _ (show w ∈ tables_1 from List.mem_append_right _ (List.mem_append_right _ (List.mem_append_right _ (List.mem_append_right _ (List.mem_append_left _ (List.mem_of_getElem? h)))))), g⟩
theorem tb6 {w : Cond} (i : Nat) (h : tables_1_6[i]? = some w) (g : goodWord w = true) : w ∈ TB := List.mem_filter.mpr ⟨List.mem_append_right _ (show w ∈ tables_1 from List.mem_append_right _ (List.mem_append_right _ (List.mem_append_right _ (List.mem_append_right _ (List.mem_append_right _ (List.mem_append_left _ (List.mem_of_getElem? h))))))), g⟩
theorem tb7 {w : Cond} (i : Nat) (h : tables_1_7[i]? = some w) (g : goodWord w = true) : w ∈ TB := List.mem_filter.mpr ⟨List.mem_append_right _ (show w ∈ tables_1 from List.mem_append_right _ (List.mem_append_right _ (List.mem_append_right _ (List.mem_append_right _ (List.mem_append_right _ (List.mem_append_right _ (List.mem_append_left _ (List.mem_of_getElem? h)))))))), g⟩
theorem tb8 {w : Cond} (i : Nat) (h : tables_1_8[i]? = some w) (g : goodWord w = true) : w ∈ TB := List.mem_filter.mpr ⟨List.mem_append_right _ (show w ∈ tables_1 from List.mem_append_right _ (List.mem_append_right _ (List.mem_append_right _ (List.mem_append_right _ (List.mem_append_right _ (List.mem_append_right _ (List.mem_append_right _ (List.mem_of_getElem? h)))))))), g⟩
theorem vp_lit {i : Int32} {n : Nat} (h : (decide (i < 0) || decide (n ≤ i.toNatClampNeg)) = false) : vp_in i n := by
  unfold vp_in
  simp only [Bool.or_eq_false_iff, decide_eq_false_iff_not] at h
  exact fun q => q.elim h.1 h.2
theorem bi_fit (b : Bool) : fits .boolean (.int (bi b)) = true := by cases b <;> rfl
theorem wi_one {x c : Int32} (h : wi x c c = true) : x = c := by
  simp only [wi, Bool.and_eq_true, decide_eq_true_eq] at h
  exact Int32.le_antisymm h.2 h.1
theorem tb_ws {ws : List Cond} (ix : List Nat) (h : ws = ix.filterMap (fun i => tables_1[i]?)) (g : ws.all goodWord = true) : ∀ w ∈ ws, w ∈ TB := by
  intro w hw
  have g1 := List.all_eq_true.mp g w hw
  rw [h] at hw
  obtain ⟨i, -, hi⟩ := List.mem_filterMap.mp hw
  exact tb_t i hi g1
theorem P_nil {D : va_G} {H : Heap} : va_P D vwCl [] H := fun k q h => by simp at h
theorem D_nil {A : Nat → Prop} : va_D A [] := ⟨fun i j p q h => by simp at h, fun k q h => by simp at h⟩
def fl (v : Int32) (n : Nat) (f : Nat → Int32) : Nat → Int32 := fun k => if k < n then v else f k
theorem fl_0 (v : Int32) (f : Nat → Int32) : fl v 0 f = f := by funext k; simp [fl]
theorem fl_s (v : Int32) (n : Nat) (f : Nat → Int32) : upd (fl v n f) n v = fl v (n + 1) f := by
  funext k
  simp only [upd, fl]
  by_cases h : k = n
  · subst h; simp
  · by_cases h2 : k < n
    · rw [if_neg h, if_pos h2, if_pos (by omega)]
    · rw [if_neg h, if_neg h2, if_neg (by omega)]
theorem wi_ge {x lo hi : Int32} (h : wi x lo hi = true) : ¬ x < lo := by
  simp only [wi, Bool.and_eq_true, decide_eq_true_eq] at h
  exact Int32.not_lt.mpr h.1
theorem wi_le {x lo hi : Int32} (h : wi x lo hi = true) : ¬ hi < x := by
  simp only [wi, Bool.and_eq_true, decide_eq_true_eq] at h
  exact Int32.not_lt.mpr h.2
theorem wi_empty {x lo hi : Int32} (hh : hi < lo) : ¬ wi x lo hi = true := fun h => by
  simp only [wi, Bool.and_eq_true, decide_eq_true_eq] at h
  exact absurd (Int32.lt_of_lt_of_le hh (Int32.le_trans h.1 h.2)) (Int32.lt_irrefl)
theorem wi_a {n lo hi : Int32} (h : n < lo) : (0 : Int32) = bi (wi n lo hi) := by
  have h2 : ¬ lo ≤ n := fun q => absurd h (Int32.not_lt.mpr q)
  simp [wi, bi, h2]
theorem wi_b {n lo hi : Int32} (h : hi < n) : (0 : Int32) = bi (wi n lo hi) := by
  have h2 : ¬ n ≤ hi := fun q => absurd h (Int32.not_lt.mpr q)
  simp [wi, bi, h2]
theorem wi_c {n lo hi : Int32} (h1 : ¬ n < lo) (h2 : ¬ hi < n) : (1 : Int32) = bi (wi n lo hi) := by
  simp [wi, bi, Int32.not_lt.mp h1, Int32.not_lt.mp h2]
theorem wl_a {n lo hi : Int64} (h : lg_cmp n lo < 0) : (0 : Int32) = bi (wl n lo hi) := by
  have h2 : ¬ lo ≤ n := fun q => absurd ((lg_cmp_lt _ _).mp h) (Int64.not_lt.mpr q)
  simp [wl, bi, h2]
theorem wl_b {n lo hi : Int64} (h : 0 < lg_cmp n hi) : (0 : Int32) = bi (wl n lo hi) := by
  have h2 : ¬ n ≤ hi := fun q => absurd ((lg_cmp_gt _ _).mp h) (Int64.not_lt.mpr q)
  simp [wl, bi, h2]
theorem wl_c {n lo hi : Int64} (h1 : ¬ lg_cmp n lo < 0) (h2 : ¬ 0 < lg_cmp n hi) : (1 : Int32) = bi (wl n lo hi) := by
  rw [lg_cmp_lt] at h1
  rw [lg_cmp_gt] at h2
  simp [wl, bi, Int64.not_lt.mp h1, Int64.not_lt.mp h2]
theorem wl_wi {n lo hi : Int32} {lo2 hi2 : Int64} (h1 : lo.toInt64 = lo2) (h2 : hi.toInt64 = hi2) : wl n.toInt64 lo2 hi2 = wi n lo hi := by
  subst h1; subst h2
  simp [wl, wi, Int64.le_iff_toInt_le, Int32.le_iff_toInt_le]
def FF (ci : Nat) (C : String) (F : u_T) (N k : Nat) (dn nm ds : String) (fin : Bool) : Prop := (∀ w ∈ u_ws C F N, w ∈ TB) ∧ vwCl[ci]? = some (C, F, N) ∧ k < N ∧ F k = (dn, nm, ds, fin)
section BT
variable {p : Program} {l : Launch} {e : Env} {R : Room} {s : State} {m : MethodId} {args : Array Value} {below : List Frame} {meth : Method} {c : Code} {H : Heap} {locs : List Loc} {cells slots : Nat} {Q : State → Prop} {D : va_G} {T : Nat → ClassId} {A : Nat → Prop} {ws ws1 : va_W} {cc : ByteArray} {nL pc index a : Nat} {ls : Array Slot} {rest : List Value} {own C : String} {F : u_T} {N ci k : Nat} {dn nm ds : String} {fin : Bool} {fs fs1 : List Value} {v : Value} {ty : FieldType}
theorem r_get (C0 : CallFix p m c cc nL s args TB own) (hE : EV D T s) (hF : FF ci C F N k dn nm ds fin) (hw : Cond.fieldLink own index dn nm ds ∈ TB) (hP : va_P D vwCl ws H) (q0 : Nat) (he : ws[q0]? = some (a, .inr (ci, fs))) (hv : fs[k]? = some v) (hdg : decode cc pc = .ok (.getfield index, 3))
    (kk : W p l e R s m args below meth c H locs cells slots Q (F0 m (pc + 3) ls (v :: rest))) : W p l e R s m args below meth c H locs cells slots Q (F0 m pc ls (.ref a :: rest)) := by
  obtain ⟨h1, h2, h3, h4⟩ := hF
  refine va_get (D := D) (ref := dn) C0.1 C0.2.1 C0.2.2.2.2 h1 C0.2.2.2.1 hE.1 hP q0 he h2 k h3 ?_ ?_ hv hdg kk
  · rw [h4]; exact C0.2.2.2.2 _ hw
  · rw [h4]; exact fun _ h => h
theorem r_put (C0 : CallFix p m c cc nL s args TB own) (hE : EV D T s) (hF : FF ci C F N k dn nm ds false) (ty0 : Nat → FieldType) (hty : ∀ k, k < N → parseFieldDescriptor (F k).2.2.1 = some (ty0 k)) (hnm : ∀ a, a < N → ∀ b, b < N → a ≠ b → (F a).2.1 ≠ (F b).2.1) (hw : Cond.fieldLink own index dn nm ds ∈ TB) (hd : parseFieldDescriptor ds = some ty) (hP : va_P D vwCl ws H) (hD : va_D A ws) (hS : va_S A s.heap H locs) (q0 : Nat) (he : ws[q0]? = some (a, .inr (ci, fs))) (hn : narrow ty v = v) (hfit : fits ty v = true) (hl : k < fs.length) (hfs : fs.set k v = fs1) (hws : ws.set q0 (a, .inr (ci, fs1)) = ws1) (hdg : decode cc pc = .ok (.putfield index, 3))
    (kk : ∀ (H1 : Heap) (locs1 : List Loc), va_P D vwCl ws1 H1 → va_D A ws1 → va_S A s.heap H1 locs1 → W p l e R s m args below meth c H1 locs1 cells slots Q (F0 m (pc + 3) ls rest)) : W p l e R s m args below meth c H locs cells slots Q (F0 m pc ls (v :: .ref a :: rest)) := by
  obtain ⟨h1, h2, h3, h4⟩ := hF
  subst hws
  subst hfs
  refine va_put (D := D) (ref := dn) C0.1 C0.2.1 C0.2.2.2.2 h1 ty0 hty hnm C0.2.2.2.1 hE.1 hP hD hS q0 he h2 k h3 ?_ ?_ ?_ (ty := ty) ?_ hn hfit hl hdg kk
  · rw [h4]; exact C0.2.2.2.2 _ hw
  · rw [h4]; exact fun _ h => h
  · rw [h4]
  · rw [h4]; exact hd
theorem r_putF (C0 : CallFix p m c cc nL s args TB own) (hE : EV D T s) (hin : meth.name = "<init>") (hF : FF ci C F N k own nm ds true) (ty0 : Nat → FieldType) (hty : ∀ k, k < N → parseFieldDescriptor (F k).2.2.1 = some (ty0 k)) (hnm : ∀ a, a < N → ∀ b, b < N → a ≠ b → (F a).2.1 ≠ (F b).2.1) (hw : Cond.fieldLink own index own nm ds ∈ TB) (hd : parseFieldDescriptor ds = some ty) (hP : va_P D vwCl ws H) (hD : va_D A ws) (hS : va_S A s.heap H locs) (q0 : Nat) (he : ws[q0]? = some (a, .inr (ci, fs))) (hn : narrow ty v = v) (hfit : fits ty v = true) (hl : k < fs.length) (hfs : fs.set k v = fs1) (hws : ws.set q0 (a, .inr (ci, fs1)) = ws1) (hdg : decode cc pc = .ok (.putfield index, 3))
    (kk : ∀ (H1 : Heap) (locs1 : List Loc), va_P D vwCl ws1 H1 → va_D A ws1 → va_S A s.heap H1 locs1 → W p l e R s m args below meth c H1 locs1 cells slots Q (F0 m (pc + 3) ls rest)) : W p l e R s m args below meth c H locs cells slots Q (F0 m pc ls (v :: .ref a :: rest)) := by
  obtain ⟨h1, h2, h3, h4⟩ := hF
  subst hws
  subst hfs
  refine va_putF (D := D) (ref := own) C0.1 C0.2.1 C0.2.2.2.2 h1 ty0 hty hnm C0.2.2.2.1 hE.1 hP hD hS q0 he h2 k h3 ?_ ?_ ?_ hin ?_ (ty := ty) ?_ hn hfit hl hdg kk
  · rw [h4]; exact C0.2.2.2.2 _ hw
  · rw [h4]; exact fun _ h => h
  · rw [h4]
  · rw [h4]
  · rw [h4]; exact hd
end BT
theorem inX0 : ∀ w ∈ wsX00, w ∈ TB := tb_ws [65, 67, 69, 71, 73, 75, 77] (by decide +kernel) (by decide +kernel)
theorem nuX0 : ∀ j, j < 7 → defaultValue (tyX0 j) = vp_V [.null, .null, .null, .null, .null, .null, .int 0] j := by
  intro j hj
  match j, hj with
  | 0, _ => rfl
  | 1, _ => rfl
  | 2, _ => rfl
  | 3, _ => rfl
  | 4, _ => rfl
  | 5, _ => rfl
  | 6, _ => rfl
  | j + 7, hj => omega
theorem inX1 : ∀ w ∈ wsX10, w ∈ TB := tb_ws [114, 116, 118, 120, 122, 124, 126, 128] (by decide +kernel) (by decide +kernel)
theorem nuX1 : ∀ j, j < 8 → defaultValue (tyX1 j) = vp_V [.null, .null, .null, .null, .int 0, .int 0, .int 0, .int 0] j := by
  intro j hj
  match j, hj with
  | 0, _ => rfl
  | 1, _ => rfl
  | 2, _ => rfl
  | 3, _ => rfl
  | 4, _ => rfl
  | 5, _ => rfl
  | 6, _ => rfl
  | 7, _ => rfl
  | j + 8, hj => omega
theorem inX2 : ∀ w ∈ wsX20, w ∈ TB := tb_ws [189, 191, 193, 195, 197, 199, 201, 203, 205, 207, 209, 211] (by decide +kernel) (by decide +kernel)
theorem nuX2 : ∀ j, j < 12 → defaultValue (tyX2 j) = vp_V [.null, .null, .null, .null, .null, .null, .null, .null, .int 0, .int 0, .int 0, .int 0] j := by
  intro j hj
  match j, hj with
  | 0, _ => rfl
  | 1, _ => rfl
  | 2, _ => rfl
  | 3, _ => rfl
  | 4, _ => rfl
  | 5, _ => rfl
  | 6, _ => rfl
  | 7, _ => rfl
  | 8, _ => rfl
  | 9, _ => rfl
  | 10, _ => rfl
  | 11, _ => rfl
  | j + 12, hj => omega
theorem inX3 : ∀ w ∈ wsX30, w ∈ TB := tb_ws [225, 227, 229] (by decide +kernel) (by decide +kernel)
theorem nuX3 : ∀ j, j < 3 → defaultValue (tyX3 j) = vp_V [.null, .int 0, .int 0] j := by
  intro j hj
  match j, hj with
  | 0, _ => rfl
  | 1, _ => rfl
  | 2, _ => rfl
  | j + 3, hj => omega
theorem inX4 : ∀ w ∈ wsX40, w ∈ TB := tb_ws [298, 300, 302, 304, 306, 308, 310, 312, 314, 316, 318, 320, 322, 324] (by decide +kernel) (by decide +kernel)
theorem nuX4 : ∀ j, j < 14 → defaultValue (tyX4 j) = vp_V [.null, .null, .null, .null, .null, .int 0, .int 0, .int 0, .int 0, .int 0, .int 0, .int 0, .int 0, .int 0] j := by
  intro j hj
  match j, hj with
  | 0, _ => rfl
  | 1, _ => rfl
  | 2, _ => rfl
  | 3, _ => rfl
  | 4, _ => rfl
  | 5, _ => rfl
  | 6, _ => rfl
  | 7, _ => rfl
  | 8, _ => rfl
  | 9, _ => rfl
  | 10, _ => rfl
  | 11, _ => rfl
  | 12, _ => rfl
  | 13, _ => rfl
  | j + 14, hj => omega
theorem inX5 : ∀ w ∈ wsX50, w ∈ TB := tb_ws [257, 259, 261, 263, 265, 267, 269, 271] (by decide +kernel) (by decide +kernel)
theorem nuX5 : ∀ j, j < 8 → defaultValue (tyX5 j) = vp_V [.null, .null, .null, .null, .null, .int 0, .long 0, .int 0] j := by
  intro j hj
  match j, hj with
  | 0, _ => rfl
  | 1, _ => rfl
  | 2, _ => rfl
  | 3, _ => rfl
  | 4, _ => rfl
  | 5, _ => rfl
  | 6, _ => rfl
  | 7, _ => rfl
  | j + 8, hj => omega
theorem inX6 : ∀ w ∈ wsX60, w ∈ TB := tb_ws [150, 152, 154, 156, 158, 160, 162] (by decide +kernel) (by decide +kernel)
theorem nuX6 : ∀ j, j < 7 → defaultValue (tyX6 j) = vp_V [.null, .null, .null, .null, .int 0, .long 0, .int 0] j := by
  intro j hj
  match j, hj with
  | 0, _ => rfl
  | 1, _ => rfl
  | 2, _ => rfl
  | 3, _ => rfl
  | 4, _ => rfl
  | 5, _ => rfl
  | 6, _ => rfl
  | j + 7, hj => omega
theorem inX7 : ∀ w ∈ wsX70, w ∈ TB := tb_ws [402, 404, 406, 408, 410, 412, 414, 416] (by decide +kernel) (by decide +kernel)
theorem nuX7 : ∀ j, j < 8 → defaultValue (tyX7 j) = vp_V [.null, .null, .int 0, .int 0, .int 0, .int 0, .int 0, .int 0] j := by
  intro j hj
  match j, hj with
  | 0, _ => rfl
  | 1, _ => rfl
  | 2, _ => rfl
  | 3, _ => rfl
  | 4, _ => rfl
  | 5, _ => rfl
  | 6, _ => rfl
  | 7, _ => rfl
  | j + 8, hj => omega
theorem inX8 : ∀ w ∈ wsX80, w ∈ TB := tb_ws [359, 361, 363, 365, 367, 369, 371, 373, 375, 377, 379, 381, 383] (by decide +kernel) (by decide +kernel)
theorem nuX8 : ∀ j, j < 13 → defaultValue (tyX8 j) = vp_V [.null, .null, .null, .null, .null, .null, .null, .null, .null, .int 0, .int 0, .int 0, .int 0] j := by
  intro j hj
  match j, hj with
  | 0, _ => rfl
  | 1, _ => rfl
  | 2, _ => rfl
  | 3, _ => rfl
  | 4, _ => rfl
  | 5, _ => rfl
  | 6, _ => rfl
  | 7, _ => rfl
  | 8, _ => rfl
  | 9, _ => rfl
  | 10, _ => rfl
  | 11, _ => rfl
  | 12, _ => rfl
  | j + 13, hj => omega
theorem inX9 : ∀ w ∈ wsX90, w ∈ TB := tb_ws [38, 40] (by decide +kernel) (by decide +kernel)
theorem nuX9 : ∀ j, j < 2 → defaultValue (tyX9 j) = vp_V [.null, .int 0] j := by
  intro j hj
  match j, hj with
  | 0, _ => rfl
  | 1, _ => rfl
  | j + 2, hj => omega
theorem inX10 : ∀ w ∈ wsX100, w ∈ TB := tb_ws [451, 453, 455, 457, 459, 461, 463, 465, 467, 469, 471, 473, 475, 477, 479] (by decide +kernel) (by decide +kernel)
theorem nuX10 : ∀ j, j < 15 → defaultValue (tyX10 j) = vp_V (.null :: .null :: .null :: .null :: .null :: .null :: .null :: .null :: .null :: .null :: .null :: .int 0 :: .int 0 :: .int 0 :: .int 0 :: []) j := by
  intro j hj
  match j, hj with
  | 0, _ => rfl
  | 1, _ => rfl
  | 2, _ => rfl
  | 3, _ => rfl
  | 4, _ => rfl
  | 5, _ => rfl
  | 6, _ => rfl
  | 7, _ => rfl
  | 8, _ => rfl
  | 9, _ => rfl
  | 10, _ => rfl
  | 11, _ => rfl
  | 12, _ => rfl
  | 13, _ => rfl
  | 14, _ => rfl
  | j + 15, hj => omega
theorem inX11 : ∀ w ∈ wsX110, w ∈ TB := tb_ws [1156, 1158, 1160, 1162, 1164, 1166, 1168, 1170, 1172, 1174, 1176, 1178, 1180, 1182, 1184, 1186, 1188, 1190, 1192, 1194, 1196, 1198, 1200, 1202, 1204, 1206, 1208, 1210, 1212, 1214, 1216, 1218, 1220, 1222, 1224, 1226, 1228, 1230, 1232, 1234, 1236, 1238, 1240, 1242, 1244, 1246, 1248, 1250, 1252, 1254, 1256, 1258, 1260, 1262, 1264, 1266, 1268, 1270, 1272, 1274, 1276, 1278, 1280, 1282, 1284, 1286, 1288, 1290, 1292, 1294, 1296, 1298, 1300, 1302, 1304, 1306, 1308, 1310, 1312, 1314, 1316, 1318, 1320, 1322, 1324, 1326, 1328, 1330, 1332, 1334, 1336, 1338, 1340, 1342, 1344, 1346, 1348, 1350, 1352, 1354, 1356, 1358, 1360, 1362, 1364] (by decide +kernel) (by decide +kernel)
theorem nuX11 : ∀ j, j < 105 → defaultValue (tyX11 j) = vp_V (.null :: .int 0 :: .int 0 :: .int 0 :: .int 0 :: .int 0 :: .int 0 :: .int 0 :: .int 0 :: .null :: .null :: .null :: .null :: .null :: .null :: .null :: .null :: .null :: .null :: .null :: .null :: .null :: .null :: .null :: .null :: .null :: .null :: .null :: .null :: .null :: .int 0 :: .null :: .null :: .null :: .null :: .null :: .null :: .null :: .null :: .null :: .null :: .null :: .null :: .int 0 :: .null :: .int 0 :: .int 0 :: .int 0 :: .int 0 :: .int 0 :: .int 0 :: .int 0 :: .null :: .null :: .null :: .null :: .null :: .null :: .int 0 :: .int 0 :: .null :: .null :: .null :: .null :: .null :: .int 0 :: .null :: .null :: .int 0 :: .int 0 :: .null :: .null :: .int 0 :: .null :: .null :: .null :: .null :: .null :: .int 0 :: .null :: .int 0 :: .int 0 :: .int 0 :: .null :: .null :: .null :: .null :: .int 0 :: .null :: .null :: .null :: .null :: .int 0 :: .null :: .null :: .null :: .int 0 :: .null :: .null :: .null :: .int 0 :: .null :: .null :: .int 0 :: .int 0 :: []) j := by
  intro j hj
  match j, hj with
  | 0, _ => rfl
  | 1, _ => rfl
  | 2, _ => rfl
  | 3, _ => rfl
  | 4, _ => rfl
  | 5, _ => rfl
  | 6, _ => rfl
  | 7, _ => rfl
  | 8, _ => rfl
  | 9, _ => rfl
  | 10, _ => rfl
  | 11, _ => rfl
  | 12, _ => rfl
  | 13, _ => rfl
  | 14, _ => rfl
  | 15, _ => rfl
  | 16, _ => rfl
  | 17, _ => rfl
  | 18, _ => rfl
  | 19, _ => rfl
  | 20, _ => rfl
  | 21, _ => rfl
  | 22, _ => rfl
  | 23, _ => rfl
  | 24, _ => rfl
  | 25, _ => rfl
  | 26, _ => rfl
  | 27, _ => rfl
  | 28, _ => rfl
  | 29, _ => rfl
  | 30, _ => rfl
  | 31, _ => rfl
  | 32, _ => rfl
  | 33, _ => rfl
  | 34, _ => rfl
  | 35, _ => rfl
  | 36, _ => rfl
  | 37, _ => rfl
  | 38, _ => rfl
  | 39, _ => rfl
  | 40, _ => rfl
  | 41, _ => rfl
  | 42, _ => rfl
  | 43, _ => rfl
  | 44, _ => rfl
  | 45, _ => rfl
  | 46, _ => rfl
  | 47, _ => rfl
  | 48, _ => rfl
  | 49, _ => rfl
  | 50, _ => rfl
  | 51, _ => rfl
  | 52, _ => rfl
  | 53, _ => rfl
  | 54, _ => rfl
  | 55, _ => rfl
  | 56, _ => rfl
  | 57, _ => rfl
  | 58, _ => rfl
  | 59, _ => rfl
  | 60, _ => rfl
  | 61, _ => rfl
  | 62, _ => rfl
  | 63, _ => rfl
  | 64, _ => rfl
  | 65, _ => rfl
  | 66, _ => rfl
  | 67, _ => rfl
  | 68, _ => rfl
  | 69, _ => rfl
  | 70, _ => rfl
  | 71, _ => rfl
  | 72, _ => rfl
  | 73, _ => rfl
  | 74, _ => rfl
  | 75, _ => rfl
  | 76, _ => rfl
  | 77, _ => rfl
  | 78, _ => rfl
  | 79, _ => rfl
  | 80, _ => rfl
  | 81, _ => rfl
  | 82, _ => rfl
  | 83, _ => rfl
  | 84, _ => rfl
  | 85, _ => rfl
  | 86, _ => rfl
  | 87, _ => rfl
  | 88, _ => rfl
  | 89, _ => rfl
  | 90, _ => rfl
  | 91, _ => rfl
  | 92, _ => rfl
  | 93, _ => rfl
  | 94, _ => rfl
  | 95, _ => rfl
  | 96, _ => rfl
  | 97, _ => rfl
  | 98, _ => rfl
  | 99, _ => rfl
  | 100, _ => rfl
  | 101, _ => rfl
  | 102, _ => rfl
  | 103, _ => rfl
  | 104, _ => rfl
  | j + 105, hj => omega
