set_option maxHeartbeats 4000000 in
set_option maxRecDepth 100000 in
theorem h_X11_cells_20800002 (l : Launch) (D : va_G) (T : Nat → ClassId) (sq sv sz : Nat) (a : Nat) (z : Nat → Nat) (i1 i2 i3 i4 i5 i6 i7 i8 i30 i43 i45 i46 i47 i48 i49 i50 i51 i58 i59 i65 i68 i69 i72 i78 i80 i81 i82 i87 i92 i96 i100 i103 i104 : Int32) (hi49 : 1 ≤ i49.toInt ∧ i49.toInt ≤ 8) (hi50 : 1 ≤ i50.toInt ∧ i50.toInt ≤ 8) : Met l yX11_cells (.code yX11_cells cX11_cells 1 (some .int) :: TB) { frames := 0, cells := 0, slots := 0, locals := 0 } (PC2 D T sq sv [.ref a] [(a, .inr (11, OX z i1 i2 i3 i4 i5 i6 i7 i8 i30 i43 i45 i46 i47 i48 i49 i50 i51 i58 i59 i65 i68 i69 i72 i78 i80 i81 i82 i87 i92 i96 i100 i103 i104))] sz) (Qi (S := Unit) (fun (r : Int32) (_ : Unit) => (1 ≤ r.toInt ∧ r.toInt ≤ 64)) (fun (_ : Unit) => [(a, .inr (11, OX z i1 i2 i3 i4 i5 i6 i7 i8 i30 i43 i45 i46 i47 i48 i49 i50 i51 i58 i59 i65 i68 i69 i72 i78 i80 i81 i82 i87 i92 i96 i100 i103 i104))]) D (va_A [(a, .inr (11, OX z i1 i2 i3 i4 i5 i6 i7 i8 i30 i43 i45 i46 i47 i48 i49 i50 i51 i58 i59 i65 i68 i69 i72 i78 i80 i81 i82 i87 i92 i96 i100 i103 i104))] sz)) 0 0 (va_A [(a, .inr (11, OX z i1 i2 i3 i4 i5 i6 i7 i8 i30 i43 i45 i46 i47 i48 i49 i50 i51 i58 i59 i65 i68 i69 i72 i78 i80 i81 i82 i87 i92 i96 i100 i103 i104))] sz) := by
  refine ct_begin2 (Qc := Qi (S := Unit) (fun (r : Int32) (_ : Unit) => (1 ≤ r.toInt ∧ r.toInt ≤ 64)) (fun (_ : Unit) => [(a, .inr (11, OX z i1 i2 i3 i4 i5 i6 i7 i8 i30 i43 i45 i46 i47 i48 i49 i50 i51 i58 i59 i65 i68 i69 i72 i78 i80 i81 i82 i87 i92 i96 i100 i103 i104))]) D) (by decide +kernel) (Nat.le_of_ble_eq_true rfl) ?_
  intro p e s m below meth c A ls C0 hr hlocks hnm hE hStr hA hP hD hl
  generalize ([.ref a] : List Value).toArray = args at C0 ⊢
  have hx := C0.1
  have hb := C0.2.1
  have hml := C0.2.2.1
  have hown := C0.2.2.2.1
  have hT := C0.2.2.2.2
  have hK := hE.1
  generalize hH : s.heap = H at hP ⊢
  have hS : va_S A s.heap H [] := by rw [← hH]; exact va_S.rf
  have hP : va_P D vwCl [(a, .inr (11, OX z i1 i2 i3 i4 i5 i6 i7 i8 i30 i43 i45 i46 i47 i48 i49 i50 i51 i58 i59 i65 i68 i69 i72 i78 i80 i81 i82 i87 i92 i96 i100 i103 i104))] H := hP
  have hD : va_D A [(a, .inr (11, OX z i1 i2 i3 i4 i5 i6 i7 i8 i30 i43 i45 i46 i47 i48 i49 i50 i51 i58 i59 i65 i68 i69 i72 i78 i80 i81 i82 i87 i92 i96 i100 i103 i104))] := hD
  have hl : lv_has ls 1 [(0, .ref a)] := hl
  refine lv_aload_n hx hb dX11_cells_0 rfl (lv_at hl 0 rfl) ?_
  refine r_get (v := .int i49) C0 hE ffX11_49 mw_839 hP 0 rfl ox_49 dX11_cells_1 ?_
  refine lv_aload_n hx hb dX11_cells_4 rfl (lv_at hl 0 rfl) ?_
  refine r_get (v := .int i50) C0 hE ffX11_50 mw_840 hP 0 rfl ox_50 dX11_cells_5 ?_
  refine lv_imul hx hb dX11_cells_8 ?_
  refine lv_topi (fun x20800003 ex20800003 => ?_)
  have hx20800003 : 1 ≤ x20800003.toInt ∧ x20800003.toInt ≤ 64 := by have hm := mul_bb (a := i49.toInt) (b := i50.toInt) (u := 1) (v := 1) (p := 8) (q := 8) (L := 1) (U := 64) (by decide) (by decide) (by omega) (by omega) (by omega) (by omega) (by decide) (by decide); rw [ti_mul ex20800003 rfl rfl (by omega) (by omega)]; exact hm
  exact r_iret () C0 hr hlocks hS (Nat.le_refl _) (Nat.le_refl _) dX11_cells_9 ⟨by omega, by omega⟩ (hP.sub (ws' := [(a, .inr (11, OX z i1 i2 i3 i4 i5 i6 i7 i8 i30 i43 i45 i46 i47 i48 i49 i50 i51 i58 i59 i65 i68 i69 i72 i78 i80 i81 i82 i87 i92 i96 i100 i103 i104))]) [0] rfl) (hD.sub (ws' := [(a, .inr (11, OX z i1 i2 i3 i4 i5 i6 i7 i8 i30 i43 i45 i46 i47 i48 i49 i50 i51 i58 i59 i65 i68 i69 i72 i78 i80 i81 i82 i87 i92 i96 i100 i103 i104))]) [0] (by decide +kernel) rfl)
set_option maxHeartbeats 4000000 in
set_option maxRecDepth 100000 in
theorem h_X11_isCell_20900007 (l : Launch) (D : va_G) (T : Nat → ClassId) (sq sv sz : Nat) (a : Nat) (z : Nat → Nat) (i1 i2 i3 i4 i5 i6 i7 i8 i30 i43 i45 i46 i47 i48 i49 i50 i51 i58 i59 i65 i68 i69 i72 i78 i80 i81 i82 i87 i92 i96 i100 i103 i104 : Int32) (p1 : Int32) (hi49 : 1 ≤ i49.toInt ∧ i49.toInt ≤ 8) (hi50 : 1 ≤ i50.toInt ∧ i50.toInt ≤ 8) : Met l yX11_isCell (.code yX11_isCell cX11_isCell 2 (some .boolean) :: TB) { frames := 1, cells := 0, slots := 0, locals := 25 } (PC2 D T sq sv [.ref a, .int p1] [(a, .inr (11, OX z i1 i2 i3 i4 i5 i6 i7 i8 i30 i43 i45 i46 i47 i48 i49 i50 i51 i58 i59 i65 i68 i69 i72 i78 i80 i81 i82 i87 i92 i96 i100 i103 i104))] sz) (Qi (S := Unit) (fun (r : Int32) (_ : Unit) => (r.toInt = 0 ∨ (0 ≤ p1.toInt ∧ p1.toInt ≤ 63)) ∧ (0 ≤ r.toInt ∧ r.toInt ≤ 1)) (fun (_ : Unit) => [(a, .inr (11, OX z i1 i2 i3 i4 i5 i6 i7 i8 i30 i43 i45 i46 i47 i48 i49 i50 i51 i58 i59 i65 i68 i69 i72 i78 i80 i81 i82 i87 i92 i96 i100 i103 i104))]) D (va_A [(a, .inr (11, OX z i1 i2 i3 i4 i5 i6 i7 i8 i30 i43 i45 i46 i47 i48 i49 i50 i51 i58 i59 i65 i68 i69 i72 i78 i80 i81 i82 i87 i92 i96 i100 i103 i104))] sz)) 0 0 (va_A [(a, .inr (11, OX z i1 i2 i3 i4 i5 i6 i7 i8 i30 i43 i45 i46 i47 i48 i49 i50 i51 i58 i59 i65 i68 i69 i72 i78 i80 i81 i82 i87 i92 i96 i100 i103 i104))] sz) := by
  refine ct_begin2 (Qc := Qi (S := Unit) (fun (r : Int32) (_ : Unit) => (r.toInt = 0 ∨ (0 ≤ p1.toInt ∧ p1.toInt ≤ 63)) ∧ (0 ≤ r.toInt ∧ r.toInt ≤ 1)) (fun (_ : Unit) => [(a, .inr (11, OX z i1 i2 i3 i4 i5 i6 i7 i8 i30 i43 i45 i46 i47 i48 i49 i50 i51 i58 i59 i65 i68 i69 i72 i78 i80 i81 i82 i87 i92 i96 i100 i103 i104))]) D) (by decide +kernel) (Nat.le_of_ble_eq_true rfl) ?_
  intro p e s m below meth c A ls C0 hr hlocks hnm hE hStr hA hP hD hl
  generalize ([.ref a, .int p1] : List Value).toArray = args at C0 ⊢
  have hx := C0.1
  have hb := C0.2.1
  have hml := C0.2.2.1
  have hown := C0.2.2.2.1
  have hT := C0.2.2.2.2
  have hK := hE.1
  generalize hH : s.heap = H at hP ⊢
  have hS : va_S A s.heap H [] := by rw [← hH]; exact va_S.rf
  have hP : va_P D vwCl [(a, .inr (11, OX z i1 i2 i3 i4 i5 i6 i7 i8 i30 i43 i45 i46 i47 i48 i49 i50 i51 i58 i59 i65 i68 i69 i72 i78 i80 i81 i82 i87 i92 i96 i100 i103 i104))] H := hP
  have hD : va_D A [(a, .inr (11, OX z i1 i2 i3 i4 i5 i6 i7 i8 i30 i43 i45 i46 i47 i48 i49 i50 i51 i58 i59 i65 i68 i69 i72 i78 i80 i81 i82 i87 i92 i96 i100 i103 i104))] := hD
  have hl : lv_has ls 2 [(0, .ref a), (1, .int p1)] := hl
  refine lv_iload_n hx hb dX11_isCell_0 rfl (lv_at hl 1 rfl) ?_
  refine lv_i2l hx hb dX11_isCell_1 rfl ?_
  refine lv_topl (fun x20900008 ex20900008 => ?_)
  have hx20900008 : x20900008.toInt = p1.toInt := by rw [ex20900008]; exact Int32.toInt_toInt64 _
  refine lv_lconst (v := 0) hx hb dX11_isCell_2 (by decide) ?_
  refine lv_aload_n hx hb dX11_isCell_3 rfl (lv_at hl 0 rfl) ?_
  refine r_calli (wr := []) (r_runV2 (As := []) (rest := [.long 0, .long x20900008]) (wc := [(a, .inr (11, OX z i1 i2 i3 i4 i5 i6 i7 i8 i30 i43 i45 i46 i47 i48 i49 i50 i51 i58 i59 i65 i68 i69 i72 i78 i80 i81 i82 i87 i92 i96 i100 i103 i104))]) (ci := 11) C0 hE hStr hS (va_free (wc := [(a, .inr (11, OX z i1 i2 i3 i4 i5 i6 i7 i8 i30 i43 i45 i46 i47 i48 i49 i50 i51 i58 i59 i65 i68 i69 i72 i78 i80 i81 i82 i87 i92 i96 i100 i103 i104))]) hD hS hA [0] rfl) (h_X11_cells_20800002 l D T sq sv H.size a z i1 i2 i3 i4 i5 i6 i7 i8 i30 i43 i45 i46 i47 i48 i49 i50 i51 i58 i59 i65 i68 i69 i72 i78 i80 i81 i82 i87 i92 i96 i100 i103 i104 ⟨by omega, by omega⟩ ⟨by omega, by omega⟩) mw_1026 mw_1027 mw_1328 mw_14 mw_1028 dn_1742 rfl rfl ⟨Nat.le_of_ble_eq_true rfl, Nat.le_of_ble_eq_true rfl⟩ (hP.sub (ws' := [(a, .inr (11, OX z i1 i2 i3 i4 i5 i6 i7 i8 i30 i43 i45 i46 i47 i48 i49 i50 i51 i58 i59 i65 i68 i69 i72 i78 i80 i81 i82 i87 i92 i96 i100 i103 i104))]) [0] rfl) (hD.sub (ws' := [(a, .inr (11, OX z i1 i2 i3 i4 i5 i6 i7 i8 i30 i43 i45 i46 i47 i48 i49 i50 i51 i58 i59 i65 i68 i69 i72 i78 i80 i81 i82 i87 i92 i96 i100 i103 i104))]) [0] (by decide +kernel) rfl) rfl rfl rfl hl.1 rfl (Nat.le_of_ble_eq_true rfl) dX11_isCell_4 ⟨Nat.le_of_ble_eq_true rfl, Nat.le_of_ble_eq_true rfl⟩) hP hD hS hA [0] [] rfl rfl (by decide +kernel) (by decide +kernel) (fun x20900009 u H locs hq hP hD hS => ?_)
  have hx20900009 := hq
  have hx20900009 : 1 ≤ x20900009.toInt ∧ x20900009.toInt ≤ 64 := hx20900009
  have hP : va_P D vwCl [(a, .inr (11, OX z i1 i2 i3 i4 i5 i6 i7 i8 i30 i43 i45 i46 i47 i48 i49 i50 i51 i58 i59 i65 i68 i69 i72 i78 i80 i81 i82 i87 i92 i96 i100 i103 i104))] H := hP
  have hD : va_D A [(a, .inr (11, OX z i1 i2 i3 i4 i5 i6 i7 i8 i30 i43 i45 i46 i47 i48 i49 i50 i51 i58 i59 i65 i68 i69 i72 i78 i80 i81 i82 i87 i92 i96 i100 i103 i104))] := hD
  refine W.widen (k := 0) (n := 0) (Nat.le_refl _) (Nat.le_refl _) ?_
  refine lv_iconst (v := 1) hx hb dX11_isCell_7 (by decide) ?_
  refine lv_isub hx hb dX11_isCell_8 ?_
  refine lv_topi (fun x20900010 ex20900010 => ?_)
  have hx20900010 : x20900010.toInt = x20900009.toInt - 1 := ti_sub ex20900010 rfl (by decide) (by omega) (by omega)
  refine lv_i2l hx hb dX11_isCell_9 rfl ?_
  refine lv_topl (fun x20900011 ex20900011 => ?_)
  have hx20900011 : x20900011.toInt = x20900010.toInt := by rw [ex20900011]; exact Int32.toInt_toInt64 _
  refine r_calli (wr := [(a, .inr (11, OX z i1 i2 i3 i4 i5 i6 i7 i8 i30 i43 i45 i46 i47 i48 i49 i50 i51 i58 i59 i65 i68 i69 i72 i78 i80 i81 i82 i87 i92 i96 i100 i103 i104))]) (r_runS2 (As := [.long x20900008, .long 0, .long x20900011]) (rest := []) (wc := []) C0 hE hStr hS (va_free (wc := []) hD hS hA [] rfl) (h_X11_isIn_20000007 l D T sq sv H.size x20900008 0 x20900011) mw_910 mw_911 mw_14 mw_912 dn_1704 rfl rfl ⟨Nat.le_of_ble_eq_true rfl, Nat.le_of_ble_eq_true rfl⟩ (hP.sub (ws' := []) [] rfl) (hD.sub (ws' := []) [] (by decide +kernel) rfl) hl.1 rfl (Nat.le_of_ble_eq_true rfl) dX11_isCell_10 ⟨Nat.le_of_ble_eq_true rfl, Nat.le_of_ble_eq_true rfl⟩) hP hD hS hA [] [0] rfl rfl (by decide +kernel) (by decide +kernel) (fun x20900012 u H locs hq hP hD hS => ?_)
  obtain ⟨hp20900013, hx20900012⟩ := hq
  have hp20900013 : (x20900012.toInt = 0 ∧ (x20900008.toInt < 0 ∨ x20900011.toInt < x20900008.toInt)) ∨ (x20900012.toInt = 1 ∧ 0 ≤ x20900008.toInt ∧ x20900008.toInt ≤ x20900011.toInt) := hp20900013
  have hx20900012 : 0 ≤ x20900012.toInt ∧ x20900012.toInt ≤ 1 := hx20900012
  have hl20900014 : (0 : Int64).toInt = 0 := by decide
  have hP : va_P D vwCl [(a, .inr (11, OX z i1 i2 i3 i4 i5 i6 i7 i8 i30 i43 i45 i46 i47 i48 i49 i50 i51 i58 i59 i65 i68 i69 i72 i78 i80 i81 i82 i87 i92 i96 i100 i103 i104))] H := hP
  have hD : va_D A [(a, .inr (11, OX z i1 i2 i3 i4 i5 i6 i7 i8 i30 i43 i45 i46 i47 i48 i49 i50 i51 i58 i59 i65 i68 i69 i72 i78 i80 i81 i82 i87 i92 i96 i100 i103 i104))] := hD
  refine W.widen (k := 0) (n := 0) (Nat.le_refl _) (Nat.le_refl _) ?_
  exact r_zret () C0 hr (bool_nar ⟨by omega, by omega⟩) hlocks hS (Nat.le_refl _) (Nat.le_refl _) dX11_isCell_13 ⟨(by omega), ⟨by omega, by omega⟩⟩ (hP.sub (ws' := [(a, .inr (11, OX z i1 i2 i3 i4 i5 i6 i7 i8 i30 i43 i45 i46 i47 i48 i49 i50 i51 i58 i59 i65 i68 i69 i72 i78 i80 i81 i82 i87 i92 i96 i100 i103 i104))]) [0] rfl) (hD.sub (ws' := [(a, .inr (11, OX z i1 i2 i3 i4 i5 i6 i7 i8 i30 i43 i45 i46 i47 i48 i49 i50 i51 i58 i59 i65 i68 i69 i72 i78 i80 i81 i82 i87 i92 i96 i100 i103 i104))]) [0] (by decide +kernel) rfl)
set_option maxHeartbeats 4000000 in
set_option maxRecDepth 100000 in
theorem h_X11_areHands_21000010 (l : Launch) (D : va_G) (T : Nat → ClassId) (sq sv sz : Nat) (p0 : Int32) (p1 : Int32) : Met l yX11_areHands (.code yX11_areHands cX11_areHands 2 (some .boolean) :: TB) { frames := 1, cells := 0, slots := 0, locals := 25 } (PC2 D T sq sv [.int p0, .int p1] ([] : va_W) sz) (Qi (S := Unit) (fun (r : Int32) (_ : Unit) => (0 ≤ r.toInt ∧ r.toInt ≤ 1)) (fun (_ : Unit) => ([] : va_W)) D (va_A ([] : va_W) sz)) 0 0 (va_A ([] : va_W) sz) := by
  refine ct_begin2 (Qc := Qi (S := Unit) (fun (r : Int32) (_ : Unit) => (0 ≤ r.toInt ∧ r.toInt ≤ 1)) (fun (_ : Unit) => ([] : va_W)) D) (by decide +kernel) (Nat.le_of_ble_eq_true rfl) ?_
  intro p e s m below meth c A ls C0 hr hlocks hnm hE hStr hA hP hD hl
  generalize ([.int p0, .int p1] : List Value).toArray = args at C0 ⊢
  have hx := C0.1
  have hb := C0.2.1
  have hml := C0.2.2.1
  have hown := C0.2.2.2.1
  have hT := C0.2.2.2.2
  have hK := hE.1
  generalize hH : s.heap = H at hP ⊢
  have hS : va_S A s.heap H [] := by rw [← hH]; exact va_S.rf
  have hP : va_P D vwCl ([] : va_W) H := hP
  have hD : va_D A ([] : va_W) := hD
  have hl : lv_has ls 2 [(0, .int p0), (1, .int p1)] := hl
  refine lv_iload_n hx hb dX11_areHands_0 rfl (lv_at hl 0 rfl) ?_
  refine lv_i2l hx hb dX11_areHands_1 rfl ?_
  refine lv_topl (fun x21000011 ex21000011 => ?_)
  have hx21000011 : x21000011.toInt = p0.toInt := by rw [ex21000011]; exact Int32.toInt_toInt64 _
  refine lv_lconst (v := 0) hx hb dX11_areHands_2 (by decide) ?_
  refine lv_ldc2 hx hb hown (hT _ mw_1029) dX11_areHands_3 ?_
  refine r_calli (wr := []) (r_runS2 (As := [.long x21000011, .long 0, .long 99]) (rest := []) (wc := []) C0 hE hStr hS (va_free (wc := []) hD hS hA [] rfl) (h_X11_isIn_20000007 l D T sq sv H.size x21000011 0 99) mw_910 mw_911 mw_14 mw_912 dn_1704 rfl rfl ⟨Nat.le_of_ble_eq_true rfl, Nat.le_of_ble_eq_true rfl⟩ (hP.sub (ws' := []) [] rfl) (hD.sub (ws' := []) [] (by decide +kernel) rfl) hl.1 rfl (Nat.le_of_ble_eq_true rfl) dX11_areHands_6 ⟨Nat.le_of_ble_eq_true rfl, Nat.le_of_ble_eq_true rfl⟩) hP hD hS hA [] [] rfl rfl (by decide +kernel) (by decide +kernel) (fun x21000012 u H locs hq hP hD hS => ?_)
  obtain ⟨hp21000013, hx21000012⟩ := hq
  have hp21000013 : (x21000012.toInt = 0 ∧ (x21000011.toInt < 0 ∨ 99 < x21000011.toInt)) ∨ (x21000012.toInt = 1 ∧ 0 ≤ x21000011.toInt ∧ x21000011.toInt ≤ 99) := hp21000013
  have hx21000012 : 0 ≤ x21000012.toInt ∧ x21000012.toInt ≤ 1 := hx21000012
  have hl21000014 : (0 : Int64).toInt = 0 := by decide
  have hl21000015 : (99 : Int64).toInt = 99 := by decide
  have hP : va_P D vwCl [] H := hP
  have hD : va_D A [] := hD
  refine W.widen (k := 0) (n := 0) (Nat.le_refl _) (Nat.le_refl _) ?_
  have J21000022 : ∀ (x21000021 : Int32) (H : Heap) (locs : List Loc) (ls : Array Slot), (0 ≤ x21000021.toInt ∧ x21000021.toInt ≤ 1) → va_P D vwCl [] H → va_D A [] → va_S A s.heap H locs → lv_has ls 2 [(0, .int p0), (1, .int p1)] → W p l e { frames := 1, cells := 0, slots := 0, locals := 25 } s m args below meth c H locs 0 0 (MQ below ((Qi (S := Unit) (fun (r : Int32) (_ : Unit) => (0 ≤ r.toInt ∧ r.toInt ≤ 1)) (fun (_ : Unit) => ([] : va_W)) D) A) args s 0 0 A) (F0 m 29 ls [.int x21000021]) := by
    intro x21000021 H locs ls hx21000021 hP hD hS hl
    exact r_zret () C0 hr (bool_nar ⟨by omega, by omega⟩) hlocks hS (Nat.le_refl _) (Nat.le_refl _) dX11_areHands_29 ⟨by omega, by omega⟩ (hP.sub (ws' := []) [] rfl) (hD.sub (ws' := []) [] (by decide +kernel) rfl)
  refine lv_if_eq (tgt := 28) hx hb dX11_areHands_9 (by decide) (fun c21000016 => ?_) (fun c21000016 => ?_)
  · skip
    have kc21000016 : x21000012.toInt = 0 := eq_ti rfl (by decide) c21000016
    refine lv_iconst (v := 0) hx hb dX11_areHands_28 (by decide) ?_
    exact J21000022 0 _ _ ls ⟨by decide, by decide⟩ (hP.sub (ws' := []) [] rfl) (hD.sub (ws' := []) [] (by decide +kernel) rfl) hS (lv_sub hl [0, 1] rfl)
  · skip
    have kc21000016 : x21000012.toInt ≠ 0 := ne_ti rfl (by decide) c21000016
    have nzx21000012 : ¬ x21000012 = 0 := c21000016
    refine lv_iload_n hx hb dX11_areHands_12 rfl (lv_at hl 1 rfl) ?_
    refine lv_i2l hx hb dX11_areHands_13 rfl ?_
    refine lv_topl (fun x21000023 ex21000023 => ?_)
    have hx21000023 : x21000023.toInt = p1.toInt := by rw [ex21000023]; exact Int32.toInt_toInt64 _
    refine lv_lconst (v := 0) hx hb dX11_areHands_14 (by decide) ?_
    refine lv_ldc2 hx hb hown (hT _ mw_1029) dX11_areHands_15 ?_
    refine r_calli (wr := []) (r_runS2 (As := [.long x21000023, .long 0, .long 99]) (rest := []) (wc := []) C0 hE hStr hS (va_free (wc := []) hD hS hA [] rfl) (h_X11_isIn_20000007 l D T sq sv H.size x21000023 0 99) mw_910 mw_911 mw_14 mw_912 dn_1704 rfl rfl ⟨Nat.le_of_ble_eq_true rfl, Nat.le_of_ble_eq_true rfl⟩ (hP.sub (ws' := []) [] rfl) (hD.sub (ws' := []) [] (by decide +kernel) rfl) hl.1 rfl (Nat.le_of_ble_eq_true rfl) dX11_areHands_18 ⟨Nat.le_of_ble_eq_true rfl, Nat.le_of_ble_eq_true rfl⟩) hP hD hS hA [] [] rfl rfl (by decide +kernel) (by decide +kernel) (fun x21000024 u H locs hq hP hD hS => ?_)
    obtain ⟨hp21000025, hx21000024⟩ := hq
    have hp21000025 : (x21000024.toInt = 0 ∧ (x21000023.toInt < 0 ∨ 99 < x21000023.toInt)) ∨ (x21000024.toInt = 1 ∧ 0 ≤ x21000023.toInt ∧ x21000023.toInt ≤ 99) := hp21000025
    have hx21000024 : 0 ≤ x21000024.toInt ∧ x21000024.toInt ≤ 1 := hx21000024
    have hl21000026 : (0 : Int64).toInt = 0 := by decide
    have hl21000027 : (99 : Int64).toInt = 99 := by decide
    have hP : va_P D vwCl [] H := hP
    have hD : va_D A [] := hD
    refine W.widen (k := 0) (n := 0) (Nat.le_refl _) (Nat.le_refl _) ?_
    refine lv_if_eq (tgt := 28) hx hb dX11_areHands_21 (by decide) (fun c21000028 => ?_) (fun c21000028 => ?_)
    · skip
      have kc21000028 : x21000024.toInt = 0 := eq_ti rfl (by decide) c21000028
      refine lv_iconst (v := 0) hx hb dX11_areHands_28 (by decide) ?_
      exact J21000022 0 _ _ ls ⟨by decide, by decide⟩ (hP.sub (ws' := []) [] rfl) (hD.sub (ws' := []) [] (by decide +kernel) rfl) hS (lv_sub hl [0, 1] rfl)
    · skip
      have kc21000028 : x21000024.toInt ≠ 0 := ne_ti rfl (by decide) c21000028
      have nzx21000024 : ¬ x21000024 = 0 := c21000028
      refine lv_iconst (v := 1) hx hb dX11_areHands_24 (by decide) ?_
      refine lv_goto (tgt := 29) hx hb dX11_areHands_25 (by decide) ?_
      exact J21000022 1 _ _ ls ⟨by decide, by decide⟩ (hP.sub (ws' := []) [] rfl) (hD.sub (ws' := []) [] (by decide +kernel) rfl) hS (lv_sub hl [0, 1] rfl)
set_option maxHeartbeats 4000000 in
set_option maxRecDepth 100000 in
theorem h_X11_act_21100009 (l : Launch) (D : va_G) (T : Nat → ClassId) (sq sv sz : Nat) (a : Nat) (z : Nat → Nat) (i1 i2 i3 i4 i5 i6 i7 i8 i30 i43 i45 i46 i47 i48 i49 i50 i51 i58 i59 i65 i68 i69 i72 i78 i80 i81 i82 i87 i92 i96 i100 i103 i104 : Int32) (p1 : Int32) (p2 : Int32) (p3 : Int32) (p4 : Int32) (p5 : Int32) (g52 : Nat → Int32) (g53 : Nat → Int32) (g54 : Nat → Int32) (g55 : Nat → Int32) (g56 : Nat → Int32) (g57 : Nat → Int32) (hi51 : 0 ≤ i51.toInt ∧ i51.toInt ≤ 119) (hp2 : 0 ≤ p2.toInt ∧ p2.toInt ≤ 63) (hbg53 : Bd (0) (63) g53) (hpre0 : p1.toInt = 1 → 0 ≤ p3.toInt ∧ p3.toInt ≤ 7) (hHK : HK g52 g54) : Met l yX11_act (.code yX11_act cX11_act 6 (some .int) :: TB) { frames := 0, cells := 0, slots := 0, locals := 0 } (PC2 D T sq sv [.ref a, .int p1, .int p2, .int p3, .int p4, .int p5] [(a, .inr (11, OX z i1 i2 i3 i4 i5 i6 i7 i8 i30 i43 i45 i46 i47 i48 i49 i50 i51 i58 i59 i65 i68 i69 i72 i78 i80 i81 i82 i87 i92 i96 i100 i103 i104)), ((z 52), .inl (T 0, 121, .inl g52)), ((z 53), .inl (T 0, 121, .inl g53)), ((z 54), .inl (T 0, 121, .inl g54)), ((z 55), .inl (T 0, 121, .inl g55)), ((z 56), .inl (T 0, 121, .inl g56)), ((z 57), .inl (T 0, 121, .inl g57))] sz) (Qi (S := Int32 × (Nat → Int32) × (Nat → Int32) × (Nat → Int32) × (Nat → Int32) × (Nat → Int32) × (Nat → Int32)) (fun (r : Int32) (u : Int32 × (Nat → Int32) × (Nat → Int32) × (Nat → Int32) × (Nat → Int32) × (Nat → Int32) × (Nat → Int32)) => match u with | (ui51, ug52, ug53, ug54, ug55, ug56, ug57) => (0 ≤ ui51.toInt ∧ ui51.toInt ≤ 120) ∧ Bd (0) (63) ug53 ∧ (HK ug52 ug54) ∧ (1 ≤ r.toInt ∧ r.toInt ≤ 120)) (fun (u : Int32 × (Nat → Int32) × (Nat → Int32) × (Nat → Int32) × (Nat → Int32) × (Nat → Int32) × (Nat → Int32)) => match u with | (ui51, ug52, ug53, ug54, ug55, ug56, ug57) => [(a, .inr (11, OX z i1 i2 i3 i4 i5 i6 i7 i8 i30 i43 i45 i46 i47 i48 i49 i50 ui51 i58 i59 i65 i68 i69 i72 i78 i80 i81 i82 i87 i92 i96 i100 i103 i104)), ((z 52), .inl (T 0, 121, .inl ug52)), ((z 53), .inl (T 0, 121, .inl ug53)), ((z 54), .inl (T 0, 121, .inl ug54)), ((z 55), .inl (T 0, 121, .inl ug55)), ((z 56), .inl (T 0, 121, .inl ug56)), ((z 57), .inl (T 0, 121, .inl ug57))]) D (va_A [(a, .inr (11, OX z i1 i2 i3 i4 i5 i6 i7 i8 i30 i43 i45 i46 i47 i48 i49 i50 i51 i58 i59 i65 i68 i69 i72 i78 i80 i81 i82 i87 i92 i96 i100 i103 i104)), ((z 52), .inl (T 0, 121, .inl g52)), ((z 53), .inl (T 0, 121, .inl g53)), ((z 54), .inl (T 0, 121, .inl g54)), ((z 55), .inl (T 0, 121, .inl g55)), ((z 56), .inl (T 0, 121, .inl g56)), ((z 57), .inl (T 0, 121, .inl g57))] sz)) 0 0 (va_A [(a, .inr (11, OX z i1 i2 i3 i4 i5 i6 i7 i8 i30 i43 i45 i46 i47 i48 i49 i50 i51 i58 i59 i65 i68 i69 i72 i78 i80 i81 i82 i87 i92 i96 i100 i103 i104)), ((z 52), .inl (T 0, 121, .inl g52)), ((z 53), .inl (T 0, 121, .inl g53)), ((z 54), .inl (T 0, 121, .inl g54)), ((z 55), .inl (T 0, 121, .inl g55)), ((z 56), .inl (T 0, 121, .inl g56)), ((z 57), .inl (T 0, 121, .inl g57))] sz) := by
  refine ct_begin2 (Qc := Qi (S := Int32 × (Nat → Int32) × (Nat → Int32) × (Nat → Int32) × (Nat → Int32) × (Nat → Int32) × (Nat → Int32)) (fun (r : Int32) (u : Int32 × (Nat → Int32) × (Nat → Int32) × (Nat → Int32) × (Nat → Int32) × (Nat → Int32) × (Nat → Int32)) => match u with | (ui51, ug52, ug53, ug54, ug55, ug56, ug57) => (0 ≤ ui51.toInt ∧ ui51.toInt ≤ 120) ∧ Bd (0) (63) ug53 ∧ (HK ug52 ug54) ∧ (1 ≤ r.toInt ∧ r.toInt ≤ 120)) (fun (u : Int32 × (Nat → Int32) × (Nat → Int32) × (Nat → Int32) × (Nat → Int32) × (Nat → Int32) × (Nat → Int32)) => match u with | (ui51, ug52, ug53, ug54, ug55, ug56, ug57) => [(a, .inr (11, OX z i1 i2 i3 i4 i5 i6 i7 i8 i30 i43 i45 i46 i47 i48 i49 i50 ui51 i58 i59 i65 i68 i69 i72 i78 i80 i81 i82 i87 i92 i96 i100 i103 i104)), ((z 52), .inl (T 0, 121, .inl ug52)), ((z 53), .inl (T 0, 121, .inl ug53)), ((z 54), .inl (T 0, 121, .inl ug54)), ((z 55), .inl (T 0, 121, .inl ug55)), ((z 56), .inl (T 0, 121, .inl ug56)), ((z 57), .inl (T 0, 121, .inl ug57))]) D) (by decide +kernel) (Nat.le_of_ble_eq_true rfl) ?_
  intro p e s m below meth c A ls C0 hr hlocks hnm hE hStr hA hP hD hl
  generalize ([.ref a, .int p1, .int p2, .int p3, .int p4, .int p5] : List Value).toArray = args at C0 ⊢
  have hx := C0.1
  have hb := C0.2.1
  have hml := C0.2.2.1
  have hown := C0.2.2.2.1
  have hT := C0.2.2.2.2
  have hK := hE.1
  generalize hH : s.heap = H at hP ⊢
  have hS : va_S A s.heap H [] := by rw [← hH]; exact va_S.rf
  have hP : va_P D vwCl [(a, .inr (11, OX z i1 i2 i3 i4 i5 i6 i7 i8 i30 i43 i45 i46 i47 i48 i49 i50 i51 i58 i59 i65 i68 i69 i72 i78 i80 i81 i82 i87 i92 i96 i100 i103 i104)), ((z 52), .inl (T 0, 121, .inl g52)), ((z 53), .inl (T 0, 121, .inl g53)), ((z 54), .inl (T 0, 121, .inl g54)), ((z 55), .inl (T 0, 121, .inl g55)), ((z 56), .inl (T 0, 121, .inl g56)), ((z 57), .inl (T 0, 121, .inl g57))] H := hP
  have hD : va_D A [(a, .inr (11, OX z i1 i2 i3 i4 i5 i6 i7 i8 i30 i43 i45 i46 i47 i48 i49 i50 i51 i58 i59 i65 i68 i69 i72 i78 i80 i81 i82 i87 i92 i96 i100 i103 i104)), ((z 52), .inl (T 0, 121, .inl g52)), ((z 53), .inl (T 0, 121, .inl g53)), ((z 54), .inl (T 0, 121, .inl g54)), ((z 55), .inl (T 0, 121, .inl g55)), ((z 56), .inl (T 0, 121, .inl g56)), ((z 57), .inl (T 0, 121, .inl g57))] := hD
  have hl : lv_has ls 6 [(0, .ref a), (1, .int p1), (2, .int p2), (3, .int p3), (4, .int p4), (5, .int p5)] := hl
  refine lv_aload_n hx hb dX11_act_0 rfl (lv_at hl 0 rfl) ?_
  refine lv_dup hx hb dX11_act_1 rfl ?_
  refine r_get (v := .int i51) C0 hE ffX11_51 mw_841 hP 0 rfl ox_51 dX11_act_2 ?_
  refine lv_iconst (v := 1) hx hb dX11_act_5 (by decide) ?_
  refine lv_iadd hx hb dX11_act_6 ?_
  refine lv_topi (fun x21100010 ex21100010 => ?_)
  have hx21100010 : x21100010.toInt = i51.toInt + 1 := ti_add ex21100010 rfl (by decide) (by omega) (by omega)
  refine r_put (v := .int x21100010) (ty := .int) (ws1 := [(a, .inr (11, OX z i1 i2 i3 i4 i5 i6 i7 i8 i30 i43 i45 i46 i47 i48 i49 i50 x21100010 i58 i59 i65 i68 i69 i72 i78 i80 i81 i82 i87 i92 i96 i100 i103 i104)), ((z 52), .inl (T 0, 121, .inl g52)), ((z 53), .inl (T 0, 121, .inl g53)), ((z 54), .inl (T 0, 121, .inl g54)), ((z 55), .inl (T 0, 121, .inl g55)), ((z 56), .inl (T 0, 121, .inl g56)), ((z 57), .inl (T 0, 121, .inl g57))]) C0 hE ffX11_51 tyX11 tyX11_ok nmX11 mw_841 pf_1358 hP hD hS 0 rfl rfl rfl ol_51 os_51 rfl dX11_act_7 (fun H locs hP hD hS => ?_)
  refine lv_aload_n hx hb dX11_act_10 rfl (lv_at hl 0 rfl) ?_
  refine r_get (v := .ref (z 52)) C0 hE ffX11_52 mw_842 hP 0 rfl ox_52 dX11_act_11 ?_
  refine lv_aload_n hx hb dX11_act_14 rfl (lv_at hl 0 rfl) ?_
  refine r_get (v := .int x21100010) C0 hE ffX11_51 mw_841 hP 0 rfl ox_51 dX11_act_15 ?_
  refine lv_iload_n hx hb dX11_act_18 rfl (lv_at hl 1 rfl) ?_
  refine r_iastX hx hb hK hP hD hS 1 rfl (in_ti rfl (by omega) (by omega)) dX11_act_19 (fun f21100011 ef21100011 H locs hP hD hS => ?_)
  have hP : va_P D vwCl [(a, .inr (11, OX z i1 i2 i3 i4 i5 i6 i7 i8 i30 i43 i45 i46 i47 i48 i49 i50 x21100010 i58 i59 i65 i68 i69 i72 i78 i80 i81 i82 i87 i92 i96 i100 i103 i104)), ((z 52), .inl (T 0, 121, .inl f21100011)), ((z 53), .inl (T 0, 121, .inl g53)), ((z 54), .inl (T 0, 121, .inl g54)), ((z 55), .inl (T 0, 121, .inl g55)), ((z 56), .inl (T 0, 121, .inl g56)), ((z 57), .inl (T 0, 121, .inl g57))] H := hP
  have hD : va_D A [(a, .inr (11, OX z i1 i2 i3 i4 i5 i6 i7 i8 i30 i43 i45 i46 i47 i48 i49 i50 x21100010 i58 i59 i65 i68 i69 i72 i78 i80 i81 i82 i87 i92 i96 i100 i103 i104)), ((z 52), .inl (T 0, 121, .inl f21100011)), ((z 53), .inl (T 0, 121, .inl g53)), ((z 54), .inl (T 0, 121, .inl g54)), ((z 55), .inl (T 0, 121, .inl g55)), ((z 56), .inl (T 0, 121, .inl g56)), ((z 57), .inl (T 0, 121, .inl g57))] := hD
  refine lv_aload_n hx hb dX11_act_20 rfl (lv_at hl 0 rfl) ?_
  refine r_get (v := .ref (z 53)) C0 hE ffX11_53 mw_843 hP 0 rfl ox_53 dX11_act_21 ?_
  refine lv_aload_n hx hb dX11_act_24 rfl (lv_at hl 0 rfl) ?_
  refine r_get (v := .int x21100010) C0 hE ffX11_51 mw_841 hP 0 rfl ox_51 dX11_act_25 ?_
  refine lv_iload_n hx hb dX11_act_28 rfl (lv_at hl 2 rfl) ?_
  refine r_iastX hx hb hK hP hD hS 2 rfl (in_ti rfl (by omega) (by omega)) dX11_act_29 (fun f21100012 ef21100012 H locs hP hD hS => ?_)
  have hb21100013 : Bd (0) (63) f21100012 := by rw [ef21100012]; exact Bd.upd hbg53 rfl (by omega) (by omega)
  have hP : va_P D vwCl [(a, .inr (11, OX z i1 i2 i3 i4 i5 i6 i7 i8 i30 i43 i45 i46 i47 i48 i49 i50 x21100010 i58 i59 i65 i68 i69 i72 i78 i80 i81 i82 i87 i92 i96 i100 i103 i104)), ((z 52), .inl (T 0, 121, .inl f21100011)), ((z 53), .inl (T 0, 121, .inl f21100012)), ((z 54), .inl (T 0, 121, .inl g54)), ((z 55), .inl (T 0, 121, .inl g55)), ((z 56), .inl (T 0, 121, .inl g56)), ((z 57), .inl (T 0, 121, .inl g57))] H := hP
  have hD : va_D A [(a, .inr (11, OX z i1 i2 i3 i4 i5 i6 i7 i8 i30 i43 i45 i46 i47 i48 i49 i50 x21100010 i58 i59 i65 i68 i69 i72 i78 i80 i81 i82 i87 i92 i96 i100 i103 i104)), ((z 52), .inl (T 0, 121, .inl f21100011)), ((z 53), .inl (T 0, 121, .inl f21100012)), ((z 54), .inl (T 0, 121, .inl g54)), ((z 55), .inl (T 0, 121, .inl g55)), ((z 56), .inl (T 0, 121, .inl g56)), ((z 57), .inl (T 0, 121, .inl g57))] := hD
  refine lv_aload_n hx hb dX11_act_30 rfl (lv_at hl 0 rfl) ?_
  refine r_get (v := .ref (z 54)) C0 hE ffX11_54 mw_844 hP 0 rfl ox_54 dX11_act_31 ?_
  refine lv_aload_n hx hb dX11_act_34 rfl (lv_at hl 0 rfl) ?_
  refine r_get (v := .int x21100010) C0 hE ffX11_51 mw_841 hP 0 rfl ox_51 dX11_act_35 ?_
  refine lv_iload_n hx hb dX11_act_38 rfl (lv_at hl 3 rfl) ?_
  refine r_iastX hx hb hK hP hD hS 3 rfl (in_ti rfl (by omega) (by omega)) dX11_act_39 (fun f21100014 ef21100014 H locs hP hD hS => ?_)
  have hP : va_P D vwCl [(a, .inr (11, OX z i1 i2 i3 i4 i5 i6 i7 i8 i30 i43 i45 i46 i47 i48 i49 i50 x21100010 i58 i59 i65 i68 i69 i72 i78 i80 i81 i82 i87 i92 i96 i100 i103 i104)), ((z 52), .inl (T 0, 121, .inl f21100011)), ((z 53), .inl (T 0, 121, .inl f21100012)), ((z 54), .inl (T 0, 121, .inl f21100014)), ((z 55), .inl (T 0, 121, .inl g55)), ((z 56), .inl (T 0, 121, .inl g56)), ((z 57), .inl (T 0, 121, .inl g57))] H := hP
  have hD : va_D A [(a, .inr (11, OX z i1 i2 i3 i4 i5 i6 i7 i8 i30 i43 i45 i46 i47 i48 i49 i50 x21100010 i58 i59 i65 i68 i69 i72 i78 i80 i81 i82 i87 i92 i96 i100 i103 i104)), ((z 52), .inl (T 0, 121, .inl f21100011)), ((z 53), .inl (T 0, 121, .inl f21100012)), ((z 54), .inl (T 0, 121, .inl f21100014)), ((z 55), .inl (T 0, 121, .inl g55)), ((z 56), .inl (T 0, 121, .inl g56)), ((z 57), .inl (T 0, 121, .inl g57))] := hD
  refine lv_aload_n hx hb dX11_act_40 rfl (lv_at hl 0 rfl) ?_
  refine r_get (v := .ref (z 55)) C0 hE ffX11_55 mw_845 hP 0 rfl ox_55 dX11_act_41 ?_
  refine lv_aload_n hx hb dX11_act_44 rfl (lv_at hl 0 rfl) ?_
  refine r_get (v := .int x21100010) C0 hE ffX11_51 mw_841 hP 0 rfl ox_51 dX11_act_45 ?_
  refine lv_iload hx hb dX11_act_48 (lv_at hl 4 rfl) ?_
  refine r_iastX hx hb hK hP hD hS 4 rfl (in_ti rfl (by omega) (by omega)) dX11_act_50 (fun f21100015 ef21100015 H locs hP hD hS => ?_)
  have hP : va_P D vwCl [(a, .inr (11, OX z i1 i2 i3 i4 i5 i6 i7 i8 i30 i43 i45 i46 i47 i48 i49 i50 x21100010 i58 i59 i65 i68 i69 i72 i78 i80 i81 i82 i87 i92 i96 i100 i103 i104)), ((z 52), .inl (T 0, 121, .inl f21100011)), ((z 53), .inl (T 0, 121, .inl f21100012)), ((z 54), .inl (T 0, 121, .inl f21100014)), ((z 55), .inl (T 0, 121, .inl f21100015)), ((z 56), .inl (T 0, 121, .inl g56)), ((z 57), .inl (T 0, 121, .inl g57))] H := hP
  have hD : va_D A [(a, .inr (11, OX z i1 i2 i3 i4 i5 i6 i7 i8 i30 i43 i45 i46 i47 i48 i49 i50 x21100010 i58 i59 i65 i68 i69 i72 i78 i80 i81 i82 i87 i92 i96 i100 i103 i104)), ((z 52), .inl (T 0, 121, .inl f21100011)), ((z 53), .inl (T 0, 121, .inl f21100012)), ((z 54), .inl (T 0, 121, .inl f21100014)), ((z 55), .inl (T 0, 121, .inl f21100015)), ((z 56), .inl (T 0, 121, .inl g56)), ((z 57), .inl (T 0, 121, .inl g57))] := hD
  refine lv_aload_n hx hb dX11_act_51 rfl (lv_at hl 0 rfl) ?_
  refine r_get (v := .ref (z 56)) C0 hE ffX11_56 mw_846 hP 0 rfl ox_56 dX11_act_52 ?_
  refine lv_aload_n hx hb dX11_act_55 rfl (lv_at hl 0 rfl) ?_
  refine r_get (v := .int x21100010) C0 hE ffX11_51 mw_841 hP 0 rfl ox_51 dX11_act_56 ?_
  refine lv_iload hx hb dX11_act_59 (lv_at hl 5 rfl) ?_
  refine r_iastX hx hb hK hP hD hS 5 rfl (in_ti rfl (by omega) (by omega)) dX11_act_61 (fun f21100016 ef21100016 H locs hP hD hS => ?_)
  have hP : va_P D vwCl [(a, .inr (11, OX z i1 i2 i3 i4 i5 i6 i7 i8 i30 i43 i45 i46 i47 i48 i49 i50 x21100010 i58 i59 i65 i68 i69 i72 i78 i80 i81 i82 i87 i92 i96 i100 i103 i104)), ((z 52), .inl (T 0, 121, .inl f21100011)), ((z 53), .inl (T 0, 121, .inl f21100012)), ((z 54), .inl (T 0, 121, .inl f21100014)), ((z 55), .inl (T 0, 121, .inl f21100015)), ((z 56), .inl (T 0, 121, .inl f21100016)), ((z 57), .inl (T 0, 121, .inl g57))] H := hP
  have hD : va_D A [(a, .inr (11, OX z i1 i2 i3 i4 i5 i6 i7 i8 i30 i43 i45 i46 i47 i48 i49 i50 x21100010 i58 i59 i65 i68 i69 i72 i78 i80 i81 i82 i87 i92 i96 i100 i103 i104)), ((z 52), .inl (T 0, 121, .inl f21100011)), ((z 53), .inl (T 0, 121, .inl f21100012)), ((z 54), .inl (T 0, 121, .inl f21100014)), ((z 55), .inl (T 0, 121, .inl f21100015)), ((z 56), .inl (T 0, 121, .inl f21100016)), ((z 57), .inl (T 0, 121, .inl g57))] := hD
  refine lv_aload_n hx hb dX11_act_62 rfl (lv_at hl 0 rfl) ?_
  refine r_get (v := .ref (z 57)) C0 hE ffX11_57 mw_847 hP 0 rfl ox_57 dX11_act_63 ?_
  refine lv_aload_n hx hb dX11_act_66 rfl (lv_at hl 0 rfl) ?_
  refine r_get (v := .int x21100010) C0 hE ffX11_51 mw_841 hP 0 rfl ox_51 dX11_act_67 ?_
  refine lv_iconst (v := 0) hx hb dX11_act_70 (by decide) ?_
  refine r_iastX hx hb hK hP hD hS 6 rfl (in_ti rfl (by omega) (by omega)) dX11_act_71 (fun f21100017 ef21100017 H locs hP hD hS => ?_)
  have hP : va_P D vwCl [(a, .inr (11, OX z i1 i2 i3 i4 i5 i6 i7 i8 i30 i43 i45 i46 i47 i48 i49 i50 x21100010 i58 i59 i65 i68 i69 i72 i78 i80 i81 i82 i87 i92 i96 i100 i103 i104)), ((z 52), .inl (T 0, 121, .inl f21100011)), ((z 53), .inl (T 0, 121, .inl f21100012)), ((z 54), .inl (T 0, 121, .inl f21100014)), ((z 55), .inl (T 0, 121, .inl f21100015)), ((z 56), .inl (T 0, 121, .inl f21100016)), ((z 57), .inl (T 0, 121, .inl f21100017))] H := hP
  have hD : va_D A [(a, .inr (11, OX z i1 i2 i3 i4 i5 i6 i7 i8 i30 i43 i45 i46 i47 i48 i49 i50 x21100010 i58 i59 i65 i68 i69 i72 i78 i80 i81 i82 i87 i92 i96 i100 i103 i104)), ((z 52), .inl (T 0, 121, .inl f21100011)), ((z 53), .inl (T 0, 121, .inl f21100012)), ((z 54), .inl (T 0, 121, .inl f21100014)), ((z 55), .inl (T 0, 121, .inl f21100015)), ((z 56), .inl (T 0, 121, .inl f21100016)), ((z 57), .inl (T 0, 121, .inl f21100017))] := hD
  refine lv_aload_n hx hb dX11_act_72 rfl (lv_at hl 0 rfl) ?_
  refine r_get (v := .int x21100010) C0 hE ffX11_51 mw_841 hP 0 rfl ox_51 dX11_act_73 ?_
  exact r_iret (x21100010, f21100011, f21100012, f21100014, f21100015, f21100016, f21100017) C0 hr hlocks hS (Nat.le_refl _) (Nat.le_refl _) dX11_act_76 ⟨⟨by omega, by omega⟩, hb21100013, (by rw [ef21100011, ef21100014]; exact HK.upd2 hHK hpre0), ⟨by omega, by omega⟩⟩ (hP.sub (ws' := [(a, .inr (11, OX z i1 i2 i3 i4 i5 i6 i7 i8 i30 i43 i45 i46 i47 i48 i49 i50 x21100010 i58 i59 i65 i68 i69 i72 i78 i80 i81 i82 i87 i92 i96 i100 i103 i104)), ((z 52), .inl (T 0, 121, .inl f21100011)), ((z 53), .inl (T 0, 121, .inl f21100012)), ((z 54), .inl (T 0, 121, .inl f21100014)), ((z 55), .inl (T 0, 121, .inl f21100015)), ((z 56), .inl (T 0, 121, .inl f21100016)), ((z 57), .inl (T 0, 121, .inl f21100017))]) [0, 1, 2, 3, 4, 5, 6] rfl) (hD.sub (ws' := [(a, .inr (11, OX z i1 i2 i3 i4 i5 i6 i7 i8 i30 i43 i45 i46 i47 i48 i49 i50 x21100010 i58 i59 i65 i68 i69 i72 i78 i80 i81 i82 i87 i92 i96 i100 i103 i104)), ((z 52), .inl (T 0, 121, .inl f21100011)), ((z 53), .inl (T 0, 121, .inl f21100012)), ((z 54), .inl (T 0, 121, .inl f21100014)), ((z 55), .inl (T 0, 121, .inl f21100015)), ((z 56), .inl (T 0, 121, .inl f21100016)), ((z 57), .inl (T 0, 121, .inl f21100017))]) [0, 1, 2, 3, 4, 5, 6] (by decide +kernel) rfl)
set_option maxHeartbeats 4000000 in
set_option maxRecDepth 100000 in
theorem h_X11_hook_21200026 (l : Launch) (D : va_G) (T : Nat → ClassId) (sq sv sz : Nat) (a : Nat) (z : Nat → Nat) (i1 i2 i3 i4 i5 i6 i7 i8 i30 i43 i45 i46 i47 i48 i49 i50 i51 i58 i59 i65 i68 i69 i72 i78 i80 i81 i82 i87 i92 i96 i100 i103 i104 : Int32) (p1 : Int32) (p2 : Int32) (p3 : Int32) (g31 : Nat → Int32) (g52 : Nat → Int32) (g53 : Nat → Int32) (g54 : Nat → Int32) (g55 : Nat → Int32) (g56 : Nat → Int32) (g57 : Nat → Int32) (hi49 : 1 ≤ i49.toInt ∧ i49.toInt ≤ 8) (hi50 : 1 ≤ i50.toInt ∧ i50.toInt ≤ 8) (hi51 : 0 ≤ i51.toInt ∧ i51.toInt ≤ 120) (hbg31 : Bd (0) (8) g31) (hbg53 : Bd (0) (63) g53) (hHK : HK g52 g54) : Met l yX11_hook (.code yX11_hook cX11_hook 4 (some .int) :: TB) { frames := 2, cells := 0, slots := 0, locals := 46 } (PC2 D T sq sv [.ref a, .int p1, .int p2, .int p3] [(a, .inr (11, OX z i1 i2 i3 i4 i5 i6 i7 i8 i30 i43 i45 i46 i47 i48 i49 i50 i51 i58 i59 i65 i68 i69 i72 i78 i80 i81 i82 i87 i92 i96 i100 i103 i104)), ((z 31), .inl (T 0, 2, .inl g31)), ((z 52), .inl (T 0, 121, .inl g52)), ((z 53), .inl (T 0, 121, .inl g53)), ((z 54), .inl (T 0, 121, .inl g54)), ((z 55), .inl (T 0, 121, .inl g55)), ((z 56), .inl (T 0, 121, .inl g56)), ((z 57), .inl (T 0, 121, .inl g57))] sz) (Qi (S := Int32 × (Nat → Int32) × (Nat → Int32) × (Nat → Int32) × (Nat → Int32) × (Nat → Int32) × (Nat → Int32)) (fun (r : Int32) (u : Int32 × (Nat → Int32) × (Nat → Int32) × (Nat → Int32) × (Nat → Int32) × (Nat → Int32) × (Nat → Int32)) => match u with | (ui51, ug52, ug53, ug54, ug55, ug56, ug57) => (0 ≤ ui51.toInt ∧ ui51.toInt ≤ 120) ∧ Bd (0) (63) ug53 ∧ (HK ug52 ug54) ∧ (-1 ≤ r.toInt ∧ r.toInt ≤ 120)) (fun (u : Int32 × (Nat → Int32) × (Nat → Int32) × (Nat → Int32) × (Nat → Int32) × (Nat → Int32) × (Nat → Int32)) => match u with | (ui51, ug52, ug53, ug54, ug55, ug56, ug57) => [(a, .inr (11, OX z i1 i2 i3 i4 i5 i6 i7 i8 i30 i43 i45 i46 i47 i48 i49 i50 ui51 i58 i59 i65 i68 i69 i72 i78 i80 i81 i82 i87 i92 i96 i100 i103 i104)), ((z 31), .inl (T 0, 2, .inl g31)), ((z 52), .inl (T 0, 121, .inl ug52)), ((z 53), .inl (T 0, 121, .inl ug53)), ((z 54), .inl (T 0, 121, .inl ug54)), ((z 55), .inl (T 0, 121, .inl ug55)), ((z 56), .inl (T 0, 121, .inl ug56)), ((z 57), .inl (T 0, 121, .inl ug57))]) D (va_A [(a, .inr (11, OX z i1 i2 i3 i4 i5 i6 i7 i8 i30 i43 i45 i46 i47 i48 i49 i50 i51 i58 i59 i65 i68 i69 i72 i78 i80 i81 i82 i87 i92 i96 i100 i103 i104)), ((z 31), .inl (T 0, 2, .inl g31)), ((z 52), .inl (T 0, 121, .inl g52)), ((z 53), .inl (T 0, 121, .inl g53)), ((z 54), .inl (T 0, 121, .inl g54)), ((z 55), .inl (T 0, 121, .inl g55)), ((z 56), .inl (T 0, 121, .inl g56)), ((z 57), .inl (T 0, 121, .inl g57))] sz)) 0 0 (va_A [(a, .inr (11, OX z i1 i2 i3 i4 i5 i6 i7 i8 i30 i43 i45 i46 i47 i48 i49 i50 i51 i58 i59 i65 i68 i69 i72 i78 i80 i81 i82 i87 i92 i96 i100 i103 i104)), ((z 31), .inl (T 0, 2, .inl g31)), ((z 52), .inl (T 0, 121, .inl g52)), ((z 53), .inl (T 0, 121, .inl g53)), ((z 54), .inl (T 0, 121, .inl g54)), ((z 55), .inl (T 0, 121, .inl g55)), ((z 56), .inl (T 0, 121, .inl g56)), ((z 57), .inl (T 0, 121, .inl g57))] sz) := by
  refine ct_begin2 (Qc := Qi (S := Int32 × (Nat → Int32) × (Nat → Int32) × (Nat → Int32) × (Nat → Int32) × (Nat → Int32) × (Nat → Int32)) (fun (r : Int32) (u : Int32 × (Nat → Int32) × (Nat → Int32) × (Nat → Int32) × (Nat → Int32) × (Nat → Int32) × (Nat → Int32)) => match u with | (ui51, ug52, ug53, ug54, ug55, ug56, ug57) => (0 ≤ ui51.toInt ∧ ui51.toInt ≤ 120) ∧ Bd (0) (63) ug53 ∧ (HK ug52 ug54) ∧ (-1 ≤ r.toInt ∧ r.toInt ≤ 120)) (fun (u : Int32 × (Nat → Int32) × (Nat → Int32) × (Nat → Int32) × (Nat → Int32) × (Nat → Int32) × (Nat → Int32)) => match u with | (ui51, ug52, ug53, ug54, ug55, ug56, ug57) => [(a, .inr (11, OX z i1 i2 i3 i4 i5 i6 i7 i8 i30 i43 i45 i46 i47 i48 i49 i50 ui51 i58 i59 i65 i68 i69 i72 i78 i80 i81 i82 i87 i92 i96 i100 i103 i104)), ((z 31), .inl (T 0, 2, .inl g31)), ((z 52), .inl (T 0, 121, .inl ug52)), ((z 53), .inl (T 0, 121, .inl ug53)), ((z 54), .inl (T 0, 121, .inl ug54)), ((z 55), .inl (T 0, 121, .inl ug55)), ((z 56), .inl (T 0, 121, .inl ug56)), ((z 57), .inl (T 0, 121, .inl ug57))]) D) (by decide +kernel) (Nat.le_of_ble_eq_true rfl) ?_
  intro p e s m below meth c A ls C0 hr hlocks hnm hE hStr hA hP hD hl
  generalize ([.ref a, .int p1, .int p2, .int p3] : List Value).toArray = args at C0 ⊢
  have hx := C0.1
  have hb := C0.2.1
  have hml := C0.2.2.1
  have hown := C0.2.2.2.1
  have hT := C0.2.2.2.2
  have hK := hE.1
  generalize hH : s.heap = H at hP ⊢
  have hS : va_S A s.heap H [] := by rw [← hH]; exact va_S.rf
  have hP : va_P D vwCl [(a, .inr (11, OX z i1 i2 i3 i4 i5 i6 i7 i8 i30 i43 i45 i46 i47 i48 i49 i50 i51 i58 i59 i65 i68 i69 i72 i78 i80 i81 i82 i87 i92 i96 i100 i103 i104)), ((z 31), .inl (T 0, 2, .inl g31)), ((z 52), .inl (T 0, 121, .inl g52)), ((z 53), .inl (T 0, 121, .inl g53)), ((z 54), .inl (T 0, 121, .inl g54)), ((z 55), .inl (T 0, 121, .inl g55)), ((z 56), .inl (T 0, 121, .inl g56)), ((z 57), .inl (T 0, 121, .inl g57))] H := hP
  have hD : va_D A [(a, .inr (11, OX z i1 i2 i3 i4 i5 i6 i7 i8 i30 i43 i45 i46 i47 i48 i49 i50 i51 i58 i59 i65 i68 i69 i72 i78 i80 i81 i82 i87 i92 i96 i100 i103 i104)), ((z 31), .inl (T 0, 2, .inl g31)), ((z 52), .inl (T 0, 121, .inl g52)), ((z 53), .inl (T 0, 121, .inl g53)), ((z 54), .inl (T 0, 121, .inl g54)), ((z 55), .inl (T 0, 121, .inl g55)), ((z 56), .inl (T 0, 121, .inl g56)), ((z 57), .inl (T 0, 121, .inl g57))] := hD
  have hl : lv_has ls 4 [(0, .ref a), (1, .int p1), (2, .int p2), (3, .int p3)] := hl
  refine lv_aload_n hx hb dX11_hook_0 rfl (lv_at hl 0 rfl) ?_
  refine lv_iload_n hx hb dX11_hook_1 rfl (lv_at hl 1 rfl) ?_
  refine r_calli (wr := [((z 31), .inl (T 0, 2, .inl g31)), ((z 52), .inl (T 0, 121, .inl g52)), ((z 53), .inl (T 0, 121, .inl g53)), ((z 54), .inl (T 0, 121, .inl g54)), ((z 55), .inl (T 0, 121, .inl g55)), ((z 56), .inl (T 0, 121, .inl g56)), ((z 57), .inl (T 0, 121, .inl g57))]) (r_runV2 (As := [.int p1]) (rest := []) (wc := [(a, .inr (11, OX z i1 i2 i3 i4 i5 i6 i7 i8 i30 i43 i45 i46 i47 i48 i49 i50 i51 i58 i59 i65 i68 i69 i72 i78 i80 i81 i82 i87 i92 i96 i100 i103 i104))]) (ci := 11) C0 hE hStr hS (va_free (wc := [(a, .inr (11, OX z i1 i2 i3 i4 i5 i6 i7 i8 i30 i43 i45 i46 i47 i48 i49 i50 i51 i58 i59 i65 i68 i69 i72 i78 i80 i81 i82 i87 i92 i96 i100 i103 i104))]) hD hS hA [0] rfl) (h_X11_isCell_20900007 l D T sq sv H.size a z i1 i2 i3 i4 i5 i6 i7 i8 i30 i43 i45 i46 i47 i48 i49 i50 i51 i58 i59 i65 i68 i69 i72 i78 i80 i81 i82 i87 i92 i96 i100 i103 i104 p1 ⟨by omega, by omega⟩ ⟨by omega, by omega⟩) mw_1023 mw_1024 mw_1327 mw_14 mw_1025 dn_1743 rfl rfl ⟨Nat.le_of_ble_eq_true rfl, Nat.le_of_ble_eq_true rfl⟩ (hP.sub (ws' := [(a, .inr (11, OX z i1 i2 i3 i4 i5 i6 i7 i8 i30 i43 i45 i46 i47 i48 i49 i50 i51 i58 i59 i65 i68 i69 i72 i78 i80 i81 i82 i87 i92 i96 i100 i103 i104))]) [0] rfl) (hD.sub (ws' := [(a, .inr (11, OX z i1 i2 i3 i4 i5 i6 i7 i8 i30 i43 i45 i46 i47 i48 i49 i50 i51 i58 i59 i65 i68 i69 i72 i78 i80 i81 i82 i87 i92 i96 i100 i103 i104))]) [0] (by decide +kernel) rfl) rfl rfl rfl hl.1 rfl (Nat.le_of_ble_eq_true rfl) dX11_hook_2 ⟨Nat.le_of_ble_eq_true rfl, Nat.le_of_ble_eq_true rfl⟩) hP hD hS hA [0] [1, 2, 3, 4, 5, 6, 7] rfl rfl (by decide +kernel) (by decide +kernel) (fun x21200027 u H locs hq hP hD hS => ?_)
  obtain ⟨hp21200028, hx21200027⟩ := hq
  have hp21200028 : x21200027.toInt = 0 ∨ (0 ≤ p1.toInt ∧ p1.toInt ≤ 63) := hp21200028
  have hx21200027 : 0 ≤ x21200027.toInt ∧ x21200027.toInt ≤ 1 := hx21200027
  have hP : va_P D vwCl [((z 31), .inl (T 0, 2, .inl g31)), ((z 52), .inl (T 0, 121, .inl g52)), ((z 53), .inl (T 0, 121, .inl g53)), ((z 54), .inl (T 0, 121, .inl g54)), ((z 55), .inl (T 0, 121, .inl g55)), ((z 56), .inl (T 0, 121, .inl g56)), ((z 57), .inl (T 0, 121, .inl g57)), (a, .inr (11, OX z i1 i2 i3 i4 i5 i6 i7 i8 i30 i43 i45 i46 i47 i48 i49 i50 i51 i58 i59 i65 i68 i69 i72 i78 i80 i81 i82 i87 i92 i96 i100 i103 i104))] H := hP
  have hD : va_D A [((z 31), .inl (T 0, 2, .inl g31)), ((z 52), .inl (T 0, 121, .inl g52)), ((z 53), .inl (T 0, 121, .inl g53)), ((z 54), .inl (T 0, 121, .inl g54)), ((z 55), .inl (T 0, 121, .inl g55)), ((z 56), .inl (T 0, 121, .inl g56)), ((z 57), .inl (T 0, 121, .inl g57)), (a, .inr (11, OX z i1 i2 i3 i4 i5 i6 i7 i8 i30 i43 i45 i46 i47 i48 i49 i50 i51 i58 i59 i65 i68 i69 i72 i78 i80 i81 i82 i87 i92 i96 i100 i103 i104))] := hD
  refine W.widen (k := 0) (n := 0) (Nat.le_refl _) (Nat.le_refl _) ?_
  refine lv_if_eq (tgt := 59) hx hb dX11_hook_5 (by decide) (fun c21200029 => ?_) (fun c21200029 => ?_)
  · skip
    have kc21200029 : x21200027.toInt = 0 := eq_ti rfl (by decide) c21200029
    refine lv_iconst (v := (-1)) hx hb dX11_hook_59 (by decide) ?_
    exact r_iret (i51, g52, g53, g54, g55, g56, g57) C0 hr hlocks hS (Nat.le_refl _) (Nat.le_refl _) dX11_hook_60 ⟨⟨by omega, by omega⟩, hbg53, hHK, ⟨by decide, by decide⟩⟩ (hP.sub (ws' := [(a, .inr (11, OX z i1 i2 i3 i4 i5 i6 i7 i8 i30 i43 i45 i46 i47 i48 i49 i50 i51 i58 i59 i65 i68 i69 i72 i78 i80 i81 i82 i87 i92 i96 i100 i103 i104)), ((z 31), .inl (T 0, 2, .inl g31)), ((z 52), .inl (T 0, 121, .inl g52)), ((z 53), .inl (T 0, 121, .inl g53)), ((z 54), .inl (T 0, 121, .inl g54)), ((z 55), .inl (T 0, 121, .inl g55)), ((z 56), .inl (T 0, 121, .inl g56)), ((z 57), .inl (T 0, 121, .inl g57))]) [7, 0, 1, 2, 3, 4, 5, 6] rfl) (hD.sub (ws' := [(a, .inr (11, OX z i1 i2 i3 i4 i5 i6 i7 i8 i30 i43 i45 i46 i47 i48 i49 i50 i51 i58 i59 i65 i68 i69 i72 i78 i80 i81 i82 i87 i92 i96 i100 i103 i104)), ((z 31), .inl (T 0, 2, .inl g31)), ((z 52), .inl (T 0, 121, .inl g52)), ((z 53), .inl (T 0, 121, .inl g53)), ((z 54), .inl (T 0, 121, .inl g54)), ((z 55), .inl (T 0, 121, .inl g55)), ((z 56), .inl (T 0, 121, .inl g56)), ((z 57), .inl (T 0, 121, .inl g57))]) [7, 0, 1, 2, 3, 4, 5, 6] (by decide +kernel) rfl)
  · skip
    have kc21200029 : x21200027.toInt ≠ 0 := ne_ti rfl (by decide) c21200029
    have nzx21200027 : ¬ x21200027 = 0 := c21200029
    refine lv_iload_n hx hb dX11_hook_8 rfl (lv_at hl 2 rfl) ?_
    refine lv_i2l hx hb dX11_hook_9 rfl ?_
    refine lv_topl (fun x21200030 ex21200030 => ?_)
    have hx21200030 : x21200030.toInt = p2.toInt := by rw [ex21200030]; exact Int32.toInt_toInt64 _
    refine lv_lconst (v := 0) hx hb dX11_hook_10 (by decide) ?_
    refine lv_aload_n hx hb dX11_hook_11 rfl (lv_at hl 0 rfl) ?_
    refine r_get (v := .ref (z 31)) C0 hE ffX11_31 mw_821 hP 7 rfl ox_31 dX11_hook_12 ?_
    refine lv_iconst (v := 1) hx hb dX11_hook_15 (by decide) ?_
    refine va_iald hx hb hK hP 0 0 rfl rfl (vp_lit (by decide +kernel)) dX11_hook_16 ?_
    refine lv_topi (fun x21200031 ex21200031 => ?_)
    have hx21200031 : 0 ≤ x21200031.toInt ∧ x21200031.toInt ≤ 8 := by rw [ex21200031]; exact hbg31 _
    refine lv_iconst (v := 1) hx hb dX11_hook_17 (by decide) ?_
    refine lv_isub hx hb dX11_hook_18 ?_
    refine lv_topi (fun x21200032 ex21200032 => ?_)
    have hx21200032 : x21200032.toInt = x21200031.toInt - 1 := ti_sub ex21200032 rfl (by decide) (by omega) (by omega)
    refine lv_i2l hx hb dX11_hook_19 rfl ?_
    refine lv_topl (fun x21200033 ex21200033 => ?_)
    have hx21200033 : x21200033.toInt = x21200032.toInt := by rw [ex21200033]; exact Int32.toInt_toInt64 _
    refine r_calli (wr := [((z 31), .inl (T 0, 2, .inl g31)), ((z 52), .inl (T 0, 121, .inl g52)), ((z 53), .inl (T 0, 121, .inl g53)), ((z 54), .inl (T 0, 121, .inl g54)), ((z 55), .inl (T 0, 121, .inl g55)), ((z 56), .inl (T 0, 121, .inl g56)), ((z 57), .inl (T 0, 121, .inl g57)), (a, .inr (11, OX z i1 i2 i3 i4 i5 i6 i7 i8 i30 i43 i45 i46 i47 i48 i49 i50 i51 i58 i59 i65 i68 i69 i72 i78 i80 i81 i82 i87 i92 i96 i100 i103 i104))]) (r_runS2 (As := [.long x21200030, .long 0, .long x21200033]) (rest := []) (wc := []) C0 hE hStr hS (va_free (wc := []) hD hS hA [] rfl) (h_X11_isIn_20000007 l D T sq sv H.size x21200030 0 x21200033) mw_910 mw_911 mw_14 mw_912 dn_1704 rfl rfl ⟨Nat.le_of_ble_eq_true rfl, Nat.le_of_ble_eq_true rfl⟩ (hP.sub (ws' := []) [] rfl) (hD.sub (ws' := []) [] (by decide +kernel) rfl) hl.1 rfl (Nat.le_of_ble_eq_true rfl) dX11_hook_20 ⟨Nat.le_of_ble_eq_true rfl, Nat.le_of_ble_eq_true rfl⟩) hP hD hS hA [] [0, 1, 2, 3, 4, 5, 6, 7] rfl rfl (by decide +kernel) (by decide +kernel) (fun x21200034 u H locs hq hP hD hS => ?_)
    obtain ⟨hp21200035, hx21200034⟩ := hq
    have hp21200035 : (x21200034.toInt = 0 ∧ (x21200030.toInt < 0 ∨ x21200033.toInt < x21200030.toInt)) ∨ (x21200034.toInt = 1 ∧ 0 ≤ x21200030.toInt ∧ x21200030.toInt ≤ x21200033.toInt) := hp21200035
    have hx21200034 : 0 ≤ x21200034.toInt ∧ x21200034.toInt ≤ 1 := hx21200034
    have hl21200036 : (0 : Int64).toInt = 0 := by decide
    have hP : va_P D vwCl [((z 31), .inl (T 0, 2, .inl g31)), ((z 52), .inl (T 0, 121, .inl g52)), ((z 53), .inl (T 0, 121, .inl g53)), ((z 54), .inl (T 0, 121, .inl g54)), ((z 55), .inl (T 0, 121, .inl g55)), ((z 56), .inl (T 0, 121, .inl g56)), ((z 57), .inl (T 0, 121, .inl g57)), (a, .inr (11, OX z i1 i2 i3 i4 i5 i6 i7 i8 i30 i43 i45 i46 i47 i48 i49 i50 i51 i58 i59 i65 i68 i69 i72 i78 i80 i81 i82 i87 i92 i96 i100 i103 i104))] H := hP
    have hD : va_D A [((z 31), .inl (T 0, 2, .inl g31)), ((z 52), .inl (T 0, 121, .inl g52)), ((z 53), .inl (T 0, 121, .inl g53)), ((z 54), .inl (T 0, 121, .inl g54)), ((z 55), .inl (T 0, 121, .inl g55)), ((z 56), .inl (T 0, 121, .inl g56)), ((z 57), .inl (T 0, 121, .inl g57)), (a, .inr (11, OX z i1 i2 i3 i4 i5 i6 i7 i8 i30 i43 i45 i46 i47 i48 i49 i50 i51 i58 i59 i65 i68 i69 i72 i78 i80 i81 i82 i87 i92 i96 i100 i103 i104))] := hD
    refine W.widen (k := 0) (n := 0) (Nat.le_refl _) (Nat.le_refl _) ?_
    refine lv_if_eq (tgt := 59) hx hb dX11_hook_23 (by decide) (fun c21200037 => ?_) (fun c21200037 => ?_)
    · skip
      have kc21200037 : x21200034.toInt = 0 := eq_ti rfl (by decide) c21200037
      refine lv_iconst (v := (-1)) hx hb dX11_hook_59 (by decide) ?_
      exact r_iret (i51, g52, g53, g54, g55, g56, g57) C0 hr hlocks hS (Nat.le_refl _) (Nat.le_refl _) dX11_hook_60 ⟨⟨by omega, by omega⟩, hbg53, hHK, ⟨by decide, by decide⟩⟩ (hP.sub (ws' := [(a, .inr (11, OX z i1 i2 i3 i4 i5 i6 i7 i8 i30 i43 i45 i46 i47 i48 i49 i50 i51 i58 i59 i65 i68 i69 i72 i78 i80 i81 i82 i87 i92 i96 i100 i103 i104)), ((z 31), .inl (T 0, 2, .inl g31)), ((z 52), .inl (T 0, 121, .inl g52)), ((z 53), .inl (T 0, 121, .inl g53)), ((z 54), .inl (T 0, 121, .inl g54)), ((z 55), .inl (T 0, 121, .inl g55)), ((z 56), .inl (T 0, 121, .inl g56)), ((z 57), .inl (T 0, 121, .inl g57))]) [7, 0, 1, 2, 3, 4, 5, 6] rfl) (hD.sub (ws' := [(a, .inr (11, OX z i1 i2 i3 i4 i5 i6 i7 i8 i30 i43 i45 i46 i47 i48 i49 i50 i51 i58 i59 i65 i68 i69 i72 i78 i80 i81 i82 i87 i92 i96 i100 i103 i104)), ((z 31), .inl (T 0, 2, .inl g31)), ((z 52), .inl (T 0, 121, .inl g52)), ((z 53), .inl (T 0, 121, .inl g53)), ((z 54), .inl (T 0, 121, .inl g54)), ((z 55), .inl (T 0, 121, .inl g55)), ((z 56), .inl (T 0, 121, .inl g56)), ((z 57), .inl (T 0, 121, .inl g57))]) [7, 0, 1, 2, 3, 4, 5, 6] (by decide +kernel) rfl)
    · skip
      have kc21200037 : x21200034.toInt ≠ 0 := ne_ti rfl (by decide) c21200037
      have nzx21200034 : ¬ x21200034 = 0 := c21200037
      refine lv_iload_n hx hb dX11_hook_26 rfl (lv_at hl 3 rfl) ?_
      refine lv_i2l hx hb dX11_hook_27 rfl ?_
      refine lv_topl (fun x21200038 ex21200038 => ?_)
      have hx21200038 : x21200038.toInt = p3.toInt := by rw [ex21200038]; exact Int32.toInt_toInt64 _
      refine lv_lconst (v := 0) hx hb dX11_hook_28 (by decide) ?_
      refine lv_ldc2 hx hb hown (hT _ mw_1029) dX11_hook_29 ?_
      refine r_calli (wr := [((z 31), .inl (T 0, 2, .inl g31)), ((z 52), .inl (T 0, 121, .inl g52)), ((z 53), .inl (T 0, 121, .inl g53)), ((z 54), .inl (T 0, 121, .inl g54)), ((z 55), .inl (T 0, 121, .inl g55)), ((z 56), .inl (T 0, 121, .inl g56)), ((z 57), .inl (T 0, 121, .inl g57)), (a, .inr (11, OX z i1 i2 i3 i4 i5 i6 i7 i8 i30 i43 i45 i46 i47 i48 i49 i50 i51 i58 i59 i65 i68 i69 i72 i78 i80 i81 i82 i87 i92 i96 i100 i103 i104))]) (r_runS2 (As := [.long x21200038, .long 0, .long 99]) (rest := []) (wc := []) C0 hE hStr hS (va_free (wc := []) hD hS hA [] rfl) (h_X11_isIn_20000007 l D T sq sv H.size x21200038 0 99) mw_910 mw_911 mw_14 mw_912 dn_1704 rfl rfl ⟨Nat.le_of_ble_eq_true rfl, Nat.le_of_ble_eq_true rfl⟩ (hP.sub (ws' := []) [] rfl) (hD.sub (ws' := []) [] (by decide +kernel) rfl) hl.1 rfl (Nat.le_of_ble_eq_true rfl) dX11_hook_32 ⟨Nat.le_of_ble_eq_true rfl, Nat.le_of_ble_eq_true rfl⟩) hP hD hS hA [] [0, 1, 2, 3, 4, 5, 6, 7] rfl rfl (by decide +kernel) (by decide +kernel) (fun x21200039 u H locs hq hP hD hS => ?_)
      obtain ⟨hp21200040, hx21200039⟩ := hq
      have hp21200040 : (x21200039.toInt = 0 ∧ (x21200038.toInt < 0 ∨ 99 < x21200038.toInt)) ∨ (x21200039.toInt = 1 ∧ 0 ≤ x21200038.toInt ∧ x21200038.toInt ≤ 99) := hp21200040
      have hx21200039 : 0 ≤ x21200039.toInt ∧ x21200039.toInt ≤ 1 := hx21200039
      have hl21200041 : (0 : Int64).toInt = 0 := by decide
      have hl21200042 : (99 : Int64).toInt = 99 := by decide
      have hP : va_P D vwCl [((z 31), .inl (T 0, 2, .inl g31)), ((z 52), .inl (T 0, 121, .inl g52)), ((z 53), .inl (T 0, 121, .inl g53)), ((z 54), .inl (T 0, 121, .inl g54)), ((z 55), .inl (T 0, 121, .inl g55)), ((z 56), .inl (T 0, 121, .inl g56)), ((z 57), .inl (T 0, 121, .inl g57)), (a, .inr (11, OX z i1 i2 i3 i4 i5 i6 i7 i8 i30 i43 i45 i46 i47 i48 i49 i50 i51 i58 i59 i65 i68 i69 i72 i78 i80 i81 i82 i87 i92 i96 i100 i103 i104))] H := hP
      have hD : va_D A [((z 31), .inl (T 0, 2, .inl g31)), ((z 52), .inl (T 0, 121, .inl g52)), ((z 53), .inl (T 0, 121, .inl g53)), ((z 54), .inl (T 0, 121, .inl g54)), ((z 55), .inl (T 0, 121, .inl g55)), ((z 56), .inl (T 0, 121, .inl g56)), ((z 57), .inl (T 0, 121, .inl g57)), (a, .inr (11, OX z i1 i2 i3 i4 i5 i6 i7 i8 i30 i43 i45 i46 i47 i48 i49 i50 i51 i58 i59 i65 i68 i69 i72 i78 i80 i81 i82 i87 i92 i96 i100 i103 i104))] := hD
      refine W.widen (k := 0) (n := 0) (Nat.le_refl _) (Nat.le_refl _) ?_
      refine lv_if_eq (tgt := 59) hx hb dX11_hook_35 (by decide) (fun c21200043 => ?_) (fun c21200043 => ?_)
      · skip
        have kc21200043 : x21200039.toInt = 0 := eq_ti rfl (by decide) c21200043
        refine lv_iconst (v := (-1)) hx hb dX11_hook_59 (by decide) ?_
        exact r_iret (i51, g52, g53, g54, g55, g56, g57) C0 hr hlocks hS (Nat.le_refl _) (Nat.le_refl _) dX11_hook_60 ⟨⟨by omega, by omega⟩, hbg53, hHK, ⟨by decide, by decide⟩⟩ (hP.sub (ws' := [(a, .inr (11, OX z i1 i2 i3 i4 i5 i6 i7 i8 i30 i43 i45 i46 i47 i48 i49 i50 i51 i58 i59 i65 i68 i69 i72 i78 i80 i81 i82 i87 i92 i96 i100 i103 i104)), ((z 31), .inl (T 0, 2, .inl g31)), ((z 52), .inl (T 0, 121, .inl g52)), ((z 53), .inl (T 0, 121, .inl g53)), ((z 54), .inl (T 0, 121, .inl g54)), ((z 55), .inl (T 0, 121, .inl g55)), ((z 56), .inl (T 0, 121, .inl g56)), ((z 57), .inl (T 0, 121, .inl g57))]) [7, 0, 1, 2, 3, 4, 5, 6] rfl) (hD.sub (ws' := [(a, .inr (11, OX z i1 i2 i3 i4 i5 i6 i7 i8 i30 i43 i45 i46 i47 i48 i49 i50 i51 i58 i59 i65 i68 i69 i72 i78 i80 i81 i82 i87 i92 i96 i100 i103 i104)), ((z 31), .inl (T 0, 2, .inl g31)), ((z 52), .inl (T 0, 121, .inl g52)), ((z 53), .inl (T 0, 121, .inl g53)), ((z 54), .inl (T 0, 121, .inl g54)), ((z 55), .inl (T 0, 121, .inl g55)), ((z 56), .inl (T 0, 121, .inl g56)), ((z 57), .inl (T 0, 121, .inl g57))]) [7, 0, 1, 2, 3, 4, 5, 6] (by decide +kernel) rfl)
      · skip
        have kc21200043 : x21200039.toInt ≠ 0 := ne_ti rfl (by decide) c21200043
        have nzx21200039 : ¬ x21200039 = 0 := c21200043
        refine lv_aload_n hx hb dX11_hook_38 rfl (lv_at hl 0 rfl) ?_
        refine r_get (v := .int i51) C0 hE ffX11_51 mw_841 hP 7 rfl ox_51 dX11_hook_39 ?_
        refine lv_bipush (v := 120) hx hb dX11_hook_42 (by decide) ?_
        refine lv_icmp_ge (tgt := 59) hx hb dX11_hook_44 (by decide) (fun c21200044 => ?_) (fun c21200044 => ?_)
        · skip
          have kc21200044 : 120 ≤ i51.toInt := le_ti (by decide) rfl c21200044
          refine lv_iconst (v := (-1)) hx hb dX11_hook_59 (by decide) ?_
          exact r_iret (i51, g52, g53, g54, g55, g56, g57) C0 hr hlocks hS (Nat.le_refl _) (Nat.le_refl _) dX11_hook_60 ⟨⟨by omega, by omega⟩, hbg53, hHK, ⟨by decide, by decide⟩⟩ (hP.sub (ws' := [(a, .inr (11, OX z i1 i2 i3 i4 i5 i6 i7 i8 i30 i43 i45 i46 i47 i48 i49 i50 i51 i58 i59 i65 i68 i69 i72 i78 i80 i81 i82 i87 i92 i96 i100 i103 i104)), ((z 31), .inl (T 0, 2, .inl g31)), ((z 52), .inl (T 0, 121, .inl g52)), ((z 53), .inl (T 0, 121, .inl g53)), ((z 54), .inl (T 0, 121, .inl g54)), ((z 55), .inl (T 0, 121, .inl g55)), ((z 56), .inl (T 0, 121, .inl g56)), ((z 57), .inl (T 0, 121, .inl g57))]) [7, 0, 1, 2, 3, 4, 5, 6] rfl) (hD.sub (ws' := [(a, .inr (11, OX z i1 i2 i3 i4 i5 i6 i7 i8 i30 i43 i45 i46 i47 i48 i49 i50 i51 i58 i59 i65 i68 i69 i72 i78 i80 i81 i82 i87 i92 i96 i100 i103 i104)), ((z 31), .inl (T 0, 2, .inl g31)), ((z 52), .inl (T 0, 121, .inl g52)), ((z 53), .inl (T 0, 121, .inl g53)), ((z 54), .inl (T 0, 121, .inl g54)), ((z 55), .inl (T 0, 121, .inl g55)), ((z 56), .inl (T 0, 121, .inl g56)), ((z 57), .inl (T 0, 121, .inl g57))]) [7, 0, 1, 2, 3, 4, 5, 6] (by decide +kernel) rfl)
        · skip
          have kc21200044 : i51.toInt < 120 := nle_ti (by decide) rfl c21200044
          refine lv_aload_n hx hb dX11_hook_47 rfl (lv_at hl 0 rfl) ?_
          refine lv_iconst (v := 1) hx hb dX11_hook_48 (by decide) ?_
          refine lv_iload_n hx hb dX11_hook_49 rfl (lv_at hl 1 rfl) ?_
          refine lv_iload_n hx hb dX11_hook_50 rfl (lv_at hl 2 rfl) ?_
          refine lv_iload_n hx hb dX11_hook_51 rfl (lv_at hl 3 rfl) ?_
          refine lv_iconst (v := 0) hx hb dX11_hook_52 (by decide) ?_
          have hl21200045 : (0 : Int32).toInt = 0 := by decide
          have hl21200046 : (1 : Int32).toInt = 1 := by decide
          refine r_calli (wr := [((z 31), .inl (T 0, 2, .inl g31))]) (r_runV2 (As := [.int 1, .int p1, .int p2, .int p3, .int 0]) (rest := []) (wc := [(a, .inr (11, OX z i1 i2 i3 i4 i5 i6 i7 i8 i30 i43 i45 i46 i47 i48 i49 i50 i51 i58 i59 i65 i68 i69 i72 i78 i80 i81 i82 i87 i92 i96 i100 i103 i104)), ((z 52), .inl (T 0, 121, .inl g52)), ((z 53), .inl (T 0, 121, .inl g53)), ((z 54), .inl (T 0, 121, .inl g54)), ((z 55), .inl (T 0, 121, .inl g55)), ((z 56), .inl (T 0, 121, .inl g56)), ((z 57), .inl (T 0, 121, .inl g57))]) (ci := 11) C0 hE hStr hS (va_free (wc := [(a, .inr (11, OX z i1 i2 i3 i4 i5 i6 i7 i8 i30 i43 i45 i46 i47 i48 i49 i50 i51 i58 i59 i65 i68 i69 i72 i78 i80 i81 i82 i87 i92 i96 i100 i103 i104)), ((z 52), .inl (T 0, 121, .inl g52)), ((z 53), .inl (T 0, 121, .inl g53)), ((z 54), .inl (T 0, 121, .inl g54)), ((z 55), .inl (T 0, 121, .inl g55)), ((z 56), .inl (T 0, 121, .inl g56)), ((z 57), .inl (T 0, 121, .inl g57))]) hD hS hA [7, 1, 2, 3, 4, 5, 6] rfl) (h_X11_act_21100009 l D T sq sv H.size a z i1 i2 i3 i4 i5 i6 i7 i8 i30 i43 i45 i46 i47 i48 i49 i50 i51 i58 i59 i65 i68 i69 i72 i78 i80 i81 i82 i87 i92 i96 i100 i103 i104 1 p1 p2 p3 0 g52 g53 g54 g55 g56 g57 ⟨by omega, by omega⟩ ⟨by omega, by omega⟩ hbg53 (by omega) hHK) mw_1030 mw_1031 mw_1329 mw_14 mw_1032 dn_1744 rfl rfl ⟨Nat.le_of_ble_eq_true rfl, Nat.le_of_ble_eq_true rfl⟩ (hP.sub (ws' := [(a, .inr (11, OX z i1 i2 i3 i4 i5 i6 i7 i8 i30 i43 i45 i46 i47 i48 i49 i50 i51 i58 i59 i65 i68 i69 i72 i78 i80 i81 i82 i87 i92 i96 i100 i103 i104)), ((z 52), .inl (T 0, 121, .inl g52)), ((z 53), .inl (T 0, 121, .inl g53)), ((z 54), .inl (T 0, 121, .inl g54)), ((z 55), .inl (T 0, 121, .inl g55)), ((z 56), .inl (T 0, 121, .inl g56)), ((z 57), .inl (T 0, 121, .inl g57))]) [7, 1, 2, 3, 4, 5, 6] rfl) (hD.sub (ws' := [(a, .inr (11, OX z i1 i2 i3 i4 i5 i6 i7 i8 i30 i43 i45 i46 i47 i48 i49 i50 i51 i58 i59 i65 i68 i69 i72 i78 i80 i81 i82 i87 i92 i96 i100 i103 i104)), ((z 52), .inl (T 0, 121, .inl g52)), ((z 53), .inl (T 0, 121, .inl g53)), ((z 54), .inl (T 0, 121, .inl g54)), ((z 55), .inl (T 0, 121, .inl g55)), ((z 56), .inl (T 0, 121, .inl g56)), ((z 57), .inl (T 0, 121, .inl g57))]) [7, 1, 2, 3, 4, 5, 6] (by decide +kernel) rfl) rfl rfl rfl hl.1 rfl (Nat.le_of_ble_eq_true rfl) dX11_hook_53 ⟨Nat.le_of_ble_eq_true rfl, Nat.le_of_ble_eq_true rfl⟩) hP hD hS hA [7, 1, 2, 3, 4, 5, 6] [0] rfl rfl (by decide +kernel) (by decide +kernel) (fun x21200047 u H locs hq hP hD hS => ?_)
          obtain ⟨x21200048, f21200049, f21200050, f21200051, f21200052, f21200053, f21200054⟩ := u
          obtain ⟨hx21200048, hb21200055, hg21200056, hx21200047⟩ := hq
          have hx21200048 : 0 ≤ x21200048.toInt ∧ x21200048.toInt ≤ 120 := hx21200048
          have hb21200055 : Bd (0) (63) f21200050 := hb21200055
          have hg21200056 : HK f21200049 f21200051 := hg21200056
          have hx21200047 : 1 ≤ x21200047.toInt ∧ x21200047.toInt ≤ 120 := hx21200047
          have hP : va_P D vwCl [((z 31), .inl (T 0, 2, .inl g31)), (a, .inr (11, OX z i1 i2 i3 i4 i5 i6 i7 i8 i30 i43 i45 i46 i47 i48 i49 i50 x21200048 i58 i59 i65 i68 i69 i72 i78 i80 i81 i82 i87 i92 i96 i100 i103 i104)), ((z 52), .inl (T 0, 121, .inl f21200049)), ((z 53), .inl (T 0, 121, .inl f21200050)), ((z 54), .inl (T 0, 121, .inl f21200051)), ((z 55), .inl (T 0, 121, .inl f21200052)), ((z 56), .inl (T 0, 121, .inl f21200053)), ((z 57), .inl (T 0, 121, .inl f21200054))] H := hP
          have hD : va_D A [((z 31), .inl (T 0, 2, .inl g31)), (a, .inr (11, OX z i1 i2 i3 i4 i5 i6 i7 i8 i30 i43 i45 i46 i47 i48 i49 i50 x21200048 i58 i59 i65 i68 i69 i72 i78 i80 i81 i82 i87 i92 i96 i100 i103 i104)), ((z 52), .inl (T 0, 121, .inl f21200049)), ((z 53), .inl (T 0, 121, .inl f21200050)), ((z 54), .inl (T 0, 121, .inl f21200051)), ((z 55), .inl (T 0, 121, .inl f21200052)), ((z 56), .inl (T 0, 121, .inl f21200053)), ((z 57), .inl (T 0, 121, .inl f21200054))] := hD
          refine W.widen (k := 0) (n := 0) (Nat.le_refl _) (Nat.le_refl _) ?_
          refine lv_goto (tgt := 60) hx hb dX11_hook_56 (by decide) ?_
          exact r_iret (x21200048, f21200049, f21200050, f21200051, f21200052, f21200053, f21200054) C0 hr hlocks hS (Nat.le_refl _) (Nat.le_refl _) dX11_hook_60 ⟨⟨by omega, by omega⟩, hb21200055, hg21200056, ⟨by omega, by omega⟩⟩ (hP.sub (ws' := [(a, .inr (11, OX z i1 i2 i3 i4 i5 i6 i7 i8 i30 i43 i45 i46 i47 i48 i49 i50 x21200048 i58 i59 i65 i68 i69 i72 i78 i80 i81 i82 i87 i92 i96 i100 i103 i104)), ((z 31), .inl (T 0, 2, .inl g31)), ((z 52), .inl (T 0, 121, .inl f21200049)), ((z 53), .inl (T 0, 121, .inl f21200050)), ((z 54), .inl (T 0, 121, .inl f21200051)), ((z 55), .inl (T 0, 121, .inl f21200052)), ((z 56), .inl (T 0, 121, .inl f21200053)), ((z 57), .inl (T 0, 121, .inl f21200054))]) [1, 0, 2, 3, 4, 5, 6, 7] rfl) (hD.sub (ws' := [(a, .inr (11, OX z i1 i2 i3 i4 i5 i6 i7 i8 i30 i43 i45 i46 i47 i48 i49 i50 x21200048 i58 i59 i65 i68 i69 i72 i78 i80 i81 i82 i87 i92 i96 i100 i103 i104)), ((z 31), .inl (T 0, 2, .inl g31)), ((z 52), .inl (T 0, 121, .inl f21200049)), ((z 53), .inl (T 0, 121, .inl f21200050)), ((z 54), .inl (T 0, 121, .inl f21200051)), ((z 55), .inl (T 0, 121, .inl f21200052)), ((z 56), .inl (T 0, 121, .inl f21200053)), ((z 57), .inl (T 0, 121, .inl f21200054))]) [1, 0, 2, 3, 4, 5, 6, 7] (by decide +kernel) rfl)
