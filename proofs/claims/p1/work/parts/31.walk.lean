set_option maxHeartbeats 4000000 in
set_option maxRecDepth 100000 in
theorem c_X10_load_1353 (l : Launch) (D : va_G) (T : Nat → ClassId) (sz : Nat) (z1 : Nat) (z2 : Int32) (z3 : Nat) (z4 : Nat) (z5 : Nat) (z6 : Nat) (z7 : Nat) (z8 : Nat) (z9 : Nat) (z10 : Nat) (z11 : Nat) (z12 : Nat) (z13 : Nat) (z14 : Nat) (z15 : Nat) (z16 : Nat) (z17 : Nat) : Met l yX10_load (.code yX10_load cX10_load 3 (some .long) :: TB) { frames := 1, cells := 0, slots := 0, locals := 21 } (PC D T [.ref z1, .int z2, .int 0] [(z1, .inr (10, [.ref z3, .ref z4, .ref z5, .ref z6, .ref z7, .ref z8, .ref z9, .ref z10, .ref z11, .ref z12, .ref z13, .int 1, .int (-1), .int 0, .int (-1)])), (z9, .inr (6, [.ref z14, .ref z15, .ref z16, .ref z17, .int 0, .long 0, .int 0]))] sz) (Ql (S := Unit) (fun (r : Int64) (_ : Unit) => r = (-1)) (fun (_ : Unit) => [(z1, .inr (10, [.ref z3, .ref z4, .ref z5, .ref z6, .ref z7, .ref z8, .ref z9, .ref z10, .ref z11, .ref z12, .ref z13, .int 1, .int (-1), .int 0, .int (-1)])), (z9, .inr (6, [.ref z14, .ref z15, .ref z16, .ref z17, .int 0, .long 0, .int 0]))]) D (va_A [(z1, .inr (10, [.ref z3, .ref z4, .ref z5, .ref z6, .ref z7, .ref z8, .ref z9, .ref z10, .ref z11, .ref z12, .ref z13, .int 1, .int (-1), .int 0, .int (-1)])), (z9, .inr (6, [.ref z14, .ref z15, .ref z16, .ref z17, .int 0, .long 0, .int 0]))] sz)) 0 0 (va_A [(z1, .inr (10, [.ref z3, .ref z4, .ref z5, .ref z6, .ref z7, .ref z8, .ref z9, .ref z10, .ref z11, .ref z12, .ref z13, .int 1, .int (-1), .int 0, .int (-1)])), (z9, .inr (6, [.ref z14, .ref z15, .ref z16, .ref z17, .int 0, .long 0, .int 0]))] sz) := by
  refine ct_begin (Qc := Ql (S := Unit) (fun (r : Int64) (_ : Unit) => r = (-1)) (fun (_ : Unit) => [(z1, .inr (10, [.ref z3, .ref z4, .ref z5, .ref z6, .ref z7, .ref z8, .ref z9, .ref z10, .ref z11, .ref z12, .ref z13, .int 1, .int (-1), .int 0, .int (-1)])), (z9, .inr (6, [.ref z14, .ref z15, .ref z16, .ref z17, .int 0, .long 0, .int 0]))]) D) (by decide +kernel) (Nat.le_of_ble_eq_true rfl) ?_
  intro p e s m below meth c A ls C0 hr hlocks hnm hE hA hP hD hS hl
  have hx := C0.1
  have hb := C0.2.1
  have hml := C0.2.2.1
  have hown := C0.2.2.2.1
  have hT := C0.2.2.2.2
  have hK := hE.1
  have hl : lv_has ls 3 [(0, .ref z1), (1, .int z2), (2, .int 0)] := hl
  refine lv_aload_n hx hb dX10_load_0 rfl (lv_at hl 0 rfl) ?_
  refine lv_iload_n hx hb dX10_load_1 rfl (lv_at hl 1 rfl) ?_
  refine r_calli (wr := []) (r_runV (As := [.int z2]) (rest := []) (wc := [(z1, .inr (10, [.ref z3, .ref z4, .ref z5, .ref z6, .ref z7, .ref z8, .ref z9, .ref z10, .ref z11, .ref z12, .ref z13, .int 1, .int (-1), .int 0, .int (-1)])), (z9, .inr (6, [.ref z14, .ref z15, .ref z16, .ref z17, .int 0, .long 0, .int 0]))]) (ci := 10) C0 hE (c_X10_isStep_1347 l D T s.heap.size z1 z2 z3 z4 z5 z6 z7 z8 z9 z10 z11 z12 z13 z14 z15 z16 z17) mw_589 mw_590 mw_591 mw_7 mw_592 dn_588 rfl rfl ⟨Nat.le_of_ble_eq_true rfl, Nat.le_of_ble_eq_true rfl⟩ (hP.sub (ws' := [(z1, .inr (10, [.ref z3, .ref z4, .ref z5, .ref z6, .ref z7, .ref z8, .ref z9, .ref z10, .ref z11, .ref z12, .ref z13, .int 1, .int (-1), .int 0, .int (-1)])), (z9, .inr (6, [.ref z14, .ref z15, .ref z16, .ref z17, .int 0, .long 0, .int 0]))]) [0, 1] rfl) (hD.sub (ws' := [(z1, .inr (10, [.ref z3, .ref z4, .ref z5, .ref z6, .ref z7, .ref z8, .ref z9, .ref z10, .ref z11, .ref z12, .ref z13, .int 1, .int (-1), .int 0, .int (-1)])), (z9, .inr (6, [.ref z14, .ref z15, .ref z16, .ref z17, .int 0, .long 0, .int 0]))]) [0, 1] (by decide +kernel) rfl) rfl rfl rfl hl.1 rfl (Nat.le_of_ble_eq_true rfl) dX10_load_2 ⟨Nat.le_of_ble_eq_true rfl, Nat.le_of_ble_eq_true rfl⟩) hP hD hS hA [0, 1] [] rfl rfl (by decide +kernel) (by decide +kernel) (fun r1352 u H locs hq hP hD hS => ?_)
  have hq : r1352 = 0 := hq
  subst hq
  have hP : va_P D vwCl [(z1, .inr (10, [.ref z3, .ref z4, .ref z5, .ref z6, .ref z7, .ref z8, .ref z9, .ref z10, .ref z11, .ref z12, .ref z13, .int 1, .int (-1), .int 0, .int (-1)])), (z9, .inr (6, [.ref z14, .ref z15, .ref z16, .ref z17, .int 0, .long 0, .int 0]))] H := hP
  have hD : va_D A [(z1, .inr (10, [.ref z3, .ref z4, .ref z5, .ref z6, .ref z7, .ref z8, .ref z9, .ref z10, .ref z11, .ref z12, .ref z13, .int 1, .int (-1), .int 0, .int (-1)])), (z9, .inr (6, [.ref z14, .ref z15, .ref z16, .ref z17, .int 0, .long 0, .int 0]))] := hD
  refine W.widen (k := 0) (n := 0) (Nat.le_of_ble_eq_true rfl) (Nat.le_of_ble_eq_true rfl) ?_
  refine lv_if_ne (tgt := 12) hx hb dX10_load_5 (by decide) (fun hc => absurd (by decide +kernel) hc) (fun _ => ?_)
  refine lv_ldc2 hx hb hown (hT _ mw_571) dX10_load_8 ?_
  exact r_lret () C0 hr hlocks hS (Nat.le_of_ble_eq_true rfl) (Nat.le_of_ble_eq_true rfl) dX10_load_11 rfl hP hD
set_option maxHeartbeats 4000000 in
set_option maxRecDepth 100000 in
theorem c_X10_load_1356 (l : Launch) (D : va_G) (T : Nat → ClassId) (sz : Nat) (z1 : Nat) (z2 : Int32) (z3 : Nat) (z4 : Nat) (z5 : Nat) (z6 : Nat) (z7 : Nat) (z8 : Nat) (z9 : Nat) (z10 : Nat) (z11 : Nat) (z12 : Nat) (z13 : Nat) (z14 : Nat) (z15 : Nat) (z16 : Nat) (z17 : Nat) : Met l yX10_load (.code yX10_load cX10_load 3 (some .long) :: TB) { frames := 1, cells := 0, slots := 0, locals := 21 } (PC D T [.ref z1, .int z2, .int 1] [(z1, .inr (10, [.ref z3, .ref z4, .ref z5, .ref z6, .ref z7, .ref z8, .ref z9, .ref z10, .ref z11, .ref z12, .ref z13, .int 1, .int (-1), .int 0, .int (-1)])), (z9, .inr (6, [.ref z14, .ref z15, .ref z16, .ref z17, .int 0, .long 0, .int 0]))] sz) (Ql (S := Unit) (fun (r : Int64) (_ : Unit) => r = (-1)) (fun (_ : Unit) => [(z1, .inr (10, [.ref z3, .ref z4, .ref z5, .ref z6, .ref z7, .ref z8, .ref z9, .ref z10, .ref z11, .ref z12, .ref z13, .int 1, .int (-1), .int 0, .int (-1)])), (z9, .inr (6, [.ref z14, .ref z15, .ref z16, .ref z17, .int 0, .long 0, .int 0]))]) D (va_A [(z1, .inr (10, [.ref z3, .ref z4, .ref z5, .ref z6, .ref z7, .ref z8, .ref z9, .ref z10, .ref z11, .ref z12, .ref z13, .int 1, .int (-1), .int 0, .int (-1)])), (z9, .inr (6, [.ref z14, .ref z15, .ref z16, .ref z17, .int 0, .long 0, .int 0]))] sz)) 0 0 (va_A [(z1, .inr (10, [.ref z3, .ref z4, .ref z5, .ref z6, .ref z7, .ref z8, .ref z9, .ref z10, .ref z11, .ref z12, .ref z13, .int 1, .int (-1), .int 0, .int (-1)])), (z9, .inr (6, [.ref z14, .ref z15, .ref z16, .ref z17, .int 0, .long 0, .int 0]))] sz) := by
  refine ct_begin (Qc := Ql (S := Unit) (fun (r : Int64) (_ : Unit) => r = (-1)) (fun (_ : Unit) => [(z1, .inr (10, [.ref z3, .ref z4, .ref z5, .ref z6, .ref z7, .ref z8, .ref z9, .ref z10, .ref z11, .ref z12, .ref z13, .int 1, .int (-1), .int 0, .int (-1)])), (z9, .inr (6, [.ref z14, .ref z15, .ref z16, .ref z17, .int 0, .long 0, .int 0]))]) D) (by decide +kernel) (Nat.le_of_ble_eq_true rfl) ?_
  intro p e s m below meth c A ls C0 hr hlocks hnm hE hA hP hD hS hl
  have hx := C0.1
  have hb := C0.2.1
  have hml := C0.2.2.1
  have hown := C0.2.2.2.1
  have hT := C0.2.2.2.2
  have hK := hE.1
  have hl : lv_has ls 3 [(0, .ref z1), (1, .int z2), (2, .int 1)] := hl
  refine lv_aload_n hx hb dX10_load_0 rfl (lv_at hl 0 rfl) ?_
  refine lv_iload_n hx hb dX10_load_1 rfl (lv_at hl 1 rfl) ?_
  refine r_calli (wr := []) (r_runV (As := [.int z2]) (rest := []) (wc := [(z1, .inr (10, [.ref z3, .ref z4, .ref z5, .ref z6, .ref z7, .ref z8, .ref z9, .ref z10, .ref z11, .ref z12, .ref z13, .int 1, .int (-1), .int 0, .int (-1)])), (z9, .inr (6, [.ref z14, .ref z15, .ref z16, .ref z17, .int 0, .long 0, .int 0]))]) (ci := 10) C0 hE (c_X10_isStep_1347 l D T s.heap.size z1 z2 z3 z4 z5 z6 z7 z8 z9 z10 z11 z12 z13 z14 z15 z16 z17) mw_589 mw_590 mw_591 mw_7 mw_592 dn_588 rfl rfl ⟨Nat.le_of_ble_eq_true rfl, Nat.le_of_ble_eq_true rfl⟩ (hP.sub (ws' := [(z1, .inr (10, [.ref z3, .ref z4, .ref z5, .ref z6, .ref z7, .ref z8, .ref z9, .ref z10, .ref z11, .ref z12, .ref z13, .int 1, .int (-1), .int 0, .int (-1)])), (z9, .inr (6, [.ref z14, .ref z15, .ref z16, .ref z17, .int 0, .long 0, .int 0]))]) [0, 1] rfl) (hD.sub (ws' := [(z1, .inr (10, [.ref z3, .ref z4, .ref z5, .ref z6, .ref z7, .ref z8, .ref z9, .ref z10, .ref z11, .ref z12, .ref z13, .int 1, .int (-1), .int 0, .int (-1)])), (z9, .inr (6, [.ref z14, .ref z15, .ref z16, .ref z17, .int 0, .long 0, .int 0]))]) [0, 1] (by decide +kernel) rfl) rfl rfl rfl hl.1 rfl (Nat.le_of_ble_eq_true rfl) dX10_load_2 ⟨Nat.le_of_ble_eq_true rfl, Nat.le_of_ble_eq_true rfl⟩) hP hD hS hA [0, 1] [] rfl rfl (by decide +kernel) (by decide +kernel) (fun r1355 u H locs hq hP hD hS => ?_)
  have hq : r1355 = 0 := hq
  subst hq
  have hP : va_P D vwCl [(z1, .inr (10, [.ref z3, .ref z4, .ref z5, .ref z6, .ref z7, .ref z8, .ref z9, .ref z10, .ref z11, .ref z12, .ref z13, .int 1, .int (-1), .int 0, .int (-1)])), (z9, .inr (6, [.ref z14, .ref z15, .ref z16, .ref z17, .int 0, .long 0, .int 0]))] H := hP
  have hD : va_D A [(z1, .inr (10, [.ref z3, .ref z4, .ref z5, .ref z6, .ref z7, .ref z8, .ref z9, .ref z10, .ref z11, .ref z12, .ref z13, .int 1, .int (-1), .int 0, .int (-1)])), (z9, .inr (6, [.ref z14, .ref z15, .ref z16, .ref z17, .int 0, .long 0, .int 0]))] := hD
  refine W.widen (k := 0) (n := 0) (Nat.le_of_ble_eq_true rfl) (Nat.le_of_ble_eq_true rfl) ?_
  refine lv_if_ne (tgt := 12) hx hb dX10_load_5 (by decide) (fun hc => absurd (by decide +kernel) hc) (fun _ => ?_)
  refine lv_ldc2 hx hb hown (hT _ mw_571) dX10_load_8 ?_
  exact r_lret () C0 hr hlocks hS (Nat.le_of_ble_eq_true rfl) (Nat.le_of_ble_eq_true rfl) dX10_load_11 rfl hP hD
set_option maxHeartbeats 4000000 in
set_option maxRecDepth 100000 in
theorem c_X10_greatest_1357 (l : Launch) (D : va_G) (T : Nat → ClassId) (sz : Nat) (z1 : Nat) (z2 : Nat) (z3 : Nat) (z4 : Nat) (z5 : Nat) (z6 : Nat) (z7 : Nat) (z8 : Nat) (z9 : Nat) (z10 : Nat) (z11 : Nat) (z12 : Nat) (z13 : Nat) (z14 : Nat) (z15 : Nat) (z16 : Nat) : Met l yX10_greatest (.code yX10_greatest cX10_greatest 1 (some .long) :: TB) { frames := 0, cells := 0, slots := 0, locals := 0 } (PC D T [.ref z1] [(z1, .inr (10, [.ref z2, .ref z3, .ref z4, .ref z5, .ref z6, .ref z7, .ref z8, .ref z9, .ref z10, .ref z11, .ref z12, .int 1, .int (-1), .int 0, .int (-1)])), (z8, .inr (6, [.ref z13, .ref z14, .ref z15, .ref z16, .int 0, .long 0, .int 0]))] sz) (Ql (S := Unit) (fun (r : Int64) (_ : Unit) => r = (-1)) (fun (_ : Unit) => [(z1, .inr (10, [.ref z2, .ref z3, .ref z4, .ref z5, .ref z6, .ref z7, .ref z8, .ref z9, .ref z10, .ref z11, .ref z12, .int 1, .int (-1), .int 0, .int (-1)])), (z8, .inr (6, [.ref z13, .ref z14, .ref z15, .ref z16, .int 0, .long 0, .int 0]))]) D (va_A [(z1, .inr (10, [.ref z2, .ref z3, .ref z4, .ref z5, .ref z6, .ref z7, .ref z8, .ref z9, .ref z10, .ref z11, .ref z12, .int 1, .int (-1), .int 0, .int (-1)])), (z8, .inr (6, [.ref z13, .ref z14, .ref z15, .ref z16, .int 0, .long 0, .int 0]))] sz)) 0 0 (va_A [(z1, .inr (10, [.ref z2, .ref z3, .ref z4, .ref z5, .ref z6, .ref z7, .ref z8, .ref z9, .ref z10, .ref z11, .ref z12, .int 1, .int (-1), .int 0, .int (-1)])), (z8, .inr (6, [.ref z13, .ref z14, .ref z15, .ref z16, .int 0, .long 0, .int 0]))] sz) := by
  refine ct_begin (Qc := Ql (S := Unit) (fun (r : Int64) (_ : Unit) => r = (-1)) (fun (_ : Unit) => [(z1, .inr (10, [.ref z2, .ref z3, .ref z4, .ref z5, .ref z6, .ref z7, .ref z8, .ref z9, .ref z10, .ref z11, .ref z12, .int 1, .int (-1), .int 0, .int (-1)])), (z8, .inr (6, [.ref z13, .ref z14, .ref z15, .ref z16, .int 0, .long 0, .int 0]))]) D) (by decide +kernel) (Nat.le_of_ble_eq_true rfl) ?_
  intro p e s m below meth c A ls C0 hr hlocks hnm hE hA hP hD hS hl
  have hx := C0.1
  have hb := C0.2.1
  have hml := C0.2.2.1
  have hown := C0.2.2.2.1
  have hT := C0.2.2.2.2
  have hK := hE.1
  have hl : lv_has ls 1 [(0, .ref z1)] := hl
  refine lv_aload_n hx hb dX10_greatest_0 rfl (lv_at hl 0 rfl) ?_
  refine r_get (v := .ref z8) C0 hE ffX10_6 mw_166 hP 0 rfl rfl dX10_greatest_1 ?_
  refine r_get (v := .int 0) C0 hE ffX6_6 mw_518 hP 1 rfl rfl dX10_greatest_4 ?_
  refine lv_if_eq (tgt := 20) hx hb dX10_greatest_7 (by decide) (fun _ => ?_) (fun hc => absurd (by decide +kernel) hc)
  refine lv_ldc2 hx hb hown (hT _ mw_571) dX10_greatest_20 ?_
  exact r_lret () C0 hr hlocks hS (Nat.le_of_ble_eq_true rfl) (Nat.le_of_ble_eq_true rfl) dX10_greatest_23 rfl hP hD
set_option maxHeartbeats 4000000 in
set_option maxRecDepth 100000 in
theorem c_X10_hung_1358 (l : Launch) (D : va_G) (T : Nat → ClassId) (sz : Nat) (z1 : Nat) (z2 : Int32) (z3 : Nat) (z4 : Nat) (z5 : Nat) (z6 : Nat) (z7 : Nat) (z8 : Nat) (z9 : Nat) (z10 : Nat) (z11 : Nat) (z12 : Nat) (z13 : Nat) (z14 : Nat) (z15 : Nat) (z16 : Nat) (z17 : Nat) : Met l yX10_hung (.code yX10_hung cX10_hung 2 (some .int) :: TB) { frames := 0, cells := 0, slots := 0, locals := 0 } (PC D T [.ref z1, .int z2] [(z1, .inr (10, [.ref z3, .ref z4, .ref z5, .ref z6, .ref z7, .ref z8, .ref z9, .ref z10, .ref z11, .ref z12, .ref z13, .int 1, .int (-1), .int 0, .int (-1)])), (z9, .inr (6, [.ref z14, .ref z15, .ref z16, .ref z17, .int 0, .long 0, .int 0]))] sz) (Qi (S := Unit) (fun (r : Int32) (_ : Unit) => r = (-1)) (fun (_ : Unit) => [(z1, .inr (10, [.ref z3, .ref z4, .ref z5, .ref z6, .ref z7, .ref z8, .ref z9, .ref z10, .ref z11, .ref z12, .ref z13, .int 1, .int (-1), .int 0, .int (-1)])), (z9, .inr (6, [.ref z14, .ref z15, .ref z16, .ref z17, .int 0, .long 0, .int 0]))]) D (va_A [(z1, .inr (10, [.ref z3, .ref z4, .ref z5, .ref z6, .ref z7, .ref z8, .ref z9, .ref z10, .ref z11, .ref z12, .ref z13, .int 1, .int (-1), .int 0, .int (-1)])), (z9, .inr (6, [.ref z14, .ref z15, .ref z16, .ref z17, .int 0, .long 0, .int 0]))] sz)) 0 0 (va_A [(z1, .inr (10, [.ref z3, .ref z4, .ref z5, .ref z6, .ref z7, .ref z8, .ref z9, .ref z10, .ref z11, .ref z12, .ref z13, .int 1, .int (-1), .int 0, .int (-1)])), (z9, .inr (6, [.ref z14, .ref z15, .ref z16, .ref z17, .int 0, .long 0, .int 0]))] sz) := by
  refine ct_begin (Qc := Qi (S := Unit) (fun (r : Int32) (_ : Unit) => r = (-1)) (fun (_ : Unit) => [(z1, .inr (10, [.ref z3, .ref z4, .ref z5, .ref z6, .ref z7, .ref z8, .ref z9, .ref z10, .ref z11, .ref z12, .ref z13, .int 1, .int (-1), .int 0, .int (-1)])), (z9, .inr (6, [.ref z14, .ref z15, .ref z16, .ref z17, .int 0, .long 0, .int 0]))]) D) (by decide +kernel) (Nat.le_of_ble_eq_true rfl) ?_
  intro p e s m below meth c A ls C0 hr hlocks hnm hE hA hP hD hS hl
  have hx := C0.1
  have hb := C0.2.1
  have hml := C0.2.2.1
  have hown := C0.2.2.2.1
  have hT := C0.2.2.2.2
  have hK := hE.1
  have hl : lv_has ls 2 [(0, .ref z1), (1, .int z2)] := hl
  refine lv_aload_n hx hb dX10_hung_0 rfl (lv_at hl 0 rfl) ?_
  refine r_get (v := .ref z9) C0 hE ffX10_6 mw_166 hP 0 rfl rfl dX10_hung_1 ?_
  refine r_get (v := .int 0) C0 hE ffX6_6 mw_518 hP 1 rfl rfl dX10_hung_4 ?_
  refine lv_if_eq (tgt := 31) hx hb dX10_hung_7 (by decide) (fun _ => ?_) (fun hc => absurd (by decide +kernel) hc)
  refine lv_iconst (v := (-1)) hx hb dX10_hung_31 (by decide) ?_
  exact r_iret () C0 hr hlocks hS (Nat.le_of_ble_eq_true rfl) (Nat.le_of_ble_eq_true rfl) dX10_hung_32 rfl hP hD
set_option maxHeartbeats 4000000 in
set_option maxRecDepth 100000 in
theorem c_X10_peel_1359 (l : Launch) (D : va_G) (T : Nat → ClassId) (sz : Nat) (z1 : Nat) (z2 : Int32) (z3 : Nat) (z4 : Nat) (z5 : Nat) (z6 : Nat) (z7 : Nat) (z8 : Nat) (z9 : Nat) (z10 : Nat) (z11 : Nat) (z12 : Nat) (z13 : Nat) (z14 : Nat) (z15 : Nat) (z16 : Nat) (z17 : Nat) : Met l yX10_peel (.code yX10_peel cX10_peel 3 (some .int) :: TB) { frames := 0, cells := 0, slots := 0, locals := 0 } (PC D T [.ref z1, .int 0, .int z2] [(z1, .inr (10, [.ref z3, .ref z4, .ref z5, .ref z6, .ref z7, .ref z8, .ref z9, .ref z10, .ref z11, .ref z12, .ref z13, .int 1, .int (-1), .int 0, .int (-1)])), (z8, .inr (1, [.ref z14, .ref z15, .ref z16, .ref z17, .int 0, .int 1, .int 0, .int 0]))] sz) (Qi (S := Unit) (fun (r : Int32) (_ : Unit) => r = (-1)) (fun (_ : Unit) => [(z1, .inr (10, [.ref z3, .ref z4, .ref z5, .ref z6, .ref z7, .ref z8, .ref z9, .ref z10, .ref z11, .ref z12, .ref z13, .int 1, .int (-1), .int 0, .int (-1)])), (z8, .inr (1, [.ref z14, .ref z15, .ref z16, .ref z17, .int 0, .int 1, .int 0, .int 0]))]) D (va_A [(z1, .inr (10, [.ref z3, .ref z4, .ref z5, .ref z6, .ref z7, .ref z8, .ref z9, .ref z10, .ref z11, .ref z12, .ref z13, .int 1, .int (-1), .int 0, .int (-1)])), (z8, .inr (1, [.ref z14, .ref z15, .ref z16, .ref z17, .int 0, .int 1, .int 0, .int 0]))] sz)) 0 0 (va_A [(z1, .inr (10, [.ref z3, .ref z4, .ref z5, .ref z6, .ref z7, .ref z8, .ref z9, .ref z10, .ref z11, .ref z12, .ref z13, .int 1, .int (-1), .int 0, .int (-1)])), (z8, .inr (1, [.ref z14, .ref z15, .ref z16, .ref z17, .int 0, .int 1, .int 0, .int 0]))] sz) := by
  refine ct_begin (Qc := Qi (S := Unit) (fun (r : Int32) (_ : Unit) => r = (-1)) (fun (_ : Unit) => [(z1, .inr (10, [.ref z3, .ref z4, .ref z5, .ref z6, .ref z7, .ref z8, .ref z9, .ref z10, .ref z11, .ref z12, .ref z13, .int 1, .int (-1), .int 0, .int (-1)])), (z8, .inr (1, [.ref z14, .ref z15, .ref z16, .ref z17, .int 0, .int 1, .int 0, .int 0]))]) D) (by decide +kernel) (Nat.le_of_ble_eq_true rfl) ?_
  intro p e s m below meth c A ls C0 hr hlocks hnm hE hA hP hD hS hl
  have hx := C0.1
  have hb := C0.2.1
  have hml := C0.2.2.1
  have hown := C0.2.2.2.1
  have hT := C0.2.2.2.2
  have hK := hE.1
  have hl : lv_has ls 3 [(0, .ref z1), (1, .int 0), (2, .int z2)] := hl
  refine lv_aload_n hx hb dX10_peel_0 rfl (lv_at hl 0 rfl) ?_
  refine r_get (v := .ref z8) C0 hE ffX10_5 mw_163 hP 0 rfl rfl dX10_peel_1 ?_
  refine r_get (v := .int 0) C0 hE ffX1_7 mw_517 hP 1 rfl rfl dX10_peel_4 ?_
  refine lv_if_eq (tgt := 17) hx hb dX10_peel_7 (by decide) (fun _ => ?_) (fun hc => absurd (by decide +kernel) hc)
  refine lv_iconst (v := (-1)) hx hb dX10_peel_17 (by decide) ?_
  exact r_iret () C0 hr hlocks hS (Nat.le_of_ble_eq_true rfl) (Nat.le_of_ble_eq_true rfl) dX10_peel_18 rfl hP hD
set_option maxHeartbeats 4000000 in
set_option maxRecDepth 100000 in
theorem c_X10_peel_1360 (l : Launch) (D : va_G) (T : Nat → ClassId) (sz : Nat) (z1 : Nat) (z2 : Int32) (z3 : Nat) (z4 : Nat) (z5 : Nat) (z6 : Nat) (z7 : Nat) (z8 : Nat) (z9 : Nat) (z10 : Nat) (z11 : Nat) (z12 : Nat) (z13 : Nat) (z14 : Nat) (z15 : Nat) (z16 : Nat) (z17 : Nat) : Met l yX10_peel (.code yX10_peel cX10_peel 3 (some .int) :: TB) { frames := 0, cells := 0, slots := 0, locals := 0 } (PC D T [.ref z1, .int 1, .int z2] [(z1, .inr (10, [.ref z3, .ref z4, .ref z5, .ref z6, .ref z7, .ref z8, .ref z9, .ref z10, .ref z11, .ref z12, .ref z13, .int 1, .int (-1), .int 0, .int (-1)])), (z8, .inr (1, [.ref z14, .ref z15, .ref z16, .ref z17, .int 0, .int 1, .int 0, .int 0]))] sz) (Qi (S := Unit) (fun (r : Int32) (_ : Unit) => r = (-1)) (fun (_ : Unit) => [(z1, .inr (10, [.ref z3, .ref z4, .ref z5, .ref z6, .ref z7, .ref z8, .ref z9, .ref z10, .ref z11, .ref z12, .ref z13, .int 1, .int (-1), .int 0, .int (-1)])), (z8, .inr (1, [.ref z14, .ref z15, .ref z16, .ref z17, .int 0, .int 1, .int 0, .int 0]))]) D (va_A [(z1, .inr (10, [.ref z3, .ref z4, .ref z5, .ref z6, .ref z7, .ref z8, .ref z9, .ref z10, .ref z11, .ref z12, .ref z13, .int 1, .int (-1), .int 0, .int (-1)])), (z8, .inr (1, [.ref z14, .ref z15, .ref z16, .ref z17, .int 0, .int 1, .int 0, .int 0]))] sz)) 0 0 (va_A [(z1, .inr (10, [.ref z3, .ref z4, .ref z5, .ref z6, .ref z7, .ref z8, .ref z9, .ref z10, .ref z11, .ref z12, .ref z13, .int 1, .int (-1), .int 0, .int (-1)])), (z8, .inr (1, [.ref z14, .ref z15, .ref z16, .ref z17, .int 0, .int 1, .int 0, .int 0]))] sz) := by
  refine ct_begin (Qc := Qi (S := Unit) (fun (r : Int32) (_ : Unit) => r = (-1)) (fun (_ : Unit) => [(z1, .inr (10, [.ref z3, .ref z4, .ref z5, .ref z6, .ref z7, .ref z8, .ref z9, .ref z10, .ref z11, .ref z12, .ref z13, .int 1, .int (-1), .int 0, .int (-1)])), (z8, .inr (1, [.ref z14, .ref z15, .ref z16, .ref z17, .int 0, .int 1, .int 0, .int 0]))]) D) (by decide +kernel) (Nat.le_of_ble_eq_true rfl) ?_
  intro p e s m below meth c A ls C0 hr hlocks hnm hE hA hP hD hS hl
  have hx := C0.1
  have hb := C0.2.1
  have hml := C0.2.2.1
  have hown := C0.2.2.2.1
  have hT := C0.2.2.2.2
  have hK := hE.1
  have hl : lv_has ls 3 [(0, .ref z1), (1, .int 1), (2, .int z2)] := hl
  refine lv_aload_n hx hb dX10_peel_0 rfl (lv_at hl 0 rfl) ?_
  refine r_get (v := .ref z8) C0 hE ffX10_5 mw_163 hP 0 rfl rfl dX10_peel_1 ?_
  refine r_get (v := .int 0) C0 hE ffX1_7 mw_517 hP 1 rfl rfl dX10_peel_4 ?_
  refine lv_if_eq (tgt := 17) hx hb dX10_peel_7 (by decide) (fun _ => ?_) (fun hc => absurd (by decide +kernel) hc)
  refine lv_iconst (v := (-1)) hx hb dX10_peel_17 (by decide) ?_
  exact r_iret () C0 hr hlocks hS (Nat.le_of_ble_eq_true rfl) (Nat.le_of_ble_eq_true rfl) dX10_peel_18 rfl hP hD
set_option maxHeartbeats 4000000 in
set_option maxRecDepth 100000 in
theorem c_X10_front_1361 (l : Launch) (D : va_G) (T : Nat → ClassId) (sz : Nat) (z1 : Nat) (z2 : Int32) (z3 : Int32) (z4 : Nat) (z5 : Nat) (z6 : Nat) (z7 : Nat) (z8 : Nat) (z9 : Nat) (z10 : Nat) (z11 : Nat) (z12 : Nat) (z13 : Nat) (z14 : Nat) (z15 : Nat) (z16 : Nat) (z17 : Nat) (z18 : Nat) (z19 : Nat) : Met l yX10_front (.code yX10_front cX10_front 3 (some .int) :: TB) { frames := 0, cells := 0, slots := 0, locals := 0 } (PC D T [.ref z1, .int z2, .int z3] [(z1, .inr (10, [.ref z4, .ref z5, .ref z6, .ref z7, .ref z8, .ref z9, .ref z10, .ref z11, .ref z12, .ref z13, .ref z14, .int 1, .int (-1), .int 0, .int (-1)])), (z11, .inr (5, [.ref z15, .ref z16, .ref z17, .ref z18, .ref z19, .int 0, .long 0, .int 0]))] sz) (Qi (S := Unit) (fun (r : Int32) (_ : Unit) => r = (-1)) (fun (_ : Unit) => [(z1, .inr (10, [.ref z4, .ref z5, .ref z6, .ref z7, .ref z8, .ref z9, .ref z10, .ref z11, .ref z12, .ref z13, .ref z14, .int 1, .int (-1), .int 0, .int (-1)])), (z11, .inr (5, [.ref z15, .ref z16, .ref z17, .ref z18, .ref z19, .int 0, .long 0, .int 0]))]) D (va_A [(z1, .inr (10, [.ref z4, .ref z5, .ref z6, .ref z7, .ref z8, .ref z9, .ref z10, .ref z11, .ref z12, .ref z13, .ref z14, .int 1, .int (-1), .int 0, .int (-1)])), (z11, .inr (5, [.ref z15, .ref z16, .ref z17, .ref z18, .ref z19, .int 0, .long 0, .int 0]))] sz)) 0 0 (va_A [(z1, .inr (10, [.ref z4, .ref z5, .ref z6, .ref z7, .ref z8, .ref z9, .ref z10, .ref z11, .ref z12, .ref z13, .ref z14, .int 1, .int (-1), .int 0, .int (-1)])), (z11, .inr (5, [.ref z15, .ref z16, .ref z17, .ref z18, .ref z19, .int 0, .long 0, .int 0]))] sz) := by
  refine ct_begin (Qc := Qi (S := Unit) (fun (r : Int32) (_ : Unit) => r = (-1)) (fun (_ : Unit) => [(z1, .inr (10, [.ref z4, .ref z5, .ref z6, .ref z7, .ref z8, .ref z9, .ref z10, .ref z11, .ref z12, .ref z13, .ref z14, .int 1, .int (-1), .int 0, .int (-1)])), (z11, .inr (5, [.ref z15, .ref z16, .ref z17, .ref z18, .ref z19, .int 0, .long 0, .int 0]))]) D) (by decide +kernel) (Nat.le_of_ble_eq_true rfl) ?_
  intro p e s m below meth c A ls C0 hr hlocks hnm hE hA hP hD hS hl
  have hx := C0.1
  have hb := C0.2.1
  have hml := C0.2.2.1
  have hown := C0.2.2.2.1
  have hT := C0.2.2.2.2
  have hK := hE.1
  have hl : lv_has ls 3 [(0, .ref z1), (1, .int z2), (2, .int z3)] := hl
  refine lv_aload_n hx hb dX10_front_0 rfl (lv_at hl 0 rfl) ?_
  refine r_get (v := .ref z11) C0 hE ffX10_7 mw_191 hP 0 rfl rfl dX10_front_1 ?_
  refine r_get (v := .int 0) C0 hE ffX5_7 mw_519 hP 1 rfl rfl dX10_front_4 ?_
  refine lv_if_eq (tgt := 27) hx hb dX10_front_7 (by decide) (fun _ => ?_) (fun hc => absurd (by decide +kernel) hc)
  refine lv_iconst (v := (-1)) hx hb dX10_front_27 (by decide) ?_
  exact r_iret () C0 hr hlocks hS (Nat.le_of_ble_eq_true rfl) (Nat.le_of_ble_eq_true rfl) dX10_front_28 rfl hP hD
set_option maxHeartbeats 4000000 in
set_option maxRecDepth 100000 in
theorem c_X10_work_1362 (l : Launch) (D : va_G) (T : Nat → ClassId) (sz : Nat) (z1 : Nat) (z2 : Nat) (z3 : Nat) (z4 : Nat) (z5 : Nat) (z6 : Nat) (z7 : Nat) (z8 : Nat) (z9 : Nat) (z10 : Nat) (z11 : Nat) (z12 : Nat) (z13 : Nat) (z14 : Nat) (z15 : Nat) (z16 : Nat) (z17 : Nat) : Met l yX10_work (.code yX10_work cX10_work 1 (some .long) :: TB) { frames := 0, cells := 0, slots := 0, locals := 0 } (PC D T [.ref z1] [(z1, .inr (10, [.ref z2, .ref z3, .ref z4, .ref z5, .ref z6, .ref z7, .ref z8, .ref z9, .ref z10, .ref z11, .ref z12, .int 1, .int (-1), .int 0, .int (-1)])), (z9, .inr (5, [.ref z13, .ref z14, .ref z15, .ref z16, .ref z17, .int 0, .long 0, .int 0]))] sz) (Ql (S := Unit) (fun (r : Int64) (_ : Unit) => r = (-1)) (fun (_ : Unit) => [(z1, .inr (10, [.ref z2, .ref z3, .ref z4, .ref z5, .ref z6, .ref z7, .ref z8, .ref z9, .ref z10, .ref z11, .ref z12, .int 1, .int (-1), .int 0, .int (-1)])), (z9, .inr (5, [.ref z13, .ref z14, .ref z15, .ref z16, .ref z17, .int 0, .long 0, .int 0]))]) D (va_A [(z1, .inr (10, [.ref z2, .ref z3, .ref z4, .ref z5, .ref z6, .ref z7, .ref z8, .ref z9, .ref z10, .ref z11, .ref z12, .int 1, .int (-1), .int 0, .int (-1)])), (z9, .inr (5, [.ref z13, .ref z14, .ref z15, .ref z16, .ref z17, .int 0, .long 0, .int 0]))] sz)) 0 0 (va_A [(z1, .inr (10, [.ref z2, .ref z3, .ref z4, .ref z5, .ref z6, .ref z7, .ref z8, .ref z9, .ref z10, .ref z11, .ref z12, .int 1, .int (-1), .int 0, .int (-1)])), (z9, .inr (5, [.ref z13, .ref z14, .ref z15, .ref z16, .ref z17, .int 0, .long 0, .int 0]))] sz) := by
  refine ct_begin (Qc := Ql (S := Unit) (fun (r : Int64) (_ : Unit) => r = (-1)) (fun (_ : Unit) => [(z1, .inr (10, [.ref z2, .ref z3, .ref z4, .ref z5, .ref z6, .ref z7, .ref z8, .ref z9, .ref z10, .ref z11, .ref z12, .int 1, .int (-1), .int 0, .int (-1)])), (z9, .inr (5, [.ref z13, .ref z14, .ref z15, .ref z16, .ref z17, .int 0, .long 0, .int 0]))]) D) (by decide +kernel) (Nat.le_of_ble_eq_true rfl) ?_
  intro p e s m below meth c A ls C0 hr hlocks hnm hE hA hP hD hS hl
  have hx := C0.1
  have hb := C0.2.1
  have hml := C0.2.2.1
  have hown := C0.2.2.2.1
  have hT := C0.2.2.2.2
  have hK := hE.1
  have hl : lv_has ls 1 [(0, .ref z1)] := hl
  refine lv_aload_n hx hb dX10_work_0 rfl (lv_at hl 0 rfl) ?_
  refine r_get (v := .ref z9) C0 hE ffX10_7 mw_191 hP 0 rfl rfl dX10_work_1 ?_
  refine r_get (v := .int 0) C0 hE ffX5_7 mw_519 hP 1 rfl rfl dX10_work_4 ?_
  refine lv_if_eq (tgt := 20) hx hb dX10_work_7 (by decide) (fun _ => ?_) (fun hc => absurd (by decide +kernel) hc)
  refine lv_ldc2 hx hb hown (hT _ mw_571) dX10_work_20 ?_
  exact r_lret () C0 hr hlocks hS (Nat.le_of_ble_eq_true rfl) (Nat.le_of_ble_eq_true rfl) dX10_work_23 rfl hP hD
set_option maxHeartbeats 4000000 in
set_option maxRecDepth 100000 in
theorem c_X10_within_1371 (l : Launch) (D : va_G) (T : Nat → ClassId) (sz : Nat) (z1 : Int32) : Met l yX10_within (.code yX10_within cX10_within 3 (some .boolean) :: TB) { frames := 0, cells := 0, slots := 0, locals := 0 } (PC D T [.int z1, .int 1, .int 999] [] sz) (Qi (S := Unit) (fun (r : Int32) (_ : Unit) => r = (bi (wi z1 1 999))) (fun (_ : Unit) => []) D (va_A [] sz)) 0 0 (va_A [] sz) := by
  refine ct_begin (Qc := Qi (S := Unit) (fun (r : Int32) (_ : Unit) => r = (bi (wi z1 1 999))) (fun (_ : Unit) => []) D) (by decide +kernel) (Nat.le_of_ble_eq_true rfl) ?_
  intro p e s m below meth c A ls C0 hr hlocks hnm hE hA hP hD hS hl
  have hx := C0.1
  have hb := C0.2.1
  have hml := C0.2.2.1
  have hown := C0.2.2.2.1
  have hT := C0.2.2.2.2
  have hK := hE.1
  have hl : lv_has ls 3 [(0, .int z1), (1, .int 1), (2, .int 999)] := hl
  refine lv_iload_n hx hb dX10_within_0 rfl (lv_at hl 0 rfl) ?_
  refine lv_iload_n hx hb dX10_within_1 rfl (lv_at hl 1 rfl) ?_
  refine lv_icmp_lt (tgt := 14) hx hb dX10_within_2 (by decide) (fun c_1369 => ?_) (fun c_1369 => ?_)
  · skip
    refine lv_iconst (v := 0) hx hb dX10_within_14 (by decide) ?_
    exact r_zret () C0 hr (by decide +kernel) hlocks hS (Nat.le_of_ble_eq_true rfl) (Nat.le_of_ble_eq_true rfl) dX10_within_15 (wi_a c_1369) P_nil D_nil
  · skip
    refine lv_iload_n hx hb dX10_within_5 rfl (lv_at hl 0 rfl) ?_
    refine lv_iload_n hx hb dX10_within_6 rfl (lv_at hl 2 rfl) ?_
    refine lv_icmp_gt (tgt := 14) hx hb dX10_within_7 (by decide) (fun c_1370 => ?_) (fun c_1370 => ?_)
    · skip
      refine lv_iconst (v := 0) hx hb dX10_within_14 (by decide) ?_
      exact r_zret () C0 hr (by decide +kernel) hlocks hS (Nat.le_of_ble_eq_true rfl) (Nat.le_of_ble_eq_true rfl) dX10_within_15 (wi_b c_1370) P_nil D_nil
    · skip
      refine lv_iconst (v := 1) hx hb dX10_within_10 (by decide) ?_
      refine lv_goto (tgt := 15) hx hb dX10_within_11 (by decide) ?_
      exact r_zret () C0 hr (by decide +kernel) hlocks hS (Nat.le_of_ble_eq_true rfl) (Nat.le_of_ble_eq_true rfl) dX10_within_15 (wi_c c_1369 c_1370) P_nil D_nil
set_option maxHeartbeats 4000000 in
set_option maxRecDepth 100000 in
theorem c_X4_addPatch_1384 (l : Launch) (D : va_G) (T : Nat → ClassId) (sz : Nat) (z1 : Nat) (z2 : Int32) (z3 : Int32) (z4 : Int32) (z5 : Nat) (z6 : Nat) (z7 : Nat) (z8 : Nat) (z9 : Nat) : Met l yX4_addPatch (.code yX4_addPatch cX4_addPatch 4 (some .int) :: TB) { frames := 0, cells := 0, slots := 0, locals := 0 } (PC D T [.ref z1, .int z2, .int z3, .int z4] [(z1, .inr (4, [.ref z5, .ref z6, .ref z7, .ref z8, .ref z9, .int 0, .int 0, .int 0, .int 0, .int 0, .int 0, .int 0, .int 0, .int 0])), (z5, .inl (T 0, 12, .inl (fun _ => 0))), (z6, .inl (T 0, 12, .inl (fun _ => 0))), (z7, .inl (T 0, 12, .inl (fun _ => 0)))] sz) (Qi (S := (Nat → Int32) × (Nat → Int32) × (Nat → Int32)) (fun (r : Int32) (u : (Nat → Int32) × (Nat → Int32) × (Nat → Int32)) => match u with | (f1381, f1382, f1383) => r = 1) (fun (u : (Nat → Int32) × (Nat → Int32) × (Nat → Int32)) => match u with | (f1381, f1382, f1383) => [(z1, .inr (4, [.ref z5, .ref z6, .ref z7, .ref z8, .ref z9, .int 1, .int 0, .int 0, .int 0, .int 0, .int 0, .int 0, .int 0, .int 0])), (z5, .inl (T 0, 12, .inl f1381)), (z6, .inl (T 0, 12, .inl f1382)), (z7, .inl (T 0, 12, .inl f1383))]) D (va_A [(z1, .inr (4, [.ref z5, .ref z6, .ref z7, .ref z8, .ref z9, .int 0, .int 0, .int 0, .int 0, .int 0, .int 0, .int 0, .int 0, .int 0])), (z5, .inl (T 0, 12, .inl (fun _ => 0))), (z6, .inl (T 0, 12, .inl (fun _ => 0))), (z7, .inl (T 0, 12, .inl (fun _ => 0)))] sz)) 0 0 (va_A [(z1, .inr (4, [.ref z5, .ref z6, .ref z7, .ref z8, .ref z9, .int 0, .int 0, .int 0, .int 0, .int 0, .int 0, .int 0, .int 0, .int 0])), (z5, .inl (T 0, 12, .inl (fun _ => 0))), (z6, .inl (T 0, 12, .inl (fun _ => 0))), (z7, .inl (T 0, 12, .inl (fun _ => 0)))] sz) := by
  refine ct_begin (Qc := Qi (S := (Nat → Int32) × (Nat → Int32) × (Nat → Int32)) (fun (r : Int32) (u : (Nat → Int32) × (Nat → Int32) × (Nat → Int32)) => match u with | (f1381, f1382, f1383) => r = 1) (fun (u : (Nat → Int32) × (Nat → Int32) × (Nat → Int32)) => match u with | (f1381, f1382, f1383) => [(z1, .inr (4, [.ref z5, .ref z6, .ref z7, .ref z8, .ref z9, .int 1, .int 0, .int 0, .int 0, .int 0, .int 0, .int 0, .int 0, .int 0])), (z5, .inl (T 0, 12, .inl f1381)), (z6, .inl (T 0, 12, .inl f1382)), (z7, .inl (T 0, 12, .inl f1383))]) D) (by decide +kernel) (Nat.le_of_ble_eq_true rfl) ?_
  intro p e s m below meth c A ls C0 hr hlocks hnm hE hA hP hD hS hl
  have hx := C0.1
  have hb := C0.2.1
  have hml := C0.2.2.1
  have hown := C0.2.2.2.1
  have hT := C0.2.2.2.2
  have hK := hE.1
  have hl : lv_has ls 4 [(0, .ref z1), (1, .int z2), (2, .int z3), (3, .int z4)] := hl
  refine lv_aload_n hx hb dX4_addPatch_0 rfl (lv_at hl 0 rfl) ?_
  refine r_get (v := .int 0) C0 hE ffX4_5 mw_208 hP 0 rfl rfl dX4_addPatch_1 ?_
  refine lv_bipush (v := 12) hx hb dX4_addPatch_4 (by decide) ?_
  refine lv_icmp_lt (tgt := 11) hx hb dX4_addPatch_6 (by decide) (fun _ => ?_) (fun hc => absurd (by decide +kernel) hc)
  refine lv_aload_n hx hb dX4_addPatch_11 rfl (lv_at hl 0 rfl) ?_
  refine r_get (v := .ref z5) C0 hE ffX4_0 mw_198 hP 0 rfl rfl dX4_addPatch_12 ?_
  refine lv_aload_n hx hb dX4_addPatch_15 rfl (lv_at hl 0 rfl) ?_
  refine r_get (v := .int 0) C0 hE ffX4_5 mw_208 hP 0 rfl rfl dX4_addPatch_16 ?_
  refine lv_iload_n hx hb dX4_addPatch_19 rfl (lv_at hl 1 rfl) ?_
  refine r_iastO hx hb hK hP hD hS 1 rfl (vp_lit (by decide +kernel)) dX4_addPatch_20 (fun f1381 H locs hP hD hS => ?_)
  have hP : va_P D vwCl [(z1, .inr (4, [.ref z5, .ref z6, .ref z7, .ref z8, .ref z9, .int 0, .int 0, .int 0, .int 0, .int 0, .int 0, .int 0, .int 0, .int 0])), (z5, .inl (T 0, 12, .inl f1381)), (z6, .inl (T 0, 12, .inl (fun _ => 0))), (z7, .inl (T 0, 12, .inl (fun _ => 0)))] H := hP
  have hD : va_D A [(z1, .inr (4, [.ref z5, .ref z6, .ref z7, .ref z8, .ref z9, .int 0, .int 0, .int 0, .int 0, .int 0, .int 0, .int 0, .int 0, .int 0])), (z5, .inl (T 0, 12, .inl f1381)), (z6, .inl (T 0, 12, .inl (fun _ => 0))), (z7, .inl (T 0, 12, .inl (fun _ => 0)))] := hD
  refine lv_aload_n hx hb dX4_addPatch_21 rfl (lv_at hl 0 rfl) ?_
  refine r_get (v := .ref z6) C0 hE ffX4_1 mw_200 hP 0 rfl rfl dX4_addPatch_22 ?_
  refine lv_aload_n hx hb dX4_addPatch_25 rfl (lv_at hl 0 rfl) ?_
  refine r_get (v := .int 0) C0 hE ffX4_5 mw_208 hP 0 rfl rfl dX4_addPatch_26 ?_
  refine lv_iload_n hx hb dX4_addPatch_29 rfl (lv_at hl 2 rfl) ?_
  refine r_iastO hx hb hK hP hD hS 2 rfl (vp_lit (by decide +kernel)) dX4_addPatch_30 (fun f1382 H locs hP hD hS => ?_)
  have hP : va_P D vwCl [(z1, .inr (4, [.ref z5, .ref z6, .ref z7, .ref z8, .ref z9, .int 0, .int 0, .int 0, .int 0, .int 0, .int 0, .int 0, .int 0, .int 0])), (z5, .inl (T 0, 12, .inl f1381)), (z6, .inl (T 0, 12, .inl f1382)), (z7, .inl (T 0, 12, .inl (fun _ => 0)))] H := hP
  have hD : va_D A [(z1, .inr (4, [.ref z5, .ref z6, .ref z7, .ref z8, .ref z9, .int 0, .int 0, .int 0, .int 0, .int 0, .int 0, .int 0, .int 0, .int 0])), (z5, .inl (T 0, 12, .inl f1381)), (z6, .inl (T 0, 12, .inl f1382)), (z7, .inl (T 0, 12, .inl (fun _ => 0)))] := hD
  refine lv_aload_n hx hb dX4_addPatch_31 rfl (lv_at hl 0 rfl) ?_
  refine r_get (v := .ref z7) C0 hE ffX4_2 mw_202 hP 0 rfl rfl dX4_addPatch_32 ?_
  refine lv_aload_n hx hb dX4_addPatch_35 rfl (lv_at hl 0 rfl) ?_
  refine r_get (v := .int 0) C0 hE ffX4_5 mw_208 hP 0 rfl rfl dX4_addPatch_36 ?_
  refine lv_iload_n hx hb dX4_addPatch_39 rfl (lv_at hl 3 rfl) ?_
  refine r_iastO hx hb hK hP hD hS 3 rfl (vp_lit (by decide +kernel)) dX4_addPatch_40 (fun f1383 H locs hP hD hS => ?_)
  have hP : va_P D vwCl [(z1, .inr (4, [.ref z5, .ref z6, .ref z7, .ref z8, .ref z9, .int 0, .int 0, .int 0, .int 0, .int 0, .int 0, .int 0, .int 0, .int 0])), (z5, .inl (T 0, 12, .inl f1381)), (z6, .inl (T 0, 12, .inl f1382)), (z7, .inl (T 0, 12, .inl f1383))] H := hP
  have hD : va_D A [(z1, .inr (4, [.ref z5, .ref z6, .ref z7, .ref z8, .ref z9, .int 0, .int 0, .int 0, .int 0, .int 0, .int 0, .int 0, .int 0, .int 0])), (z5, .inl (T 0, 12, .inl f1381)), (z6, .inl (T 0, 12, .inl f1382)), (z7, .inl (T 0, 12, .inl f1383))] := hD
  refine lv_aload_n hx hb dX4_addPatch_41 rfl (lv_at hl 0 rfl) ?_
  refine lv_dup hx hb dX4_addPatch_42 rfl ?_
  refine r_get (v := .int 0) C0 hE ffX4_5 mw_208 hP 0 rfl rfl dX4_addPatch_43 ?_
  refine lv_iconst (v := 1) hx hb dX4_addPatch_46 (by decide) ?_
  refine lv_iadd hx hb dX4_addPatch_47 ?_
  refine r_ci (v := 1) (by decide +kernel) ?_
  refine r_put (v := .int 1) (ty := .int) (fs1 := [.ref z5, .ref z6, .ref z7, .ref z8, .ref z9, .int 1, .int 0, .int 0, .int 0, .int 0, .int 0, .int 0, .int 0, .int 0]) (ws1 := [(z1, .inr (4, [.ref z5, .ref z6, .ref z7, .ref z8, .ref z9, .int 1, .int 0, .int 0, .int 0, .int 0, .int 0, .int 0, .int 0, .int 0])), (z5, .inl (T 0, 12, .inl f1381)), (z6, .inl (T 0, 12, .inl f1382)), (z7, .inl (T 0, 12, .inl f1383))]) C0 hE ffX4_5 tyX4 tyX4_ok nmX4 mw_208 pf_29 hP hD hS 0 rfl rfl rfl (Nat.le_of_ble_eq_true rfl) rfl rfl dX4_addPatch_48 (fun H locs hP hD hS => ?_)
  refine lv_aload_n hx hb dX4_addPatch_51 rfl (lv_at hl 0 rfl) ?_
  refine r_get (v := .int 1) C0 hE ffX4_5 mw_208 hP 0 rfl rfl dX4_addPatch_52 ?_
  exact r_iret (f1381, f1382, f1383) C0 hr hlocks hS (Nat.le_of_ble_eq_true rfl) (Nat.le_of_ble_eq_true rfl) dX4_addPatch_55 rfl hP hD
set_option maxHeartbeats 4000000 in
set_option maxRecDepth 100000 in
theorem c_X10_patch_1408 (l : Launch) (D : va_G) (T : Nat → ClassId) (sz : Nat) (z1 : Nat) (z2 : Int32) (z3 : Int32) (z4 : Int32) (z5 : Nat) (z6 : Nat) (z7 : Nat) (z8 : Nat) (z9 : Nat) (z10 : Nat) (z11 : Nat) (z12 : Nat) (z13 : Nat) (z14 : Nat) (z15 : Nat) (z16 : Nat) (z17 : Nat) (z18 : Nat) (z19 : Nat) (z20 : Nat) : Met l yX10_patch (.code yX10_patch cX10_patch 4 (some .int) :: TB) { frames := 1, cells := 0, slots := 0, locals := 23 } (PC D T [.ref z1, .int z2, .int z3, .int z4] [(z1, .inr (10, [.ref z5, .ref z6, .ref z7, .ref z8, .ref z9, .ref z10, .ref z11, .ref z12, .ref z13, .ref z14, .ref z15, .int 1, .int (-1), .int 0, .int (-1)])), (z13, .inr (4, [.ref z16, .ref z17, .ref z18, .ref z19, .ref z20, .int 0, .int 0, .int 0, .int 0, .int 0, .int 0, .int 0, .int 0, .int 0])), (z16, .inl (T 0, 12, .inl (fun _ => 0))), (z17, .inl (T 0, 12, .inl (fun _ => 0))), (z18, .inl (T 0, 12, .inl (fun _ => 0)))] sz) (Qi (S := Unit) (fun (r : Int32) (_ : Unit) => r = (if (wi z2 0 99 && (wi z3 1 999 && wi z4 1 999)) = true then 1 else (-1))) (fun (_ : Unit) => []) D (va_A [(z1, .inr (10, [.ref z5, .ref z6, .ref z7, .ref z8, .ref z9, .ref z10, .ref z11, .ref z12, .ref z13, .ref z14, .ref z15, .int 1, .int (-1), .int 0, .int (-1)])), (z13, .inr (4, [.ref z16, .ref z17, .ref z18, .ref z19, .ref z20, .int 0, .int 0, .int 0, .int 0, .int 0, .int 0, .int 0, .int 0, .int 0])), (z16, .inl (T 0, 12, .inl (fun _ => 0))), (z17, .inl (T 0, 12, .inl (fun _ => 0))), (z18, .inl (T 0, 12, .inl (fun _ => 0)))] sz)) 0 0 (va_A [(z1, .inr (10, [.ref z5, .ref z6, .ref z7, .ref z8, .ref z9, .ref z10, .ref z11, .ref z12, .ref z13, .ref z14, .ref z15, .int 1, .int (-1), .int 0, .int (-1)])), (z13, .inr (4, [.ref z16, .ref z17, .ref z18, .ref z19, .ref z20, .int 0, .int 0, .int 0, .int 0, .int 0, .int 0, .int 0, .int 0, .int 0])), (z16, .inl (T 0, 12, .inl (fun _ => 0))), (z17, .inl (T 0, 12, .inl (fun _ => 0))), (z18, .inl (T 0, 12, .inl (fun _ => 0)))] sz) := by
  refine ct_begin (Qc := Qi (S := Unit) (fun (r : Int32) (_ : Unit) => r = (if (wi z2 0 99 && (wi z3 1 999 && wi z4 1 999)) = true then 1 else (-1))) (fun (_ : Unit) => []) D) (by decide +kernel) (Nat.le_of_ble_eq_true rfl) ?_
  intro p e s m below meth c A ls C0 hr hlocks hnm hE hA hP hD hS hl
  have hx := C0.1
  have hb := C0.2.1
  have hml := C0.2.2.1
  have hown := C0.2.2.2.1
  have hT := C0.2.2.2.2
  have hK := hE.1
  have hl : lv_has ls 4 [(0, .ref z1), (1, .int z2), (2, .int z3), (3, .int z4)] := hl
  refine lv_iload_n hx hb dX10_patch_0 rfl (lv_at hl 1 rfl) ?_
  refine lv_iconst (v := 0) hx hb dX10_patch_1 (by decide) ?_
  refine lv_bipush (v := 99) hx hb dX10_patch_2 (by decide) ?_
  refine r_calli (wr := [(z1, .inr (10, [.ref z5, .ref z6, .ref z7, .ref z8, .ref z9, .ref z10, .ref z11, .ref z12, .ref z13, .ref z14, .ref z15, .int 1, .int (-1), .int 0, .int (-1)])), (z13, .inr (4, [.ref z16, .ref z17, .ref z18, .ref z19, .ref z20, .int 0, .int 0, .int 0, .int 0, .int 0, .int 0, .int 0, .int 0, .int 0])), (z16, .inl (T 0, 12, .inl (fun _ => 0))), (z17, .inl (T 0, 12, .inl (fun _ => 0))), (z18, .inl (T 0, 12, .inl (fun _ => 0)))]) (r_runS (As := [.int z2, .int 0, .int 99]) (rest := []) (wc := []) C0 hE (c_X10_within_1047 l D T s.heap.size z2) mw_483 mw_484 mw_7 mw_485 dn_482 rfl rfl ⟨Nat.le_of_ble_eq_true rfl, Nat.le_of_ble_eq_true rfl⟩ (hP.sub (ws' := []) [] rfl) (hD.sub (ws' := []) [] (by decide +kernel) rfl) hl.1 rfl (Nat.le_of_ble_eq_true rfl) dX10_patch_4 ⟨Nat.le_of_ble_eq_true rfl, Nat.le_of_ble_eq_true rfl⟩) hP hD hS hA [] [0, 1, 2, 3, 4] rfl rfl (by decide +kernel) (by decide +kernel) (fun r1391 u H locs hq hP hD hS => ?_)
  have hq : r1391 = (bi (wi z2 0 99)) := hq
  subst hq
  have hP : va_P D vwCl [(z1, .inr (10, [.ref z5, .ref z6, .ref z7, .ref z8, .ref z9, .ref z10, .ref z11, .ref z12, .ref z13, .ref z14, .ref z15, .int 1, .int (-1), .int 0, .int (-1)])), (z13, .inr (4, [.ref z16, .ref z17, .ref z18, .ref z19, .ref z20, .int 0, .int 0, .int 0, .int 0, .int 0, .int 0, .int 0, .int 0, .int 0])), (z16, .inl (T 0, 12, .inl (fun _ => 0))), (z17, .inl (T 0, 12, .inl (fun _ => 0))), (z18, .inl (T 0, 12, .inl (fun _ => 0)))] H := hP
  have hD : va_D A [(z1, .inr (10, [.ref z5, .ref z6, .ref z7, .ref z8, .ref z9, .ref z10, .ref z11, .ref z12, .ref z13, .ref z14, .ref z15, .int 1, .int (-1), .int 0, .int (-1)])), (z13, .inr (4, [.ref z16, .ref z17, .ref z18, .ref z19, .ref z20, .int 0, .int 0, .int 0, .int 0, .int 0, .int 0, .int 0, .int 0, .int 0])), (z16, .inl (T 0, 12, .inl (fun _ => 0))), (z17, .inl (T 0, 12, .inl (fun _ => 0))), (z18, .inl (T 0, 12, .inl (fun _ => 0)))] := hD
  refine W.widen (k := 0) (n := 0) (Nat.le_of_ble_eq_true rfl) (Nat.le_of_ble_eq_true rfl) ?_
  refine lv_if_eq (tgt := 32) hx hb dX10_patch_7 (by decide) (fun c_1392 => ?_) (fun c_1392 => ?_)
  · skip
    have c_1392 := bi_z c_1392
    refine lv_iconst (v := (-1)) hx hb dX10_patch_32 (by decide) ?_
    exact r_iret () C0 hr hlocks hS (Nat.le_of_ble_eq_true rfl) (Nat.le_of_ble_eq_true rfl) dX10_patch_33 (by first | rfl | decide +kernel | simp [bi, FO, TS, c_1392]) P_nil D_nil
  · skip
    have c_1392 := bi_nz c_1392
    refine lv_iload_n hx hb dX10_patch_10 rfl (lv_at hl 2 rfl) ?_
    refine lv_iconst (v := 1) hx hb dX10_patch_11 (by decide) ?_
    refine lv_sipush (v := 999) hx hb dX10_patch_12 (by decide) ?_
    refine r_calli (wr := [(z1, .inr (10, [.ref z5, .ref z6, .ref z7, .ref z8, .ref z9, .ref z10, .ref z11, .ref z12, .ref z13, .ref z14, .ref z15, .int 1, .int (-1), .int 0, .int (-1)])), (z13, .inr (4, [.ref z16, .ref z17, .ref z18, .ref z19, .ref z20, .int 0, .int 0, .int 0, .int 0, .int 0, .int 0, .int 0, .int 0, .int 0])), (z16, .inl (T 0, 12, .inl (fun _ => 0))), (z17, .inl (T 0, 12, .inl (fun _ => 0))), (z18, .inl (T 0, 12, .inl (fun _ => 0)))]) (r_runS (As := [.int z3, .int 1, .int 999]) (rest := []) (wc := []) C0 hE (c_X10_within_1371 l D T H.size z3) mw_483 mw_484 mw_7 mw_485 dn_482 rfl rfl ⟨Nat.le_of_ble_eq_true rfl, Nat.le_of_ble_eq_true rfl⟩ (hP.sub (ws' := []) [] rfl) (hD.sub (ws' := []) [] (by decide +kernel) rfl) hl.1 rfl (Nat.le_of_ble_eq_true rfl) dX10_patch_15 ⟨Nat.le_of_ble_eq_true rfl, Nat.le_of_ble_eq_true rfl⟩) hP hD hS hA [] [0, 1, 2, 3, 4] rfl rfl (by decide +kernel) (by decide +kernel) (fun r1395 u H locs hq hP hD hS => ?_)
    have hq : r1395 = (bi (wi z3 1 999)) := hq
    subst hq
    have hP : va_P D vwCl [(z1, .inr (10, [.ref z5, .ref z6, .ref z7, .ref z8, .ref z9, .ref z10, .ref z11, .ref z12, .ref z13, .ref z14, .ref z15, .int 1, .int (-1), .int 0, .int (-1)])), (z13, .inr (4, [.ref z16, .ref z17, .ref z18, .ref z19, .ref z20, .int 0, .int 0, .int 0, .int 0, .int 0, .int 0, .int 0, .int 0, .int 0])), (z16, .inl (T 0, 12, .inl (fun _ => 0))), (z17, .inl (T 0, 12, .inl (fun _ => 0))), (z18, .inl (T 0, 12, .inl (fun _ => 0)))] H := hP
    have hD : va_D A [(z1, .inr (10, [.ref z5, .ref z6, .ref z7, .ref z8, .ref z9, .ref z10, .ref z11, .ref z12, .ref z13, .ref z14, .ref z15, .int 1, .int (-1), .int 0, .int (-1)])), (z13, .inr (4, [.ref z16, .ref z17, .ref z18, .ref z19, .ref z20, .int 0, .int 0, .int 0, .int 0, .int 0, .int 0, .int 0, .int 0, .int 0])), (z16, .inl (T 0, 12, .inl (fun _ => 0))), (z17, .inl (T 0, 12, .inl (fun _ => 0))), (z18, .inl (T 0, 12, .inl (fun _ => 0)))] := hD
    refine W.widen (k := 0) (n := 0) (Nat.le_of_ble_eq_true rfl) (Nat.le_of_ble_eq_true rfl) ?_
    refine lv_if_eq (tgt := 32) hx hb dX10_patch_18 (by decide) (fun c_1396 => ?_) (fun c_1396 => ?_)
    · skip
      have c_1396 := bi_z c_1396
      refine lv_iconst (v := (-1)) hx hb dX10_patch_32 (by decide) ?_
      exact r_iret () C0 hr hlocks hS (Nat.le_of_ble_eq_true rfl) (Nat.le_of_ble_eq_true rfl) dX10_patch_33 (by first | rfl | decide +kernel | simp [bi, FO, TS, c_1392, c_1396]) P_nil D_nil
    · skip
      have c_1396 := bi_nz c_1396
      refine lv_iload_n hx hb dX10_patch_21 rfl (lv_at hl 3 rfl) ?_
      refine lv_iconst (v := 1) hx hb dX10_patch_22 (by decide) ?_
      refine lv_sipush (v := 999) hx hb dX10_patch_23 (by decide) ?_
      refine r_calli (wr := [(z1, .inr (10, [.ref z5, .ref z6, .ref z7, .ref z8, .ref z9, .ref z10, .ref z11, .ref z12, .ref z13, .ref z14, .ref z15, .int 1, .int (-1), .int 0, .int (-1)])), (z13, .inr (4, [.ref z16, .ref z17, .ref z18, .ref z19, .ref z20, .int 0, .int 0, .int 0, .int 0, .int 0, .int 0, .int 0, .int 0, .int 0])), (z16, .inl (T 0, 12, .inl (fun _ => 0))), (z17, .inl (T 0, 12, .inl (fun _ => 0))), (z18, .inl (T 0, 12, .inl (fun _ => 0)))]) (r_runS (As := [.int z4, .int 1, .int 999]) (rest := []) (wc := []) C0 hE (c_X10_within_1371 l D T H.size z4) mw_483 mw_484 mw_7 mw_485 dn_482 rfl rfl ⟨Nat.le_of_ble_eq_true rfl, Nat.le_of_ble_eq_true rfl⟩ (hP.sub (ws' := []) [] rfl) (hD.sub (ws' := []) [] (by decide +kernel) rfl) hl.1 rfl (Nat.le_of_ble_eq_true rfl) dX10_patch_26 ⟨Nat.le_of_ble_eq_true rfl, Nat.le_of_ble_eq_true rfl⟩) hP hD hS hA [] [0, 1, 2, 3, 4] rfl rfl (by decide +kernel) (by decide +kernel) (fun r1399 u H locs hq hP hD hS => ?_)
      have hq : r1399 = (bi (wi z4 1 999)) := hq
      subst hq
      have hP : va_P D vwCl [(z1, .inr (10, [.ref z5, .ref z6, .ref z7, .ref z8, .ref z9, .ref z10, .ref z11, .ref z12, .ref z13, .ref z14, .ref z15, .int 1, .int (-1), .int 0, .int (-1)])), (z13, .inr (4, [.ref z16, .ref z17, .ref z18, .ref z19, .ref z20, .int 0, .int 0, .int 0, .int 0, .int 0, .int 0, .int 0, .int 0, .int 0])), (z16, .inl (T 0, 12, .inl (fun _ => 0))), (z17, .inl (T 0, 12, .inl (fun _ => 0))), (z18, .inl (T 0, 12, .inl (fun _ => 0)))] H := hP
      have hD : va_D A [(z1, .inr (10, [.ref z5, .ref z6, .ref z7, .ref z8, .ref z9, .ref z10, .ref z11, .ref z12, .ref z13, .ref z14, .ref z15, .int 1, .int (-1), .int 0, .int (-1)])), (z13, .inr (4, [.ref z16, .ref z17, .ref z18, .ref z19, .ref z20, .int 0, .int 0, .int 0, .int 0, .int 0, .int 0, .int 0, .int 0, .int 0])), (z16, .inl (T 0, 12, .inl (fun _ => 0))), (z17, .inl (T 0, 12, .inl (fun _ => 0))), (z18, .inl (T 0, 12, .inl (fun _ => 0)))] := hD
      refine W.widen (k := 0) (n := 0) (Nat.le_of_ble_eq_true rfl) (Nat.le_of_ble_eq_true rfl) ?_
      refine lv_if_ne (tgt := 34) hx hb dX10_patch_29 (by decide) (fun c_1400 => ?_) (fun c_1400 => ?_)
      · skip
        have c_1400 := bi_nz c_1400
        refine lv_aload_n hx hb dX10_patch_34 rfl (lv_at hl 0 rfl) ?_
        refine r_get (v := .ref z13) C0 hE ffX10_8 mw_219 hP 0 rfl rfl dX10_patch_35 ?_
        refine lv_iload_n hx hb dX10_patch_38 rfl (lv_at hl 1 rfl) ?_
        refine lv_iload_n hx hb dX10_patch_39 rfl (lv_at hl 2 rfl) ?_
        refine lv_iload_n hx hb dX10_patch_40 rfl (lv_at hl 3 rfl) ?_
        refine r_calli (wr := [(z1, .inr (10, [.ref z5, .ref z6, .ref z7, .ref z8, .ref z9, .ref z10, .ref z11, .ref z12, .ref z13, .ref z14, .ref z15, .int 1, .int (-1), .int 0, .int (-1)]))]) (r_runV (As := [.int z2, .int z3, .int z4]) (rest := []) (wc := [(z13, .inr (4, [.ref z16, .ref z17, .ref z18, .ref z19, .ref z20, .int 0, .int 0, .int 0, .int 0, .int 0, .int 0, .int 0, .int 0, .int 0])), (z16, .inl (T 0, 12, .inl (fun _ => 0))), (z17, .inl (T 0, 12, .inl (fun _ => 0))), (z18, .inl (T 0, 12, .inl (fun _ => 0)))]) (ci := 4) C0 hE (c_X4_addPatch_1384 l D T H.size z13 z2 z3 z4 z16 z17 z18 z19 z20) mw_594 mw_595 mw_596 mw_196 mw_597 dn_593 rfl rfl ⟨Nat.le_of_ble_eq_true rfl, Nat.le_of_ble_eq_true rfl⟩ (hP.sub (ws' := [(z13, .inr (4, [.ref z16, .ref z17, .ref z18, .ref z19, .ref z20, .int 0, .int 0, .int 0, .int 0, .int 0, .int 0, .int 0, .int 0, .int 0])), (z16, .inl (T 0, 12, .inl (fun _ => 0))), (z17, .inl (T 0, 12, .inl (fun _ => 0))), (z18, .inl (T 0, 12, .inl (fun _ => 0)))]) [1, 2, 3, 4] rfl) (hD.sub (ws' := [(z13, .inr (4, [.ref z16, .ref z17, .ref z18, .ref z19, .ref z20, .int 0, .int 0, .int 0, .int 0, .int 0, .int 0, .int 0, .int 0, .int 0])), (z16, .inl (T 0, 12, .inl (fun _ => 0))), (z17, .inl (T 0, 12, .inl (fun _ => 0))), (z18, .inl (T 0, 12, .inl (fun _ => 0)))]) [1, 2, 3, 4] (by decide +kernel) rfl) rfl rfl rfl hl.1 rfl (Nat.le_of_ble_eq_true rfl) dX10_patch_41 ⟨Nat.le_of_ble_eq_true rfl, Nat.le_of_ble_eq_true rfl⟩) hP hD hS hA [1, 2, 3, 4] [0] rfl rfl (by decide +kernel) (by decide +kernel) (fun r1407 u H locs hq hP hD hS => ?_)
        obtain ⟨f1404, f1405, f1406⟩ := u
        have hq : r1407 = 1 := hq
        subst hq
        have hP : va_P D vwCl [(z1, .inr (10, [.ref z5, .ref z6, .ref z7, .ref z8, .ref z9, .ref z10, .ref z11, .ref z12, .ref z13, .ref z14, .ref z15, .int 1, .int (-1), .int 0, .int (-1)])), (z13, .inr (4, [.ref z16, .ref z17, .ref z18, .ref z19, .ref z20, .int 1, .int 0, .int 0, .int 0, .int 0, .int 0, .int 0, .int 0, .int 0])), (z16, .inl (T 0, 12, .inl f1404)), (z17, .inl (T 0, 12, .inl f1405)), (z18, .inl (T 0, 12, .inl f1406))] H := hP
        have hD : va_D A [(z1, .inr (10, [.ref z5, .ref z6, .ref z7, .ref z8, .ref z9, .ref z10, .ref z11, .ref z12, .ref z13, .ref z14, .ref z15, .int 1, .int (-1), .int 0, .int (-1)])), (z13, .inr (4, [.ref z16, .ref z17, .ref z18, .ref z19, .ref z20, .int 1, .int 0, .int 0, .int 0, .int 0, .int 0, .int 0, .int 0, .int 0])), (z16, .inl (T 0, 12, .inl f1404)), (z17, .inl (T 0, 12, .inl f1405)), (z18, .inl (T 0, 12, .inl f1406))] := hD
        refine W.widen (k := 0) (n := 0) (Nat.le_of_ble_eq_true rfl) (Nat.le_of_ble_eq_true rfl) ?_
        exact r_iret () C0 hr hlocks hS (Nat.le_of_ble_eq_true rfl) (Nat.le_of_ble_eq_true rfl) dX10_patch_44 (by first | rfl | decide +kernel | simp [bi, FO, TS, c_1392, c_1396, c_1400]) P_nil D_nil
      · skip
        have c_1400 := bi_z c_1400
        refine lv_iconst (v := (-1)) hx hb dX10_patch_32 (by decide) ?_
        exact r_iret () C0 hr hlocks hS (Nat.le_of_ble_eq_true rfl) (Nat.le_of_ble_eq_true rfl) dX10_patch_33 (by first | rfl | decide +kernel | simp [bi, FO, TS, c_1392, c_1396, c_1400]) P_nil D_nil
set_option maxHeartbeats 4000000 in
set_option maxRecDepth 100000 in
theorem c_X10_within_1417 (l : Launch) (D : va_G) (T : Nat → ClassId) (sz : Nat) (z1 : Int32) : Met l yX10_within (.code yX10_within cX10_within 3 (some .boolean) :: TB) { frames := 0, cells := 0, slots := 0, locals := 0 } (PC D T [.int z1, .int 1, .int 9999] [] sz) (Qi (S := Unit) (fun (r : Int32) (_ : Unit) => r = (bi (wi z1 1 9999))) (fun (_ : Unit) => []) D (va_A [] sz)) 0 0 (va_A [] sz) := by
  refine ct_begin (Qc := Qi (S := Unit) (fun (r : Int32) (_ : Unit) => r = (bi (wi z1 1 9999))) (fun (_ : Unit) => []) D) (by decide +kernel) (Nat.le_of_ble_eq_true rfl) ?_
  intro p e s m below meth c A ls C0 hr hlocks hnm hE hA hP hD hS hl
  have hx := C0.1
  have hb := C0.2.1
  have hml := C0.2.2.1
  have hown := C0.2.2.2.1
  have hT := C0.2.2.2.2
  have hK := hE.1
  have hl : lv_has ls 3 [(0, .int z1), (1, .int 1), (2, .int 9999)] := hl
  refine lv_iload_n hx hb dX10_within_0 rfl (lv_at hl 0 rfl) ?_
  refine lv_iload_n hx hb dX10_within_1 rfl (lv_at hl 1 rfl) ?_
  refine lv_icmp_lt (tgt := 14) hx hb dX10_within_2 (by decide) (fun c_1415 => ?_) (fun c_1415 => ?_)
  · skip
    refine lv_iconst (v := 0) hx hb dX10_within_14 (by decide) ?_
    exact r_zret () C0 hr (by decide +kernel) hlocks hS (Nat.le_of_ble_eq_true rfl) (Nat.le_of_ble_eq_true rfl) dX10_within_15 (wi_a c_1415) P_nil D_nil
  · skip
    refine lv_iload_n hx hb dX10_within_5 rfl (lv_at hl 0 rfl) ?_
    refine lv_iload_n hx hb dX10_within_6 rfl (lv_at hl 2 rfl) ?_
    refine lv_icmp_gt (tgt := 14) hx hb dX10_within_7 (by decide) (fun c_1416 => ?_) (fun c_1416 => ?_)
    · skip
      refine lv_iconst (v := 0) hx hb dX10_within_14 (by decide) ?_
      exact r_zret () C0 hr (by decide +kernel) hlocks hS (Nat.le_of_ble_eq_true rfl) (Nat.le_of_ble_eq_true rfl) dX10_within_15 (wi_b c_1416) P_nil D_nil
    · skip
      refine lv_iconst (v := 1) hx hb dX10_within_10 (by decide) ?_
      refine lv_goto (tgt := 15) hx hb dX10_within_11 (by decide) ?_
      exact r_zret () C0 hr (by decide +kernel) hlocks hS (Nat.le_of_ble_eq_true rfl) (Nat.le_of_ble_eq_true rfl) dX10_within_15 (wi_c c_1415 c_1416) P_nil D_nil
set_option maxHeartbeats 4000000 in
set_option maxRecDepth 100000 in
theorem c_X4_addPull_1424 (l : Launch) (D : va_G) (T : Nat → ClassId) (sz : Nat) (z1 : Nat) (z2 : Int32) (z3 : Int32) (z4 : Nat) (z5 : Nat) (z6 : Nat) (z7 : Nat) (z8 : Nat) : Met l yX4_addPull (.code yX4_addPull cX4_addPull 3 (some .int) :: TB) { frames := 0, cells := 0, slots := 0, locals := 0 } (PC D T [.ref z1, .int z2, .int z3] [(z1, .inr (4, [.ref z4, .ref z5, .ref z6, .ref z7, .ref z8, .int 0, .int 0, .int 0, .int 0, .int 0, .int 0, .int 0, .int 0, .int 0])), (z7, .inl (T 0, 8, .inl (fun _ => 0))), (z8, .inl (T 0, 8, .inl (fun _ => 0)))] sz) (Qi (S := (Nat → Int32) × (Nat → Int32)) (fun (r : Int32) (u : (Nat → Int32) × (Nat → Int32)) => match u with | (f1422, f1423) => r = 1) (fun (u : (Nat → Int32) × (Nat → Int32)) => match u with | (f1422, f1423) => [(z1, .inr (4, [.ref z4, .ref z5, .ref z6, .ref z7, .ref z8, .int 0, .int 1, .int 0, .int 0, .int 0, .int 0, .int 0, .int 0, .int 0])), (z7, .inl (T 0, 8, .inl f1422)), (z8, .inl (T 0, 8, .inl f1423))]) D (va_A [(z1, .inr (4, [.ref z4, .ref z5, .ref z6, .ref z7, .ref z8, .int 0, .int 0, .int 0, .int 0, .int 0, .int 0, .int 0, .int 0, .int 0])), (z7, .inl (T 0, 8, .inl (fun _ => 0))), (z8, .inl (T 0, 8, .inl (fun _ => 0)))] sz)) 0 0 (va_A [(z1, .inr (4, [.ref z4, .ref z5, .ref z6, .ref z7, .ref z8, .int 0, .int 0, .int 0, .int 0, .int 0, .int 0, .int 0, .int 0, .int 0])), (z7, .inl (T 0, 8, .inl (fun _ => 0))), (z8, .inl (T 0, 8, .inl (fun _ => 0)))] sz) := by
  refine ct_begin (Qc := Qi (S := (Nat → Int32) × (Nat → Int32)) (fun (r : Int32) (u : (Nat → Int32) × (Nat → Int32)) => match u with | (f1422, f1423) => r = 1) (fun (u : (Nat → Int32) × (Nat → Int32)) => match u with | (f1422, f1423) => [(z1, .inr (4, [.ref z4, .ref z5, .ref z6, .ref z7, .ref z8, .int 0, .int 1, .int 0, .int 0, .int 0, .int 0, .int 0, .int 0, .int 0])), (z7, .inl (T 0, 8, .inl f1422)), (z8, .inl (T 0, 8, .inl f1423))]) D) (by decide +kernel) (Nat.le_of_ble_eq_true rfl) ?_
  intro p e s m below meth c A ls C0 hr hlocks hnm hE hA hP hD hS hl
  have hx := C0.1
  have hb := C0.2.1
  have hml := C0.2.2.1
  have hown := C0.2.2.2.1
  have hT := C0.2.2.2.2
  have hK := hE.1
  have hl : lv_has ls 3 [(0, .ref z1), (1, .int z2), (2, .int z3)] := hl
  refine lv_aload_n hx hb dX4_addPull_0 rfl (lv_at hl 0 rfl) ?_
  refine r_get (v := .int 0) C0 hE ffX4_6 mw_210 hP 0 rfl rfl dX4_addPull_1 ?_
  refine lv_bipush (v := 8) hx hb dX4_addPull_4 (by decide) ?_
  refine lv_icmp_lt (tgt := 11) hx hb dX4_addPull_6 (by decide) (fun _ => ?_) (fun hc => absurd (by decide +kernel) hc)
  refine lv_aload_n hx hb dX4_addPull_11 rfl (lv_at hl 0 rfl) ?_
  refine r_get (v := .ref z7) C0 hE ffX4_3 mw_204 hP 0 rfl rfl dX4_addPull_12 ?_
  refine lv_aload_n hx hb dX4_addPull_15 rfl (lv_at hl 0 rfl) ?_
  refine r_get (v := .int 0) C0 hE ffX4_6 mw_210 hP 0 rfl rfl dX4_addPull_16 ?_
  refine lv_iload_n hx hb dX4_addPull_19 rfl (lv_at hl 1 rfl) ?_
  refine r_iastO hx hb hK hP hD hS 1 rfl (vp_lit (by decide +kernel)) dX4_addPull_20 (fun f1422 H locs hP hD hS => ?_)
  have hP : va_P D vwCl [(z1, .inr (4, [.ref z4, .ref z5, .ref z6, .ref z7, .ref z8, .int 0, .int 0, .int 0, .int 0, .int 0, .int 0, .int 0, .int 0, .int 0])), (z7, .inl (T 0, 8, .inl f1422)), (z8, .inl (T 0, 8, .inl (fun _ => 0)))] H := hP
  have hD : va_D A [(z1, .inr (4, [.ref z4, .ref z5, .ref z6, .ref z7, .ref z8, .int 0, .int 0, .int 0, .int 0, .int 0, .int 0, .int 0, .int 0, .int 0])), (z7, .inl (T 0, 8, .inl f1422)), (z8, .inl (T 0, 8, .inl (fun _ => 0)))] := hD
  refine lv_aload_n hx hb dX4_addPull_21 rfl (lv_at hl 0 rfl) ?_
  refine r_get (v := .ref z8) C0 hE ffX4_4 mw_206 hP 0 rfl rfl dX4_addPull_22 ?_
  refine lv_aload_n hx hb dX4_addPull_25 rfl (lv_at hl 0 rfl) ?_
  refine r_get (v := .int 0) C0 hE ffX4_6 mw_210 hP 0 rfl rfl dX4_addPull_26 ?_
  refine lv_iload_n hx hb dX4_addPull_29 rfl (lv_at hl 2 rfl) ?_
  refine r_iastO hx hb hK hP hD hS 2 rfl (vp_lit (by decide +kernel)) dX4_addPull_30 (fun f1423 H locs hP hD hS => ?_)
  have hP : va_P D vwCl [(z1, .inr (4, [.ref z4, .ref z5, .ref z6, .ref z7, .ref z8, .int 0, .int 0, .int 0, .int 0, .int 0, .int 0, .int 0, .int 0, .int 0])), (z7, .inl (T 0, 8, .inl f1422)), (z8, .inl (T 0, 8, .inl f1423))] H := hP
  have hD : va_D A [(z1, .inr (4, [.ref z4, .ref z5, .ref z6, .ref z7, .ref z8, .int 0, .int 0, .int 0, .int 0, .int 0, .int 0, .int 0, .int 0, .int 0])), (z7, .inl (T 0, 8, .inl f1422)), (z8, .inl (T 0, 8, .inl f1423))] := hD
  refine lv_aload_n hx hb dX4_addPull_31 rfl (lv_at hl 0 rfl) ?_
  refine lv_dup hx hb dX4_addPull_32 rfl ?_
  refine r_get (v := .int 0) C0 hE ffX4_6 mw_210 hP 0 rfl rfl dX4_addPull_33 ?_
  refine lv_iconst (v := 1) hx hb dX4_addPull_36 (by decide) ?_
  refine lv_iadd hx hb dX4_addPull_37 ?_
  refine r_ci (v := 1) (by decide +kernel) ?_
  refine r_put (v := .int 1) (ty := .int) (fs1 := [.ref z4, .ref z5, .ref z6, .ref z7, .ref z8, .int 0, .int 1, .int 0, .int 0, .int 0, .int 0, .int 0, .int 0, .int 0]) (ws1 := [(z1, .inr (4, [.ref z4, .ref z5, .ref z6, .ref z7, .ref z8, .int 0, .int 1, .int 0, .int 0, .int 0, .int 0, .int 0, .int 0, .int 0])), (z7, .inl (T 0, 8, .inl f1422)), (z8, .inl (T 0, 8, .inl f1423))]) C0 hE ffX4_6 tyX4 tyX4_ok nmX4 mw_210 pf_29 hP hD hS 0 rfl rfl rfl (Nat.le_of_ble_eq_true rfl) rfl rfl dX4_addPull_38 (fun H locs hP hD hS => ?_)
  refine lv_aload_n hx hb dX4_addPull_41 rfl (lv_at hl 0 rfl) ?_
  refine r_get (v := .int 1) C0 hE ffX4_6 mw_210 hP 0 rfl rfl dX4_addPull_42 ?_
  exact r_iret (f1422, f1423) C0 hr hlocks hS (Nat.le_of_ble_eq_true rfl) (Nat.le_of_ble_eq_true rfl) dX4_addPull_45 rfl hP hD
set_option maxHeartbeats 4000000 in
set_option maxRecDepth 100000 in
theorem c_X10_force_1441 (l : Launch) (D : va_G) (T : Nat → ClassId) (sz : Nat) (z1 : Nat) (z2 : Int32) (z3 : Int32) (z4 : Nat) (z5 : Nat) (z6 : Nat) (z7 : Nat) (z8 : Nat) (z9 : Nat) (z10 : Nat) (z11 : Nat) (z12 : Nat) (z13 : Nat) (z14 : Nat) (z15 : Nat) (z16 : Nat) (z17 : Nat) (z18 : Nat) (z19 : Nat) : Met l yX10_force (.code yX10_force cX10_force 3 (some .int) :: TB) { frames := 1, cells := 0, slots := 0, locals := 22 } (PC D T [.ref z1, .int z2, .int z3] [(z1, .inr (10, [.ref z4, .ref z5, .ref z6, .ref z7, .ref z8, .ref z9, .ref z10, .ref z11, .ref z12, .ref z13, .ref z14, .int 1, .int (-1), .int 0, .int (-1)])), (z12, .inr (4, [.ref z15, .ref z16, .ref z17, .ref z18, .ref z19, .int 0, .int 0, .int 0, .int 0, .int 0, .int 0, .int 0, .int 0, .int 0])), (z18, .inl (T 0, 8, .inl (fun _ => 0))), (z19, .inl (T 0, 8, .inl (fun _ => 0)))] sz) (Qi (S := Unit) (fun (r : Int32) (_ : Unit) => r = (if (wi z2 0 99 && wi z3 1 9999) = true then 1 else (-1))) (fun (_ : Unit) => []) D (va_A [(z1, .inr (10, [.ref z4, .ref z5, .ref z6, .ref z7, .ref z8, .ref z9, .ref z10, .ref z11, .ref z12, .ref z13, .ref z14, .int 1, .int (-1), .int 0, .int (-1)])), (z12, .inr (4, [.ref z15, .ref z16, .ref z17, .ref z18, .ref z19, .int 0, .int 0, .int 0, .int 0, .int 0, .int 0, .int 0, .int 0, .int 0])), (z18, .inl (T 0, 8, .inl (fun _ => 0))), (z19, .inl (T 0, 8, .inl (fun _ => 0)))] sz)) 0 0 (va_A [(z1, .inr (10, [.ref z4, .ref z5, .ref z6, .ref z7, .ref z8, .ref z9, .ref z10, .ref z11, .ref z12, .ref z13, .ref z14, .int 1, .int (-1), .int 0, .int (-1)])), (z12, .inr (4, [.ref z15, .ref z16, .ref z17, .ref z18, .ref z19, .int 0, .int 0, .int 0, .int 0, .int 0, .int 0, .int 0, .int 0, .int 0])), (z18, .inl (T 0, 8, .inl (fun _ => 0))), (z19, .inl (T 0, 8, .inl (fun _ => 0)))] sz) := by
  refine ct_begin (Qc := Qi (S := Unit) (fun (r : Int32) (_ : Unit) => r = (if (wi z2 0 99 && wi z3 1 9999) = true then 1 else (-1))) (fun (_ : Unit) => []) D) (by decide +kernel) (Nat.le_of_ble_eq_true rfl) ?_
  intro p e s m below meth c A ls C0 hr hlocks hnm hE hA hP hD hS hl
  have hx := C0.1
  have hb := C0.2.1
  have hml := C0.2.2.1
  have hown := C0.2.2.2.1
  have hT := C0.2.2.2.2
  have hK := hE.1
  have hl : lv_has ls 3 [(0, .ref z1), (1, .int z2), (2, .int z3)] := hl
  refine lv_iload_n hx hb dX10_force_0 rfl (lv_at hl 1 rfl) ?_
  refine lv_iconst (v := 0) hx hb dX10_force_1 (by decide) ?_
  refine lv_bipush (v := 99) hx hb dX10_force_2 (by decide) ?_
  refine r_calli (wr := [(z1, .inr (10, [.ref z4, .ref z5, .ref z6, .ref z7, .ref z8, .ref z9, .ref z10, .ref z11, .ref z12, .ref z13, .ref z14, .int 1, .int (-1), .int 0, .int (-1)])), (z12, .inr (4, [.ref z15, .ref z16, .ref z17, .ref z18, .ref z19, .int 0, .int 0, .int 0, .int 0, .int 0, .int 0, .int 0, .int 0, .int 0])), (z18, .inl (T 0, 8, .inl (fun _ => 0))), (z19, .inl (T 0, 8, .inl (fun _ => 0)))]) (r_runS (As := [.int z2, .int 0, .int 99]) (rest := []) (wc := []) C0 hE (c_X10_within_1047 l D T s.heap.size z2) mw_483 mw_484 mw_7 mw_485 dn_482 rfl rfl ⟨Nat.le_of_ble_eq_true rfl, Nat.le_of_ble_eq_true rfl⟩ (hP.sub (ws' := []) [] rfl) (hD.sub (ws' := []) [] (by decide +kernel) rfl) hl.1 rfl (Nat.le_of_ble_eq_true rfl) dX10_force_4 ⟨Nat.le_of_ble_eq_true rfl, Nat.le_of_ble_eq_true rfl⟩) hP hD hS hA [] [0, 1, 2, 3] rfl rfl (by decide +kernel) (by decide +kernel) (fun r1430 u H locs hq hP hD hS => ?_)
  have hq : r1430 = (bi (wi z2 0 99)) := hq
  subst hq
  have hP : va_P D vwCl [(z1, .inr (10, [.ref z4, .ref z5, .ref z6, .ref z7, .ref z8, .ref z9, .ref z10, .ref z11, .ref z12, .ref z13, .ref z14, .int 1, .int (-1), .int 0, .int (-1)])), (z12, .inr (4, [.ref z15, .ref z16, .ref z17, .ref z18, .ref z19, .int 0, .int 0, .int 0, .int 0, .int 0, .int 0, .int 0, .int 0, .int 0])), (z18, .inl (T 0, 8, .inl (fun _ => 0))), (z19, .inl (T 0, 8, .inl (fun _ => 0)))] H := hP
  have hD : va_D A [(z1, .inr (10, [.ref z4, .ref z5, .ref z6, .ref z7, .ref z8, .ref z9, .ref z10, .ref z11, .ref z12, .ref z13, .ref z14, .int 1, .int (-1), .int 0, .int (-1)])), (z12, .inr (4, [.ref z15, .ref z16, .ref z17, .ref z18, .ref z19, .int 0, .int 0, .int 0, .int 0, .int 0, .int 0, .int 0, .int 0, .int 0])), (z18, .inl (T 0, 8, .inl (fun _ => 0))), (z19, .inl (T 0, 8, .inl (fun _ => 0)))] := hD
  refine W.widen (k := 0) (n := 0) (Nat.le_of_ble_eq_true rfl) (Nat.le_of_ble_eq_true rfl) ?_
  refine lv_if_eq (tgt := 21) hx hb dX10_force_7 (by decide) (fun c_1431 => ?_) (fun c_1431 => ?_)
  · skip
    have c_1431 := bi_z c_1431
    refine lv_iconst (v := (-1)) hx hb dX10_force_21 (by decide) ?_
    exact r_iret () C0 hr hlocks hS (Nat.le_of_ble_eq_true rfl) (Nat.le_of_ble_eq_true rfl) dX10_force_22 (by first | rfl | decide +kernel | simp [bi, FO, TS, c_1431]) P_nil D_nil
  · skip
    have c_1431 := bi_nz c_1431
    refine lv_iload_n hx hb dX10_force_10 rfl (lv_at hl 2 rfl) ?_
    refine lv_iconst (v := 1) hx hb dX10_force_11 (by decide) ?_
    refine lv_sipush (v := 9999) hx hb dX10_force_12 (by decide) ?_
    refine r_calli (wr := [(z1, .inr (10, [.ref z4, .ref z5, .ref z6, .ref z7, .ref z8, .ref z9, .ref z10, .ref z11, .ref z12, .ref z13, .ref z14, .int 1, .int (-1), .int 0, .int (-1)])), (z12, .inr (4, [.ref z15, .ref z16, .ref z17, .ref z18, .ref z19, .int 0, .int 0, .int 0, .int 0, .int 0, .int 0, .int 0, .int 0, .int 0])), (z18, .inl (T 0, 8, .inl (fun _ => 0))), (z19, .inl (T 0, 8, .inl (fun _ => 0)))]) (r_runS (As := [.int z3, .int 1, .int 9999]) (rest := []) (wc := []) C0 hE (c_X10_within_1417 l D T H.size z3) mw_483 mw_484 mw_7 mw_485 dn_482 rfl rfl ⟨Nat.le_of_ble_eq_true rfl, Nat.le_of_ble_eq_true rfl⟩ (hP.sub (ws' := []) [] rfl) (hD.sub (ws' := []) [] (by decide +kernel) rfl) hl.1 rfl (Nat.le_of_ble_eq_true rfl) dX10_force_15 ⟨Nat.le_of_ble_eq_true rfl, Nat.le_of_ble_eq_true rfl⟩) hP hD hS hA [] [0, 1, 2, 3] rfl rfl (by decide +kernel) (by decide +kernel) (fun r1434 u H locs hq hP hD hS => ?_)
    have hq : r1434 = (bi (wi z3 1 9999)) := hq
    subst hq
    have hP : va_P D vwCl [(z1, .inr (10, [.ref z4, .ref z5, .ref z6, .ref z7, .ref z8, .ref z9, .ref z10, .ref z11, .ref z12, .ref z13, .ref z14, .int 1, .int (-1), .int 0, .int (-1)])), (z12, .inr (4, [.ref z15, .ref z16, .ref z17, .ref z18, .ref z19, .int 0, .int 0, .int 0, .int 0, .int 0, .int 0, .int 0, .int 0, .int 0])), (z18, .inl (T 0, 8, .inl (fun _ => 0))), (z19, .inl (T 0, 8, .inl (fun _ => 0)))] H := hP
    have hD : va_D A [(z1, .inr (10, [.ref z4, .ref z5, .ref z6, .ref z7, .ref z8, .ref z9, .ref z10, .ref z11, .ref z12, .ref z13, .ref z14, .int 1, .int (-1), .int 0, .int (-1)])), (z12, .inr (4, [.ref z15, .ref z16, .ref z17, .ref z18, .ref z19, .int 0, .int 0, .int 0, .int 0, .int 0, .int 0, .int 0, .int 0, .int 0])), (z18, .inl (T 0, 8, .inl (fun _ => 0))), (z19, .inl (T 0, 8, .inl (fun _ => 0)))] := hD
    refine W.widen (k := 0) (n := 0) (Nat.le_of_ble_eq_true rfl) (Nat.le_of_ble_eq_true rfl) ?_
    refine lv_if_ne (tgt := 23) hx hb dX10_force_18 (by decide) (fun c_1435 => ?_) (fun c_1435 => ?_)
    · skip
      have c_1435 := bi_nz c_1435
      refine lv_aload_n hx hb dX10_force_23 rfl (lv_at hl 0 rfl) ?_
      refine r_get (v := .ref z12) C0 hE ffX10_8 mw_219 hP 0 rfl rfl dX10_force_24 ?_
      refine lv_iload_n hx hb dX10_force_27 rfl (lv_at hl 1 rfl) ?_
      refine lv_iload_n hx hb dX10_force_28 rfl (lv_at hl 2 rfl) ?_
      refine r_calli (wr := [(z1, .inr (10, [.ref z4, .ref z5, .ref z6, .ref z7, .ref z8, .ref z9, .ref z10, .ref z11, .ref z12, .ref z13, .ref z14, .int 1, .int (-1), .int 0, .int (-1)]))]) (r_runV (As := [.int z2, .int z3]) (rest := []) (wc := [(z12, .inr (4, [.ref z15, .ref z16, .ref z17, .ref z18, .ref z19, .int 0, .int 0, .int 0, .int 0, .int 0, .int 0, .int 0, .int 0, .int 0])), (z18, .inl (T 0, 8, .inl (fun _ => 0))), (z19, .inl (T 0, 8, .inl (fun _ => 0)))]) (ci := 4) C0 hE (c_X4_addPull_1424 l D T H.size z12 z2 z3 z15 z16 z17 z18 z19) mw_599 mw_600 mw_601 mw_196 mw_602 dn_598 rfl rfl ⟨Nat.le_of_ble_eq_true rfl, Nat.le_of_ble_eq_true rfl⟩ (hP.sub (ws' := [(z12, .inr (4, [.ref z15, .ref z16, .ref z17, .ref z18, .ref z19, .int 0, .int 0, .int 0, .int 0, .int 0, .int 0, .int 0, .int 0, .int 0])), (z18, .inl (T 0, 8, .inl (fun _ => 0))), (z19, .inl (T 0, 8, .inl (fun _ => 0)))]) [1, 2, 3] rfl) (hD.sub (ws' := [(z12, .inr (4, [.ref z15, .ref z16, .ref z17, .ref z18, .ref z19, .int 0, .int 0, .int 0, .int 0, .int 0, .int 0, .int 0, .int 0, .int 0])), (z18, .inl (T 0, 8, .inl (fun _ => 0))), (z19, .inl (T 0, 8, .inl (fun _ => 0)))]) [1, 2, 3] (by decide +kernel) rfl) rfl rfl rfl hl.1 rfl (Nat.le_of_ble_eq_true rfl) dX10_force_29 ⟨Nat.le_of_ble_eq_true rfl, Nat.le_of_ble_eq_true rfl⟩) hP hD hS hA [1, 2, 3] [0] rfl rfl (by decide +kernel) (by decide +kernel) (fun r1440 u H locs hq hP hD hS => ?_)
      obtain ⟨f1438, f1439⟩ := u
      have hq : r1440 = 1 := hq
      subst hq
      have hP : va_P D vwCl [(z1, .inr (10, [.ref z4, .ref z5, .ref z6, .ref z7, .ref z8, .ref z9, .ref z10, .ref z11, .ref z12, .ref z13, .ref z14, .int 1, .int (-1), .int 0, .int (-1)])), (z12, .inr (4, [.ref z15, .ref z16, .ref z17, .ref z18, .ref z19, .int 0, .int 1, .int 0, .int 0, .int 0, .int 0, .int 0, .int 0, .int 0])), (z18, .inl (T 0, 8, .inl f1438)), (z19, .inl (T 0, 8, .inl f1439))] H := hP
      have hD : va_D A [(z1, .inr (10, [.ref z4, .ref z5, .ref z6, .ref z7, .ref z8, .ref z9, .ref z10, .ref z11, .ref z12, .ref z13, .ref z14, .int 1, .int (-1), .int 0, .int (-1)])), (z12, .inr (4, [.ref z15, .ref z16, .ref z17, .ref z18, .ref z19, .int 0, .int 1, .int 0, .int 0, .int 0, .int 0, .int 0, .int 0, .int 0])), (z18, .inl (T 0, 8, .inl f1438)), (z19, .inl (T 0, 8, .inl f1439))] := hD
      refine W.widen (k := 0) (n := 0) (Nat.le_of_ble_eq_true rfl) (Nat.le_of_ble_eq_true rfl) ?_
      exact r_iret () C0 hr hlocks hS (Nat.le_of_ble_eq_true rfl) (Nat.le_of_ble_eq_true rfl) dX10_force_32 (by first | rfl | decide +kernel | simp [bi, FO, TS, c_1431, c_1435]) P_nil D_nil
    · skip
      have c_1435 := bi_z c_1435
      refine lv_iconst (v := (-1)) hx hb dX10_force_21 (by decide) ?_
      exact r_iret () C0 hr hlocks hS (Nat.le_of_ble_eq_true rfl) (Nat.le_of_ble_eq_true rfl) dX10_force_22 (by first | rfl | decide +kernel | simp [bi, FO, TS, c_1431, c_1435]) P_nil D_nil
