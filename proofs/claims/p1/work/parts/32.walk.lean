set_option maxHeartbeats 4000000 in
set_option maxRecDepth 100000 in
theorem c_X10_force_1437 (l : Launch) (D : va_G) (T : Nat → ClassId) (sz : Nat) (z1 : Nat) (z2 : Int32) (z3 : Int32) (z4 : Nat) (z5 : Nat) (z6 : Nat) (z7 : Nat) (z8 : Nat) (z9 : Nat) (z10 : Nat) (z11 : Nat) (z12 : Nat) (z13 : Nat) (z14 : Nat) (z15 : Nat) (z16 : Nat) (z17 : Nat) (z18 : Nat) (z19 : Nat) : Met l yX10_force (.code yX10_force cX10_force 3 (some .int) :: TB) { frames := 1, cells := 0, slots := 0, locals := 22 } (PC D T [.ref z1, .int z2, .int z3] [(z1, .inr (10, [.ref z4, .ref z5, .ref z6, .ref z7, .ref z8, .ref z9, .ref z10, .ref z11, .ref z12, .ref z13, .ref z14, .int 1, .int (-1), .int 0, .int (-1)])), (z12, .inr (4, [.ref z15, .ref z16, .ref z17, .ref z18, .ref z19, .int 0, .int 0, .int 0, .int 0, .int 0, .int 0, .int 0, .int 0, .int 0])), (z18, .inl (T 0, 8, .inl (fun _ => 0))), (z19, .inl (T 0, 8, .inl (fun _ => 0)))] sz) (Qi (S := Unit) (fun (r : Int32) (_ : Unit) => r = (if (wi z2 0 99 && wi z3 1 9999) = true then 1 else (-1))) (fun (_ : Unit) => []) D (va_A [(z1, .inr (10, [.ref z4, .ref z5, .ref z6, .ref z7, .ref z8, .ref z9, .ref z10, .ref z11, .ref z12, .ref z13, .ref z14, .int 1, .int (-1), .int 0, .int (-1)])), (z12, .inr (4, [.ref z15, .ref z16, .ref z17, .ref z18, .ref z19, .int 0, .int 0, .int 0, .int 0, .int 0, .int 0, .int 0, .int 0, .int 0])), (z18, .inl (T 0, 8, .inl (fun _ => 0))), (z19, .inl (T 0, 8, .inl (fun _ => 0)))] sz)) 0 0 (va_A [(z1, .inr (10, [.ref z4, .ref z5, .ref z6, .ref z7, .ref z8, .ref z9, .ref z10, .ref z11, .ref z12, .ref z13, .ref z14, .int 1, .int (-1), .int 0, .int (-1)])), (z12, .inr (4, [.ref z15, .ref z16, .ref z17, .ref z18, .ref z19, .int 0, .int 0, .int 0, .int 0, .int 0, .int 0, .int 0, .int 0, .int 0])), (z18, .inl (T 0, 8, .inl (fun _ => 0))), (z19, .inl (T 0, 8, .inl (fun _ => 0)))] sz) := by
  refine ct_begin (Qc := Qi (S := Unit) (fun (r : Int32) (_ : Unit) => r = (if (wi z2 0 99 && wi z3 1 9999) = true then 1 else (-1))) (fun (_ : Unit) => []) D) (by decide +kernel) (Nat.le_of_ble_eq_true rfl) ?_
  intro p e s m below meth c A ls C0 hr hlocks hnm hE hA hP hD hS hl
  have hx := C0.1
  have hb := C0.2.1
  have hml := C0.2.2.1
  have hown := C0.2.2.2.1
  have hT := C0.2.2.2.2
  have hK := hE.1
  have hl : lv_has ls 3 [(0, .ref z1), (1, .int z2), (2, .int z3)] := hl
  refine lv_iload_n hx hb dX10_force_0 rfl (lv_at hl 1 rfl) ?_
  refine lv_iconst (v := 0) hx hb dX10_force_1 (by decide) ?_
  refine lv_bipush (v := 99) hx hb dX10_force_2 (by decide) ?_
  refine r_calli (wr := [(z1, .inr (10, [.ref z4, .ref z5, .ref z6, .ref z7, .ref z8, .ref z9, .ref z10, .ref z11, .ref z12, .ref z13, .ref z14, .int 1, .int (-1), .int 0, .int (-1)])), (z12, .inr (4, [.ref z15, .ref z16, .ref z17, .ref z18, .ref z19, .int 0, .int 0, .int 0, .int 0, .int 0, .int 0, .int 0, .int 0, .int 0])), (z18, .inl (T 0, 8, .inl (fun _ => 0))), (z19, .inl (T 0, 8, .inl (fun _ => 0)))]) (r_runS (As := [.int z2, .int 0, .int 99]) (rest := []) (wc := []) C0 hE (c_X10_within_1047 l D T s.heap.size z2) mw_280 mw_281 mw_282 mw_283 dn_279 rfl rfl ⟨Nat.le_of_ble_eq_true rfl, Nat.le_of_ble_eq_true rfl⟩ (hP.sub (ws' := []) [] rfl) (hD.sub (ws' := []) [] (by decide +kernel) rfl) hl.1 rfl (Nat.le_of_ble_eq_true rfl) dX10_force_4 ⟨Nat.le_of_ble_eq_true rfl, Nat.le_of_ble_eq_true rfl⟩) hP hD hS hA [] [0, 1, 2, 3] rfl rfl (by decide +kernel) (by decide +kernel) (fun r1426 u H locs hq hP hD hS => ?_)
  have hq : r1426 = (bi (wi z2 0 99)) := hq
  subst hq
  have hP : va_P D vwCl [(z1, .inr (10, [.ref z4, .ref z5, .ref z6, .ref z7, .ref z8, .ref z9, .ref z10, .ref z11, .ref z12, .ref z13, .ref z14, .int 1, .int (-1), .int 0, .int (-1)])), (z12, .inr (4, [.ref z15, .ref z16, .ref z17, .ref z18, .ref z19, .int 0, .int 0, .int 0, .int 0, .int 0, .int 0, .int 0, .int 0, .int 0])), (z18, .inl (T 0, 8, .inl (fun _ => 0))), (z19, .inl (T 0, 8, .inl (fun _ => 0)))] H := hP
  have hD : va_D A [(z1, .inr (10, [.ref z4, .ref z5, .ref z6, .ref z7, .ref z8, .ref z9, .ref z10, .ref z11, .ref z12, .ref z13, .ref z14, .int 1, .int (-1), .int 0, .int (-1)])), (z12, .inr (4, [.ref z15, .ref z16, .ref z17, .ref z18, .ref z19, .int 0, .int 0, .int 0, .int 0, .int 0, .int 0, .int 0, .int 0, .int 0])), (z18, .inl (T 0, 8, .inl (fun _ => 0))), (z19, .inl (T 0, 8, .inl (fun _ => 0)))] := hD
  refine W.widen (k := 0) (n := 0) (Nat.le_of_ble_eq_true rfl) (Nat.le_of_ble_eq_true rfl) ?_
  refine lv_if_eq (tgt := 21) hx hb dX10_force_7 (by decide) (fun c_1427 => ?_) (fun c_1427 => ?_)
  · skip
    have c_1427 := bi_z c_1427
    refine lv_iconst (v := (-1)) hx hb dX10_force_21 (by decide) ?_
    exact r_iret () C0 hr hlocks hS (Nat.le_of_ble_eq_true rfl) (Nat.le_of_ble_eq_true rfl) dX10_force_22 (by first | rfl | decide +kernel | simp [bi, c_1427]) P_nil D_nil
  · skip
    have c_1427 := bi_nz c_1427
    refine lv_iload_n hx hb dX10_force_10 rfl (lv_at hl 2 rfl) ?_
    refine lv_iconst (v := 1) hx hb dX10_force_11 (by decide) ?_
    refine lv_sipush (v := 9999) hx hb dX10_force_12 (by decide) ?_
    refine r_calli (wr := [(z1, .inr (10, [.ref z4, .ref z5, .ref z6, .ref z7, .ref z8, .ref z9, .ref z10, .ref z11, .ref z12, .ref z13, .ref z14, .int 1, .int (-1), .int 0, .int (-1)])), (z12, .inr (4, [.ref z15, .ref z16, .ref z17, .ref z18, .ref z19, .int 0, .int 0, .int 0, .int 0, .int 0, .int 0, .int 0, .int 0, .int 0])), (z18, .inl (T 0, 8, .inl (fun _ => 0))), (z19, .inl (T 0, 8, .inl (fun _ => 0)))]) (r_runS (As := [.int z3, .int 1, .int 9999]) (rest := []) (wc := []) C0 hE (c_X10_within_1413 l D T H.size z3) mw_280 mw_281 mw_282 mw_283 dn_279 rfl rfl ⟨Nat.le_of_ble_eq_true rfl, Nat.le_of_ble_eq_true rfl⟩ (hP.sub (ws' := []) [] rfl) (hD.sub (ws' := []) [] (by decide +kernel) rfl) hl.1 rfl (Nat.le_of_ble_eq_true rfl) dX10_force_15 ⟨Nat.le_of_ble_eq_true rfl, Nat.le_of_ble_eq_true rfl⟩) hP hD hS hA [] [0, 1, 2, 3] rfl rfl (by decide +kernel) (by decide +kernel) (fun r1430 u H locs hq hP hD hS => ?_)
    have hq : r1430 = (bi (wi z3 1 9999)) := hq
    subst hq
    have hP : va_P D vwCl [(z1, .inr (10, [.ref z4, .ref z5, .ref z6, .ref z7, .ref z8, .ref z9, .ref z10, .ref z11, .ref z12, .ref z13, .ref z14, .int 1, .int (-1), .int 0, .int (-1)])), (z12, .inr (4, [.ref z15, .ref z16, .ref z17, .ref z18, .ref z19, .int 0, .int 0, .int 0, .int 0, .int 0, .int 0, .int 0, .int 0, .int 0])), (z18, .inl (T 0, 8, .inl (fun _ => 0))), (z19, .inl (T 0, 8, .inl (fun _ => 0)))] H := hP
    have hD : va_D A [(z1, .inr (10, [.ref z4, .ref z5, .ref z6, .ref z7, .ref z8, .ref z9, .ref z10, .ref z11, .ref z12, .ref z13, .ref z14, .int 1, .int (-1), .int 0, .int (-1)])), (z12, .inr (4, [.ref z15, .ref z16, .ref z17, .ref z18, .ref z19, .int 0, .int 0, .int 0, .int 0, .int 0, .int 0, .int 0, .int 0, .int 0])), (z18, .inl (T 0, 8, .inl (fun _ => 0))), (z19, .inl (T 0, 8, .inl (fun _ => 0)))] := hD
    refine W.widen (k := 0) (n := 0) (Nat.le_of_ble_eq_true rfl) (Nat.le_of_ble_eq_true rfl) ?_
    refine lv_if_ne (tgt := 23) hx hb dX10_force_18 (by decide) (fun c_1431 => ?_) (fun c_1431 => ?_)
    · skip
      have c_1431 := bi_nz c_1431
      refine lv_aload_n hx hb dX10_force_23 rfl (lv_at hl 0 rfl) ?_
      refine va_get (D := D) (ci := 10) (v := .ref z12) (C := RX10) (T := TX10) (N := 15) hx hb hT inX10 hown hK hP 0 rfl rfl 8 (by decide) (hT _ mw_127) (fun _ h9 => h9) rfl dX10_force_24 ?_
      refine lv_iload_n hx hb dX10_force_27 rfl (lv_at hl 1 rfl) ?_
      refine lv_iload_n hx hb dX10_force_28 rfl (lv_at hl 2 rfl) ?_
      refine r_calli (wr := [(z1, .inr (10, [.ref z4, .ref z5, .ref z6, .ref z7, .ref z8, .ref z9, .ref z10, .ref z11, .ref z12, .ref z13, .ref z14, .int 1, .int (-1), .int 0, .int (-1)]))]) (r_runV (As := [.int z2, .int z3]) (rest := []) (wc := [(z12, .inr (4, [.ref z15, .ref z16, .ref z17, .ref z18, .ref z19, .int 0, .int 0, .int 0, .int 0, .int 0, .int 0, .int 0, .int 0, .int 0])), (z18, .inl (T 0, 8, .inl (fun _ => 0))), (z19, .inl (T 0, 8, .inl (fun _ => 0)))]) (ci := 4) C0 hE (c_X4_addPull_1420 l D T H.size z12 z2 z3 z15 z16 z17 z18 z19) mw_394 mw_395 mw_396 mw_113 mw_397 dn_393 rfl rfl ⟨Nat.le_of_ble_eq_true rfl, Nat.le_of_ble_eq_true rfl⟩ (hP.sub (ws' := [(z12, .inr (4, [.ref z15, .ref z16, .ref z17, .ref z18, .ref z19, .int 0, .int 0, .int 0, .int 0, .int 0, .int 0, .int 0, .int 0, .int 0])), (z18, .inl (T 0, 8, .inl (fun _ => 0))), (z19, .inl (T 0, 8, .inl (fun _ => 0)))]) [1, 2, 3] rfl) (hD.sub (ws' := [(z12, .inr (4, [.ref z15, .ref z16, .ref z17, .ref z18, .ref z19, .int 0, .int 0, .int 0, .int 0, .int 0, .int 0, .int 0, .int 0, .int 0])), (z18, .inl (T 0, 8, .inl (fun _ => 0))), (z19, .inl (T 0, 8, .inl (fun _ => 0)))]) [1, 2, 3] (by decide +kernel) rfl) rfl rfl rfl hl.1 rfl (Nat.le_of_ble_eq_true rfl) dX10_force_29 ⟨Nat.le_of_ble_eq_true rfl, Nat.le_of_ble_eq_true rfl⟩) hP hD hS hA [1, 2, 3] [0] rfl rfl (by decide +kernel) (by decide +kernel) (fun r1436 u H locs hq hP hD hS => ?_)
      obtain ⟨f1434, f1435⟩ := u
      have hq : r1436 = 1 := hq
      subst hq
      have hP : va_P D vwCl [(z1, .inr (10, [.ref z4, .ref z5, .ref z6, .ref z7, .ref z8, .ref z9, .ref z10, .ref z11, .ref z12, .ref z13, .ref z14, .int 1, .int (-1), .int 0, .int (-1)])), (z12, .inr (4, [.ref z15, .ref z16, .ref z17, .ref z18, .ref z19, .int 0, .int 1, .int 0, .int 0, .int 0, .int 0, .int 0, .int 0, .int 0])), (z18, .inl (T 0, 8, .inl f1434)), (z19, .inl (T 0, 8, .inl f1435))] H := hP
      have hD : va_D A [(z1, .inr (10, [.ref z4, .ref z5, .ref z6, .ref z7, .ref z8, .ref z9, .ref z10, .ref z11, .ref z12, .ref z13, .ref z14, .int 1, .int (-1), .int 0, .int (-1)])), (z12, .inr (4, [.ref z15, .ref z16, .ref z17, .ref z18, .ref z19, .int 0, .int 1, .int 0, .int 0, .int 0, .int 0, .int 0, .int 0, .int 0])), (z18, .inl (T 0, 8, .inl f1434)), (z19, .inl (T 0, 8, .inl f1435))] := hD
      refine W.widen (k := 0) (n := 0) (Nat.le_of_ble_eq_true rfl) (Nat.le_of_ble_eq_true rfl) ?_
      exact r_iret () C0 hr hlocks hS (Nat.le_of_ble_eq_true rfl) (Nat.le_of_ble_eq_true rfl) dX10_force_32 (by first | rfl | decide +kernel | simp [bi, c_1427, c_1431]) P_nil D_nil
    · skip
      have c_1431 := bi_z c_1431
      refine lv_iconst (v := (-1)) hx hb dX10_force_21 (by decide) ?_
      exact r_iret () C0 hr hlocks hS (Nat.le_of_ble_eq_true rfl) (Nat.le_of_ble_eq_true rfl) dX10_force_22 (by first | rfl | decide +kernel | simp [bi, c_1427, c_1431]) P_nil D_nil
set_option maxHeartbeats 4000000 in
set_option maxRecDepth 100000 in
theorem c_X10_clear_1438 (l : Launch) (D : va_G) (T : Nat → ClassId) (sz : Nat) (z1 : Nat) (z2 : Nat) (z3 : Nat) (z4 : Nat) (z5 : Nat) (z6 : Nat) (z7 : Nat) (z8 : Nat) (z9 : Nat) (z10 : Nat) (z11 : Nat) (z12 : Nat) (z13 : Nat) (z14 : Nat) (z15 : Nat) (z16 : Nat) (z17 : Nat) : Met l yX10_clear (.code yX10_clear cX10_clear 2 (some .int) :: TB) { frames := 0, cells := 0, slots := 0, locals := 0 } (PC D T [.ref z1] [(z1, .inr (10, [.ref z2, .ref z3, .ref z4, .ref z5, .ref z6, .ref z7, .ref z8, .ref z9, .ref z10, .ref z11, .ref z12, .int 1, .int (-1), .int 0, .int (-1)])), (z10, .inr (4, [.ref z13, .ref z14, .ref z15, .ref z16, .ref z17, .int 0, .int 0, .int 0, .int 0, .int 0, .int 0, .int 0, .int 0, .int 0]))] sz) (Qi (S := Unit) (fun (r : Int32) (_ : Unit) => r = 0) (fun (_ : Unit) => [(z1, .inr (10, [.ref z2, .ref z3, .ref z4, .ref z5, .ref z6, .ref z7, .ref z8, .ref z9, .ref z10, .ref z11, .ref z12, .int 1, .int (-1), .int 0, .int (-1)])), (z10, .inr (4, [.ref z13, .ref z14, .ref z15, .ref z16, .ref z17, .int 0, .int 0, .int 0, .int 0, .int 0, .int 0, .int 0, .int 0, .int 0]))]) D (va_A [(z1, .inr (10, [.ref z2, .ref z3, .ref z4, .ref z5, .ref z6, .ref z7, .ref z8, .ref z9, .ref z10, .ref z11, .ref z12, .int 1, .int (-1), .int 0, .int (-1)])), (z10, .inr (4, [.ref z13, .ref z14, .ref z15, .ref z16, .ref z17, .int 0, .int 0, .int 0, .int 0, .int 0, .int 0, .int 0, .int 0, .int 0]))] sz)) 0 0 (va_A [(z1, .inr (10, [.ref z2, .ref z3, .ref z4, .ref z5, .ref z6, .ref z7, .ref z8, .ref z9, .ref z10, .ref z11, .ref z12, .int 1, .int (-1), .int 0, .int (-1)])), (z10, .inr (4, [.ref z13, .ref z14, .ref z15, .ref z16, .ref z17, .int 0, .int 0, .int 0, .int 0, .int 0, .int 0, .int 0, .int 0, .int 0]))] sz) := by
  refine ct_begin (Qc := Qi (S := Unit) (fun (r : Int32) (_ : Unit) => r = 0) (fun (_ : Unit) => [(z1, .inr (10, [.ref z2, .ref z3, .ref z4, .ref z5, .ref z6, .ref z7, .ref z8, .ref z9, .ref z10, .ref z11, .ref z12, .int 1, .int (-1), .int 0, .int (-1)])), (z10, .inr (4, [.ref z13, .ref z14, .ref z15, .ref z16, .ref z17, .int 0, .int 0, .int 0, .int 0, .int 0, .int 0, .int 0, .int 0, .int 0]))]) D) (by decide +kernel) (Nat.le_of_ble_eq_true rfl) ?_
  intro p e s m below meth c A ls C0 hr hlocks hnm hE hA hP hD hS hl
  have hx := C0.1
  have hb := C0.2.1
  have hml := C0.2.2.1
  have hown := C0.2.2.2.1
  have hT := C0.2.2.2.2
  have hK := hE.1
  have hl : lv_has ls 2 [(0, .ref z1)] := hl
  refine lv_aload_n hx hb dX10_clear_0 rfl (lv_at hl 0 rfl) ?_
  refine va_get (D := D) (ci := 10) (v := .ref z10) (C := RX10) (T := TX10) (N := 15) hx hb hT inX10 hown hK hP 0 rfl rfl 8 (by decide) (hT _ mw_127) (fun _ h9 => h9) rfl dX10_clear_1 ?_
  refine va_get (D := D) (ci := 4) (v := .int 0) (C := RX4) (T := TX4) (N := 14) hx hb hT inX4 hown hK hP 1 rfl rfl 5 (by decide) (hT _ mw_398) (fun _ h9 => h9) rfl dX10_clear_4 ?_
  refine lv_istore_n (lv' := [(1, .int 0), (0, .ref z1)]) hx hb dX10_clear_7 rfl hl (by decide) rfl (fun ls hl => ?_)
  refine lv_aload_n hx hb dX10_clear_8 rfl (lv_at hl 1 rfl) ?_
  refine va_get (D := D) (ci := 10) (v := .ref z10) (C := RX10) (T := TX10) (N := 15) hx hb hT inX10 hown hK hP 0 rfl rfl 8 (by decide) (hT _ mw_127) (fun _ h9 => h9) rfl dX10_clear_9 ?_
  refine lv_iconst (v := 0) hx hb dX10_clear_12 (by decide) ?_
  refine va_put (D := D) (ci := 4) (v := .int 0) (ty := .int) (C := RX4) (T := TX4) (N := 14) hx hb hT inX4 tyX4 tyX4_ok nmX4 hown hK hP hD hS 1 rfl rfl 5 (by decide) (hT _ mw_398) (fun _ h9 => h9) rfl (by decide +kernel) rfl rfl (Nat.le_of_ble_eq_true rfl) dX10_clear_13 (fun H locs hP hD hS => ?_)
  have hP : va_P D vwCl [(z1, .inr (10, [.ref z2, .ref z3, .ref z4, .ref z5, .ref z6, .ref z7, .ref z8, .ref z9, .ref z10, .ref z11, .ref z12, .int 1, .int (-1), .int 0, .int (-1)])), (z10, .inr (4, [.ref z13, .ref z14, .ref z15, .ref z16, .ref z17, .int 0, .int 0, .int 0, .int 0, .int 0, .int 0, .int 0, .int 0, .int 0]))] H := hP
  have hD : va_D A [(z1, .inr (10, [.ref z2, .ref z3, .ref z4, .ref z5, .ref z6, .ref z7, .ref z8, .ref z9, .ref z10, .ref z11, .ref z12, .int 1, .int (-1), .int 0, .int (-1)])), (z10, .inr (4, [.ref z13, .ref z14, .ref z15, .ref z16, .ref z17, .int 0, .int 0, .int 0, .int 0, .int 0, .int 0, .int 0, .int 0, .int 0]))] := hD
  refine lv_aload_n hx hb dX10_clear_16 rfl (lv_at hl 1 rfl) ?_
  refine va_get (D := D) (ci := 10) (v := .ref z10) (C := RX10) (T := TX10) (N := 15) hx hb hT inX10 hown hK hP 0 rfl rfl 8 (by decide) (hT _ mw_127) (fun _ h9 => h9) rfl dX10_clear_17 ?_
  refine lv_iconst (v := 0) hx hb dX10_clear_20 (by decide) ?_
  refine va_put (D := D) (ci := 4) (v := .int 0) (ty := .int) (C := RX4) (T := TX4) (N := 14) hx hb hT inX4 tyX4 tyX4_ok nmX4 hown hK hP hD hS 1 rfl rfl 6 (by decide) (hT _ mw_399) (fun _ h9 => h9) rfl (by decide +kernel) rfl rfl (Nat.le_of_ble_eq_true rfl) dX10_clear_21 (fun H locs hP hD hS => ?_)
  have hP : va_P D vwCl [(z1, .inr (10, [.ref z2, .ref z3, .ref z4, .ref z5, .ref z6, .ref z7, .ref z8, .ref z9, .ref z10, .ref z11, .ref z12, .int 1, .int (-1), .int 0, .int (-1)])), (z10, .inr (4, [.ref z13, .ref z14, .ref z15, .ref z16, .ref z17, .int 0, .int 0, .int 0, .int 0, .int 0, .int 0, .int 0, .int 0, .int 0]))] H := hP
  have hD : va_D A [(z1, .inr (10, [.ref z2, .ref z3, .ref z4, .ref z5, .ref z6, .ref z7, .ref z8, .ref z9, .ref z10, .ref z11, .ref z12, .int 1, .int (-1), .int 0, .int (-1)])), (z10, .inr (4, [.ref z13, .ref z14, .ref z15, .ref z16, .ref z17, .int 0, .int 0, .int 0, .int 0, .int 0, .int 0, .int 0, .int 0, .int 0]))] := hD
  refine lv_iload_n hx hb dX10_clear_24 rfl (lv_at hl 0 rfl) ?_
  exact r_iret () C0 hr hlocks hS (Nat.le_of_ble_eq_true rfl) (Nat.le_of_ble_eq_true rfl) dX10_clear_25 rfl hP hD
set_option maxHeartbeats 4000000 in
set_option maxRecDepth 100000 in
theorem c_X10_within_1447 (l : Launch) (D : va_G) (T : Nat → ClassId) (sz : Nat) (z1 : Int32) : Met l yX10_within (.code yX10_within cX10_within 3 (some .boolean) :: TB) { frames := 0, cells := 0, slots := 0, locals := 0 } (PC D T [.int z1, .int 0, .int 20000] [] sz) (Qi (S := Unit) (fun (r : Int32) (_ : Unit) => r = (bi (wi z1 0 20000))) (fun (_ : Unit) => []) D (va_A [] sz)) 0 0 (va_A [] sz) := by
  refine ct_begin (Qc := Qi (S := Unit) (fun (r : Int32) (_ : Unit) => r = (bi (wi z1 0 20000))) (fun (_ : Unit) => []) D) (by decide +kernel) (Nat.le_of_ble_eq_true rfl) ?_
  intro p e s m below meth c A ls C0 hr hlocks hnm hE hA hP hD hS hl
  have hx := C0.1
  have hb := C0.2.1
  have hml := C0.2.2.1
  have hown := C0.2.2.2.1
  have hT := C0.2.2.2.2
  have hK := hE.1
  have hl : lv_has ls 3 [(0, .int z1), (1, .int 0), (2, .int 20000)] := hl
  refine lv_iload_n hx hb dX10_within_0 rfl (lv_at hl 0 rfl) ?_
  refine lv_iload_n hx hb dX10_within_1 rfl (lv_at hl 1 rfl) ?_
  refine lv_icmp_lt (tgt := 14) hx hb dX10_within_2 (by decide) (fun c_1445 => ?_) (fun c_1445 => ?_)
  · skip
    refine lv_iconst (v := 0) hx hb dX10_within_14 (by decide) ?_
    exact r_zret () C0 hr (by decide +kernel) hlocks hS (Nat.le_of_ble_eq_true rfl) (Nat.le_of_ble_eq_true rfl) dX10_within_15 (wi_a c_1445) P_nil D_nil
  · skip
    refine lv_iload_n hx hb dX10_within_5 rfl (lv_at hl 0 rfl) ?_
    refine lv_iload_n hx hb dX10_within_6 rfl (lv_at hl 2 rfl) ?_
    refine lv_icmp_gt (tgt := 14) hx hb dX10_within_7 (by decide) (fun c_1446 => ?_) (fun c_1446 => ?_)
    · skip
      refine lv_iconst (v := 0) hx hb dX10_within_14 (by decide) ?_
      exact r_zret () C0 hr (by decide +kernel) hlocks hS (Nat.le_of_ble_eq_true rfl) (Nat.le_of_ble_eq_true rfl) dX10_within_15 (wi_b c_1446) P_nil D_nil
    · skip
      exact absurd (Int32.lt_of_lt_of_le (show (20000 : Int32) < 0 by decide +kernel) (Int32.not_lt.mp c_1445)) c_1446
set_option maxHeartbeats 4000000 in
set_option maxRecDepth 100000 in
theorem c_X4_holdsAll_1450 (l : Launch) (D : va_G) (T : Nat → ClassId) (sz : Nat) (z1 : Nat) (z2 : Nat) (z3 : Nat) (z4 : Nat) (z5 : Nat) (z6 : Nat) (z7 : Int32) (z8 : Int32) : Met l yX4_holdsAll (.code yX4_holdsAll cX4_holdsAll 3 (some .boolean) :: TB) { frames := 0, cells := 0, slots := 0, locals := 0 } (PC D T [.ref z1, .int 0] [(z1, .inr (4, [.ref z2, .ref z3, .ref z4, .ref z5, .ref z6, .int 0, .int 0, .int 0, .int 0, .int z7, .int z8, .int 1000000, .int 0, .int (-1)]))] sz) (Qi (S := Unit) (fun (r : Int32) (_ : Unit) => r = 1) (fun (_ : Unit) => [(z1, .inr (4, [.ref z2, .ref z3, .ref z4, .ref z5, .ref z6, .int 0, .int 0, .int 0, .int 0, .int z7, .int z8, .int 1000000, .int 0, .int (-1)]))]) D (va_A [(z1, .inr (4, [.ref z2, .ref z3, .ref z4, .ref z5, .ref z6, .int 0, .int 0, .int 0, .int 0, .int z7, .int z8, .int 1000000, .int 0, .int (-1)]))] sz)) 0 0 (va_A [(z1, .inr (4, [.ref z2, .ref z3, .ref z4, .ref z5, .ref z6, .int 0, .int 0, .int 0, .int 0, .int z7, .int z8, .int 1000000, .int 0, .int (-1)]))] sz) := by
  refine ct_begin (Qc := Qi (S := Unit) (fun (r : Int32) (_ : Unit) => r = 1) (fun (_ : Unit) => [(z1, .inr (4, [.ref z2, .ref z3, .ref z4, .ref z5, .ref z6, .int 0, .int 0, .int 0, .int 0, .int z7, .int z8, .int 1000000, .int 0, .int (-1)]))]) D) (by decide +kernel) (Nat.le_of_ble_eq_true rfl) ?_
  intro p e s m below meth c A ls C0 hr hlocks hnm hE hA hP hD hS hl
  have hx := C0.1
  have hb := C0.2.1
  have hml := C0.2.2.1
  have hown := C0.2.2.2.1
  have hT := C0.2.2.2.2
  have hK := hE.1
  have hl : lv_has ls 3 [(0, .ref z1), (1, .int 0)] := hl
  refine lv_iconst (v := 0) hx hb dX4_holdsAll_0 (by decide) ?_
  refine lv_istore_n (lv' := [(2, .int 0), (0, .ref z1), (1, .int 0)]) hx hb dX4_holdsAll_1 rfl hl (by decide) rfl (fun ls hl => ?_)
  refine lv_iload_n hx hb dX4_holdsAll_2 rfl (lv_at hl 0 rfl) ?_
  refine lv_aload_n hx hb dX4_holdsAll_3 rfl (lv_at hl 1 rfl) ?_
  refine va_get (D := D) (ci := 4) (v := .int 0) (C := RX4) (T := TX4) (N := 14) hx hb hT inX4 hown hK hP 0 rfl rfl 6 (by decide) (hT _ mw_121) (fun _ h9 => h9) rfl dX4_holdsAll_4 ?_
  refine lv_icmp_ge (tgt := 27) hx hb dX4_holdsAll_7 (by decide) (fun _ => ?_) (fun hc => absurd (by decide +kernel) hc)
  refine lv_iconst (v := 1) hx hb dX4_holdsAll_27 (by decide) ?_
  exact r_zret () C0 hr (by decide +kernel) hlocks hS (Nat.le_of_ble_eq_true rfl) (Nat.le_of_ble_eq_true rfl) dX4_holdsAll_28 rfl hP hD
set_option maxHeartbeats 4000000 in
set_option maxRecDepth 100000 in
theorem c_X4_search_1452 (l : Launch) (D : va_G) (T : Nat → ClassId) (sz : Nat) (z1 : Nat) (z2 : Nat) (z3 : Nat) (z4 : Nat) (z5 : Nat) (z6 : Nat) (z7 : Int32) (z8 : Int32) (ho : ¬ z8 < 0) : Met l yX4_search (.code yX4_search cX4_search 7 none :: TB) { frames := 0, cells := 0, slots := 0, locals := 0 } (PC D T [.ref z1, .int 0, .int 0, .int 0, .int 0, .int 0] [(z1, .inr (4, [.ref z2, .ref z3, .ref z4, .ref z5, .ref z6, .int 0, .int 0, .int 0, .int 0, .int z7, .int z8, .int 1000000, .int 0, .int (-1)]))] sz) (Qv (S := Unit) (fun (_ : Unit) => [(z1, .inr (4, [.ref z2, .ref z3, .ref z4, .ref z5, .ref z6, .int 0, .int 0, .int 0, .int 0, .int z7, .int z8, .int 0, .int 0, .int 0]))]) D (va_A [(z1, .inr (4, [.ref z2, .ref z3, .ref z4, .ref z5, .ref z6, .int 0, .int 0, .int 0, .int 0, .int z7, .int z8, .int 1000000, .int 0, .int (-1)]))] sz)) 0 0 (va_A [(z1, .inr (4, [.ref z2, .ref z3, .ref z4, .ref z5, .ref z6, .int 0, .int 0, .int 0, .int 0, .int z7, .int z8, .int 1000000, .int 0, .int (-1)]))] sz) := by
  refine ct_begin (Qc := Qv (S := Unit) (fun (_ : Unit) => [(z1, .inr (4, [.ref z2, .ref z3, .ref z4, .ref z5, .ref z6, .int 0, .int 0, .int 0, .int 0, .int z7, .int z8, .int 0, .int 0, .int 0]))]) D) (by decide +kernel) (Nat.le_of_ble_eq_true rfl) ?_
  intro p e s m below meth c A ls C0 hr hlocks hnm hE hA hP hD hS hl
  have hx := C0.1
  have hb := C0.2.1
  have hml := C0.2.2.1
  have hown := C0.2.2.2.1
  have hT := C0.2.2.2.2
  have hK := hE.1
  have hl : lv_has ls 7 [(0, .ref z1), (1, .int 0), (2, .int 0), (3, .int 0), (4, .int 0), (5, .int 0)] := hl
  refine lv_iload hx hb dX4_search_0 (lv_at hl 5 rfl) ?_
  refine lv_aload_n hx hb dX4_search_2 rfl (lv_at hl 0 rfl) ?_
  refine va_get (D := D) (ci := 4) (v := .int z8) (C := RX4) (T := TX4) (N := 14) hx hb hT inX4 hown hK hP 0 rfl rfl 10 (by decide) (hT _ mw_401) (fun _ h9 => h9) rfl dX4_search_3 ?_
  refine lv_icmp_gt (tgt := 34) hx hb dX4_search_6 (by decide) (fun hc => absurd hc ho) (fun _ => ?_)
  refine lv_iload_n hx hb dX4_search_9 rfl (lv_at hl 3 rfl) ?_
  refine lv_aload_n hx hb dX4_search_10 rfl (lv_at hl 0 rfl) ?_
  refine va_get (D := D) (ci := 4) (v := .int 1000000) (C := RX4) (T := TX4) (N := 14) hx hb hT inX4 hown hK hP 0 rfl rfl 11 (by decide) (hT _ mw_403) (fun _ h9 => h9) rfl dX4_search_11 ?_
  refine lv_icmp_gt (tgt := 34) hx hb dX4_search_14 (by decide) (fun hc => absurd hc (by decide +kernel)) (fun _ => ?_)
  refine lv_iload_n hx hb dX4_search_17 rfl (lv_at hl 3 rfl) ?_
  refine lv_aload_n hx hb dX4_search_18 rfl (lv_at hl 0 rfl) ?_
  refine va_get (D := D) (ci := 4) (v := .int 1000000) (C := RX4) (T := TX4) (N := 14) hx hb hT inX4 hown hK hP 0 rfl rfl 11 (by decide) (hT _ mw_403) (fun _ h9 => h9) rfl dX4_search_19 ?_
  refine lv_icmp_ne (tgt := 35) hx hb dX4_search_22 (by decide) (fun _ => ?_) (fun hc => absurd hc (by decide +kernel))
  refine lv_iload_n hx hb dX4_search_35 rfl (lv_at hl 1 rfl) ?_
  refine lv_aload_n hx hb dX4_search_36 rfl (lv_at hl 0 rfl) ?_
  refine va_get (D := D) (ci := 4) (v := .int 0) (C := RX4) (T := TX4) (N := 14) hx hb hT inX4 hown hK hP 0 rfl rfl 5 (by decide) (hT _ mw_120) (fun _ h9 => h9) rfl dX4_search_37 ?_
  refine lv_icmp_lt (tgt := 60) hx hb dX4_search_40 (by decide) (fun hc => absurd hc (by decide +kernel)) (fun _ => ?_)
  refine lv_aload_n hx hb dX4_search_43 rfl (lv_at hl 0 rfl) ?_
  refine lv_iload_n hx hb dX4_search_44 rfl (lv_at hl 3 rfl) ?_
  refine va_put (D := D) (ci := 4) (v := .int 0) (ty := .int) (C := RX4) (T := TX4) (N := 14) hx hb hT inX4 tyX4 tyX4_ok nmX4 hown hK hP hD hS 0 rfl rfl 11 (by decide) (hT _ mw_403) (fun _ h9 => h9) rfl (by decide +kernel) rfl rfl (Nat.le_of_ble_eq_true rfl) dX4_search_45 (fun H locs hP hD hS => ?_)
  have hP : va_P D vwCl [(z1, .inr (4, [.ref z2, .ref z3, .ref z4, .ref z5, .ref z6, .int 0, .int 0, .int 0, .int 0, .int z7, .int z8, .int 0, .int 0, .int (-1)]))] H := hP
  have hD : va_D A [(z1, .inr (4, [.ref z2, .ref z3, .ref z4, .ref z5, .ref z6, .int 0, .int 0, .int 0, .int 0, .int z7, .int z8, .int 0, .int 0, .int (-1)]))] := hD
  refine lv_aload_n hx hb dX4_search_48 rfl (lv_at hl 0 rfl) ?_
  refine lv_iload hx hb dX4_search_49 (lv_at hl 4 rfl) ?_
  refine va_put (D := D) (ci := 4) (v := .int 0) (ty := .int) (C := RX4) (T := TX4) (N := 14) hx hb hT inX4 tyX4 tyX4_ok nmX4 hown hK hP hD hS 0 rfl rfl 12 (by decide) (hT _ mw_404) (fun _ h9 => h9) rfl (by decide +kernel) rfl rfl (Nat.le_of_ble_eq_true rfl) dX4_search_51 (fun H locs hP hD hS => ?_)
  have hP : va_P D vwCl [(z1, .inr (4, [.ref z2, .ref z3, .ref z4, .ref z5, .ref z6, .int 0, .int 0, .int 0, .int 0, .int z7, .int z8, .int 0, .int 0, .int (-1)]))] H := hP
  have hD : va_D A [(z1, .inr (4, [.ref z2, .ref z3, .ref z4, .ref z5, .ref z6, .int 0, .int 0, .int 0, .int 0, .int z7, .int z8, .int 0, .int 0, .int (-1)]))] := hD
  refine lv_aload_n hx hb dX4_search_54 rfl (lv_at hl 0 rfl) ?_
  refine lv_iload_n hx hb dX4_search_55 rfl (lv_at hl 2 rfl) ?_
  refine va_put (D := D) (ci := 4) (v := .int 0) (ty := .int) (C := RX4) (T := TX4) (N := 14) hx hb hT inX4 tyX4 tyX4_ok nmX4 hown hK hP hD hS 0 rfl rfl 13 (by decide) (hT _ mw_405) (fun _ h9 => h9) rfl (by decide +kernel) rfl rfl (Nat.le_of_ble_eq_true rfl) dX4_search_56 (fun H locs hP hD hS => ?_)
  have hP : va_P D vwCl [(z1, .inr (4, [.ref z2, .ref z3, .ref z4, .ref z5, .ref z6, .int 0, .int 0, .int 0, .int 0, .int z7, .int z8, .int 0, .int 0, .int 0]))] H := hP
  have hD : va_D A [(z1, .inr (4, [.ref z2, .ref z3, .ref z4, .ref z5, .ref z6, .int 0, .int 0, .int 0, .int 0, .int z7, .int z8, .int 0, .int 0, .int 0]))] := hD
  exact r_vret () C0 hr hlocks hS (Nat.le_of_ble_eq_true rfl) (Nat.le_of_ble_eq_true rfl) dX4_search_59 hP hD
set_option maxHeartbeats 4000000 in
set_option maxRecDepth 100000 in
theorem sg_1455 {p : Program} {l : Launch} {e : Env} {s : State} {m : MethodId} {args : Array Value} {below : List Frame} {meth : Method} {c : Code} {H : Heap} {locs : List Loc} {Q : State → Prop} {D : va_G} {T : Nat → ClassId} {A : Nat → Prop} {ls : Array Slot} (z1 : Nat) (z2 : Int32) (z3 : Int32) (z4 : Nat) (z5 : Nat) (z6 : Nat) (z7 : Nat) (z8 : Nat) (C0 : CallFix p m c cX4_pick 4 s args TB yX4_pick.cls) (hE : EV D T s) (hnm : meth.name = yX4_pick.name) (hA : ∀ q, s.heap.size ≤ q → A q) (hP : va_P D vwCl [(z1, .inr (4, [.ref z4, .ref z5, .ref z6, .ref z7, .ref z8, .int 0, .int 0, .int 0, .int 0, .int 0, .int 0, .int 0, .int 0, .int 0]))] H) (hD : va_D A [(z1, .inr (4, [.ref z4, .ref z5, .ref z6, .ref z7, .ref z8, .int 0, .int 0, .int 0, .int 0, .int 0, .int 0, .int 0, .int 0, .int 0]))]) (hS : va_S A s.heap H locs) (hl : lv_has ls 4 [(0, .ref z1), (1, .int z2), (2, .int z3)])
    (kk : ∀ (H : Heap) (locs : List Loc) (ls : Array Slot), va_P D vwCl [(z1, .inr (4, [.ref z4, .ref z5, .ref z6, .ref z7, .ref z8, .int 0, .int 0, .int 0, .int 0, .int z2, .int z3, .int 0, .int 0, .int 0]))] H → va_D A [(z1, .inr (4, [.ref z4, .ref z5, .ref z6, .ref z7, .ref z8, .int 0, .int 0, .int 0, .int 0, .int z2, .int z3, .int 0, .int 0, .int 0]))] → va_S A s.heap H locs → lv_has ls 4 [(3, .int 0), (0, .ref z1), (1, .int z2), (2, .int z3)] → W p l e { frames := 1, cells := 0, slots := 0, locals := 26 } s m args below meth c H locs 0 0 Q (F0 m 78 ls [])) : W p l e { frames := 1, cells := 0, slots := 0, locals := 26 } s m args below meth c H locs 0 0 Q (F0 m 0 ls []) := by
  have hx := C0.1
  have hb := C0.2.1
  have hml := C0.2.2.1
  have hown := C0.2.2.2.1
  have hT := C0.2.2.2.2
  have hK := hE.1
  refine lv_aload_n hx hb dX4_pick_0 rfl (lv_at hl 0 rfl) ?_
  refine lv_iload_n hx hb dX4_pick_1 rfl (lv_at hl 1 rfl) ?_
  refine va_put (D := D) (ci := 4) (v := .int z2) (ty := .int) (C := RX4) (T := TX4) (N := 14) hx hb hT inX4 tyX4 tyX4_ok nmX4 hown hK hP hD hS 0 rfl rfl 9 (by decide) (hT _ mw_400) (fun _ h9 => h9) rfl (by decide +kernel) rfl rfl (Nat.le_of_ble_eq_true rfl) dX4_pick_2 (fun H locs hP hD hS => ?_)
  have hP : va_P D vwCl [(z1, .inr (4, [.ref z4, .ref z5, .ref z6, .ref z7, .ref z8, .int 0, .int 0, .int 0, .int 0, .int z2, .int 0, .int 0, .int 0, .int 0]))] H := hP
  have hD : va_D A [(z1, .inr (4, [.ref z4, .ref z5, .ref z6, .ref z7, .ref z8, .int 0, .int 0, .int 0, .int 0, .int z2, .int 0, .int 0, .int 0, .int 0]))] := hD
  refine lv_aload_n hx hb dX4_pick_5 rfl (lv_at hl 0 rfl) ?_
  refine lv_iload_n hx hb dX4_pick_6 rfl (lv_at hl 2 rfl) ?_
  refine va_put (D := D) (ci := 4) (v := .int z3) (ty := .int) (C := RX4) (T := TX4) (N := 14) hx hb hT inX4 tyX4 tyX4_ok nmX4 hown hK hP hD hS 0 rfl rfl 10 (by decide) (hT _ mw_401) (fun _ h9 => h9) rfl (by decide +kernel) rfl rfl (Nat.le_of_ble_eq_true rfl) dX4_pick_7 (fun H locs hP hD hS => ?_)
  have hP : va_P D vwCl [(z1, .inr (4, [.ref z4, .ref z5, .ref z6, .ref z7, .ref z8, .int 0, .int 0, .int 0, .int 0, .int z2, .int z3, .int 0, .int 0, .int 0]))] H := hP
  have hD : va_D A [(z1, .inr (4, [.ref z4, .ref z5, .ref z6, .ref z7, .ref z8, .int 0, .int 0, .int 0, .int 0, .int z2, .int z3, .int 0, .int 0, .int 0]))] := hD
  refine lv_aload_n hx hb dX4_pick_10 rfl (lv_at hl 0 rfl) ?_
  refine lv_ldc hx hb hown (hT _ mw_402) dX4_pick_11 ?_
  refine va_put (D := D) (ci := 4) (v := .int 1000000) (ty := .int) (C := RX4) (T := TX4) (N := 14) hx hb hT inX4 tyX4 tyX4_ok nmX4 hown hK hP hD hS 0 rfl rfl 11 (by decide) (hT _ mw_403) (fun _ h9 => h9) rfl (by decide +kernel) rfl rfl (Nat.le_of_ble_eq_true rfl) dX4_pick_13 (fun H locs hP hD hS => ?_)
  have hP : va_P D vwCl [(z1, .inr (4, [.ref z4, .ref z5, .ref z6, .ref z7, .ref z8, .int 0, .int 0, .int 0, .int 0, .int z2, .int z3, .int 1000000, .int 0, .int 0]))] H := hP
  have hD : va_D A [(z1, .inr (4, [.ref z4, .ref z5, .ref z6, .ref z7, .ref z8, .int 0, .int 0, .int 0, .int 0, .int z2, .int z3, .int 1000000, .int 0, .int 0]))] := hD
  refine lv_aload_n hx hb dX4_pick_16 rfl (lv_at hl 0 rfl) ?_
  refine lv_iconst (v := 0) hx hb dX4_pick_17 (by decide) ?_
  refine va_put (D := D) (ci := 4) (v := .int 0) (ty := .int) (C := RX4) (T := TX4) (N := 14) hx hb hT inX4 tyX4 tyX4_ok nmX4 hown hK hP hD hS 0 rfl rfl 12 (by decide) (hT _ mw_404) (fun _ h9 => h9) rfl (by decide +kernel) rfl rfl (Nat.le_of_ble_eq_true rfl) dX4_pick_18 (fun H locs hP hD hS => ?_)
  have hP : va_P D vwCl [(z1, .inr (4, [.ref z4, .ref z5, .ref z6, .ref z7, .ref z8, .int 0, .int 0, .int 0, .int 0, .int z2, .int z3, .int 1000000, .int 0, .int 0]))] H := hP
  have hD : va_D A [(z1, .inr (4, [.ref z4, .ref z5, .ref z6, .ref z7, .ref z8, .int 0, .int 0, .int 0, .int 0, .int z2, .int z3, .int 1000000, .int 0, .int 0]))] := hD
  refine lv_aload_n hx hb dX4_pick_21 rfl (lv_at hl 0 rfl) ?_
  refine lv_iconst (v := (-1)) hx hb dX4_pick_22 (by decide) ?_
  refine va_put (D := D) (ci := 4) (v := .int (-1)) (ty := .int) (C := RX4) (T := TX4) (N := 14) hx hb hT inX4 tyX4 tyX4_ok nmX4 hown hK hP hD hS 0 rfl rfl 13 (by decide) (hT _ mw_405) (fun _ h9 => h9) rfl (by decide +kernel) rfl rfl (Nat.le_of_ble_eq_true rfl) dX4_pick_23 (fun H locs hP hD hS => ?_)
  have hP : va_P D vwCl [(z1, .inr (4, [.ref z4, .ref z5, .ref z6, .ref z7, .ref z8, .int 0, .int 0, .int 0, .int 0, .int z2, .int z3, .int 1000000, .int 0, .int (-1)]))] H := hP
  have hD : va_D A [(z1, .inr (4, [.ref z4, .ref z5, .ref z6, .ref z7, .ref z8, .int 0, .int 0, .int 0, .int 0, .int z2, .int z3, .int 1000000, .int 0, .int (-1)]))] := hD
  refine lv_iconst (v := 1) hx hb dX4_pick_26 (by decide) ?_
  refine lv_aload_n hx hb dX4_pick_27 rfl (lv_at hl 0 rfl) ?_
  refine va_get (D := D) (ci := 4) (v := .int 0) (C := RX4) (T := TX4) (N := 14) hx hb hT inX4 hown hK hP 0 rfl rfl 5 (by decide) (hT _ mw_120) (fun _ h9 => h9) rfl dX4_pick_28 ?_
  refine lv_ishl hx hb dX4_pick_31 ?_
  refine r_ci (v := 1) (by decide +kernel) ?_
  refine lv_iconst (v := 1) hx hb dX4_pick_32 (by decide) ?_
  refine lv_isub hx hb dX4_pick_33 ?_
  refine r_ci (v := 0) (by decide +kernel) ?_
  refine lv_istore_n (lv' := [(3, .int 0), (0, .ref z1), (1, .int z2), (2, .int z3)]) hx hb dX4_pick_34 rfl hl (by decide) rfl (fun ls hl => ?_)
  refine lv_aload_n hx hb dX4_pick_35 rfl (lv_at hl 1 rfl) ?_
  refine lv_iload_n hx hb dX4_pick_36 rfl (lv_at hl 0 rfl) ?_
  refine r_calli (wr := []) (r_runV (As := [.int 0]) (rest := []) (wc := [(z1, .inr (4, [.ref z4, .ref z5, .ref z6, .ref z7, .ref z8, .int 0, .int 0, .int 0, .int 0, .int z2, .int z3, .int 1000000, .int 0, .int (-1)]))]) (ci := 4) C0 hE (c_X4_holdsAll_1450 l D T H.size z1 z4 z5 z6 z7 z8 z2 z3) mw_407 mw_408 mw_409 mw_113 mw_410 dn_406 rfl rfl ⟨Nat.le_of_ble_eq_true rfl, Nat.le_of_ble_eq_true rfl⟩ (hP.sub (ws' := [(z1, .inr (4, [.ref z4, .ref z5, .ref z6, .ref z7, .ref z8, .int 0, .int 0, .int 0, .int 0, .int z2, .int z3, .int 1000000, .int 0, .int (-1)]))]) [0] rfl) (hD.sub (ws' := [(z1, .inr (4, [.ref z4, .ref z5, .ref z6, .ref z7, .ref z8, .int 0, .int 0, .int 0, .int 0, .int z2, .int z3, .int 1000000, .int 0, .int (-1)]))]) [0] (by decide +kernel) rfl) rfl rfl rfl hl.1 rfl (Nat.le_of_ble_eq_true rfl) dX4_pick_37 ⟨Nat.le_of_ble_eq_true rfl, Nat.le_of_ble_eq_true rfl⟩) hP hD hS hA [0] [] rfl rfl (by decide +kernel) (by decide +kernel) (fun r1454 u H locs hq hP hD hS => ?_)
  have hq : r1454 = 1 := hq
  subst hq
  have hP : va_P D vwCl [(z1, .inr (4, [.ref z4, .ref z5, .ref z6, .ref z7, .ref z8, .int 0, .int 0, .int 0, .int 0, .int z2, .int z3, .int 1000000, .int 0, .int (-1)]))] H := hP
  have hD : va_D A [(z1, .inr (4, [.ref z4, .ref z5, .ref z6, .ref z7, .ref z8, .int 0, .int 0, .int 0, .int 0, .int z2, .int z3, .int 1000000, .int 0, .int (-1)]))] := hD
  refine W.widen (k := 0) (n := 0) (Nat.le_of_ble_eq_true rfl) (Nat.le_of_ble_eq_true rfl) ?_
  refine lv_if_eq (tgt := 52) hx hb dX4_pick_40 (by decide) (fun hc => absurd hc (by decide +kernel)) (fun _ => ?_)
  refine lv_aload_n hx hb dX4_pick_43 rfl (lv_at hl 1 rfl) ?_
  refine lv_iconst (v := 0) hx hb dX4_pick_44 (by decide) ?_
  refine lv_iload_n hx hb dX4_pick_45 rfl (lv_at hl 0 rfl) ?_
  refine lv_iconst (v := 0) hx hb dX4_pick_46 (by decide) ?_
  refine lv_iconst (v := 0) hx hb dX4_pick_47 (by decide) ?_
  refine lv_iconst (v := 0) hx hb dX4_pick_48 (by decide) ?_
  refine r_callv (wr := []) (r_runV (As := [.int 0, .int 0, .int 0, .int 0, .int 0]) (rest := []) (wc := [(z1, .inr (4, [.ref z4, .ref z5, .ref z6, .ref z7, .ref z8, .int 0, .int 0, .int 0, .int 0, .int z2, .int z3, .int 1000000, .int 0, .int (-1)]))]) (ci := 4) C0 hE (c_X4_search_1452 l D T H.size z1 z4 z5 z6 z7 z8 z2 z3 ho) mw_412 mw_413 mw_414 mw_113 mw_415 dn_411 rfl rfl ⟨Nat.le_of_ble_eq_true rfl, Nat.le_of_ble_eq_true rfl⟩ (hP.sub (ws' := [(z1, .inr (4, [.ref z4, .ref z5, .ref z6, .ref z7, .ref z8, .int 0, .int 0, .int 0, .int 0, .int z2, .int z3, .int 1000000, .int 0, .int (-1)]))]) [0] rfl) (hD.sub (ws' := [(z1, .inr (4, [.ref z4, .ref z5, .ref z6, .ref z7, .ref z8, .int 0, .int 0, .int 0, .int 0, .int z2, .int z3, .int 1000000, .int 0, .int (-1)]))]) [0] (by decide +kernel) rfl) rfl rfl rfl hl.1 rfl (Nat.le_of_ble_eq_true rfl) dX4_pick_49 ⟨Nat.le_of_ble_eq_true rfl, Nat.le_of_ble_eq_true rfl⟩) hP hD hS hA [0] [] rfl rfl (by decide +kernel) (by decide +kernel) (fun  u H locs hP hD hS => ?_)
  have hP : va_P D vwCl [(z1, .inr (4, [.ref z4, .ref z5, .ref z6, .ref z7, .ref z8, .int 0, .int 0, .int 0, .int 0, .int z2, .int z3, .int 0, .int 0, .int 0]))] H := hP
  have hD : va_D A [(z1, .inr (4, [.ref z4, .ref z5, .ref z6, .ref z7, .ref z8, .int 0, .int 0, .int 0, .int 0, .int z2, .int z3, .int 0, .int 0, .int 0]))] := hD
  refine W.widen (k := 0) (n := 0) (Nat.le_of_ble_eq_true rfl) (Nat.le_of_ble_eq_true rfl) ?_
  refine lv_aload_n hx hb dX4_pick_52 rfl (lv_at hl 1 rfl) ?_
  refine va_get (D := D) (ci := 4) (v := .int 0) (C := RX4) (T := TX4) (N := 14) hx hb hT inX4 hown hK hP 0 rfl rfl 13 (by decide) (hT _ mw_405) (fun _ h9 => h9) rfl dX4_pick_53 ?_
  refine lv_iconst (v := (-1)) hx hb dX4_pick_56 (by decide) ?_
  refine lv_icmp_ne (tgt := 62) hx hb dX4_pick_57 (by decide) (fun _ => ?_) (fun hc => absurd hc (by decide +kernel))
  refine lv_aload_n hx hb dX4_pick_62 rfl (lv_at hl 1 rfl) ?_
  refine lv_aload_n hx hb dX4_pick_63 rfl (lv_at hl 1 rfl) ?_
  refine va_get (D := D) (ci := 4) (v := .int 0) (C := RX4) (T := TX4) (N := 14) hx hb hT inX4 hown hK hP 0 rfl rfl 13 (by decide) (hT _ mw_405) (fun _ h9 => h9) rfl dX4_pick_64 ?_
  refine va_put (D := D) (ci := 4) (v := .int 0) (ty := .int) (C := RX4) (T := TX4) (N := 14) hx hb hT inX4 tyX4 tyX4_ok nmX4 hown hK hP hD hS 0 rfl rfl 7 (by decide) (hT _ mw_122) (fun _ h9 => h9) rfl (by decide +kernel) rfl rfl (Nat.le_of_ble_eq_true rfl) dX4_pick_67 (fun H locs hP hD hS => ?_)
  have hP : va_P D vwCl [(z1, .inr (4, [.ref z4, .ref z5, .ref z6, .ref z7, .ref z8, .int 0, .int 0, .int 0, .int 0, .int z2, .int z3, .int 0, .int 0, .int 0]))] H := hP
  have hD : va_D A [(z1, .inr (4, [.ref z4, .ref z5, .ref z6, .ref z7, .ref z8, .int 0, .int 0, .int 0, .int 0, .int z2, .int z3, .int 0, .int 0, .int 0]))] := hD
  refine lv_aload_n hx hb dX4_pick_70 rfl (lv_at hl 1 rfl) ?_
  refine lv_aload_n hx hb dX4_pick_71 rfl (lv_at hl 1 rfl) ?_
  refine va_get (D := D) (ci := 4) (v := .int 0) (C := RX4) (T := TX4) (N := 14) hx hb hT inX4 hown hK hP 0 rfl rfl 5 (by decide) (hT _ mw_120) (fun _ h9 => h9) rfl dX4_pick_72 ?_
  refine va_put (D := D) (ci := 4) (v := .int 0) (ty := .int) (C := RX4) (T := TX4) (N := 14) hx hb hT inX4 tyX4 tyX4_ok nmX4 hown hK hP hD hS 0 rfl rfl 8 (by decide) (hT _ mw_123) (fun _ h9 => h9) rfl (by decide +kernel) rfl rfl (Nat.le_of_ble_eq_true rfl) dX4_pick_75 (fun H locs hP hD hS => ?_)
  have hP : va_P D vwCl [(z1, .inr (4, [.ref z4, .ref z5, .ref z6, .ref z7, .ref z8, .int 0, .int 0, .int 0, .int 0, .int z2, .int z3, .int 0, .int 0, .int 0]))] H := hP
  have hD : va_D A [(z1, .inr (4, [.ref z4, .ref z5, .ref z6, .ref z7, .ref z8, .int 0, .int 0, .int 0, .int 0, .int z2, .int z3, .int 0, .int 0, .int 0]))] := hD
  exact kk H locs ls hP hD hS hl
set_option maxHeartbeats 4000000 in
set_option maxRecDepth 100000 in
theorem c_X4_pick_1456 (l : Launch) (D : va_G) (T : Nat → ClassId) (sz : Nat) (z1 : Nat) (z2 : Int32) (z3 : Int32) (z4 : Nat) (z5 : Nat) (z6 : Nat) (z7 : Nat) (z8 : Nat) (ho : ¬ z3 < 0) : Met l yX4_pick (.code yX4_pick cX4_pick 4 (some .int) :: TB) { frames := 1, cells := 0, slots := 0, locals := 26 } (PC D T [.ref z1, .int z2, .int z3] [(z1, .inr (4, [.ref z4, .ref z5, .ref z6, .ref z7, .ref z8, .int 0, .int 0, .int 0, .int 0, .int 0, .int 0, .int 0, .int 0, .int 0]))] sz) (Qi (S := Unit) (fun (r : Int32) (_ : Unit) => r = 0) (fun (_ : Unit) => [(z1, .inr (4, [.ref z4, .ref z5, .ref z6, .ref z7, .ref z8, .int 0, .int 0, .int 0, .int 0, .int z2, .int z3, .int 0, .int 0, .int 0]))]) D (va_A [(z1, .inr (4, [.ref z4, .ref z5, .ref z6, .ref z7, .ref z8, .int 0, .int 0, .int 0, .int 0, .int 0, .int 0, .int 0, .int 0, .int 0]))] sz)) 0 0 (va_A [(z1, .inr (4, [.ref z4, .ref z5, .ref z6, .ref z7, .ref z8, .int 0, .int 0, .int 0, .int 0, .int 0, .int 0, .int 0, .int 0, .int 0]))] sz) := by
  refine ct_begin (Qc := Qi (S := Unit) (fun (r : Int32) (_ : Unit) => r = 0) (fun (_ : Unit) => [(z1, .inr (4, [.ref z4, .ref z5, .ref z6, .ref z7, .ref z8, .int 0, .int 0, .int 0, .int 0, .int z2, .int z3, .int 0, .int 0, .int 0]))]) D) (by decide +kernel) (Nat.le_of_ble_eq_true rfl) ?_
  intro p e s m below meth c A ls C0 hr hlocks hnm hE hA hP hD hS hl
  have hx := C0.1
  have hb := C0.2.1
  have hml := C0.2.2.1
  have hown := C0.2.2.2.1
  have hT := C0.2.2.2.2
  have hK := hE.1
  have hl : lv_has ls 4 [(0, .ref z1), (1, .int z2), (2, .int z3)] := hl
  refine sg_1455 z1 z2 z3 z4 z5 z6 z7 z8 C0 hE hnm hA hP hD hS hl (fun H locs ls hP hD hS hl => ?_)
  refine lv_aload_n hx hb dX4_pick_78 rfl (lv_at hl 1 rfl) ?_
  refine va_get (D := D) (ci := 4) (v := .int 0) (C := RX4) (T := TX4) (N := 14) hx hb hT inX4 hown hK hP 0 rfl rfl 11 (by decide) (hT _ mw_403) (fun _ h9 => h9) rfl dX4_pick_79 ?_
  exact r_iret () C0 hr hlocks hS (Nat.le_of_ble_eq_true rfl) (Nat.le_of_ble_eq_true rfl) dX4_pick_82 rfl hP hD
set_option maxHeartbeats 4000000 in
set_option maxRecDepth 100000 in
theorem c_X10_choose_1469 (l : Launch) (D : va_G) (T : Nat → ClassId) (sz : Nat) (z1 : Nat) (z2 : Int32) (z3 : Int32) (z4 : Nat) (z5 : Nat) (z6 : Nat) (z7 : Nat) (z8 : Nat) (z9 : Nat) (z10 : Nat) (z11 : Nat) (z12 : Nat) (z13 : Nat) (z14 : Nat) (z15 : Nat) (z16 : Nat) (z17 : Nat) (z18 : Nat) (z19 : Nat) : Met l yX10_choose (.code yX10_choose cX10_choose 3 (some .int) :: TB) { frames := 2, cells := 0, slots := 0, locals := 49 } (PC D T [.ref z1, .int z2, .int z3] [(z1, .inr (10, [.ref z4, .ref z5, .ref z6, .ref z7, .ref z8, .ref z9, .ref z10, .ref z11, .ref z12, .ref z13, .ref z14, .int 1, .int (-1), .int 0, .int (-1)])), (z12, .inr (4, [.ref z15, .ref z16, .ref z17, .ref z18, .ref z19, .int 0, .int 0, .int 0, .int 0, .int 0, .int 0, .int 0, .int 0, .int 0]))] sz) (Qi (S := Unit) (fun (r : Int32) (_ : Unit) => r = (if (wi z2 0 99 && wi z3 0 20000) = true then 0 else (-1))) (fun (_ : Unit) => []) D (va_A [(z1, .inr (10, [.ref z4, .ref z5, .ref z6, .ref z7, .ref z8, .ref z9, .ref z10, .ref z11, .ref z12, .ref z13, .ref z14, .int 1, .int (-1), .int 0, .int (-1)])), (z12, .inr (4, [.ref z15, .ref z16, .ref z17, .ref z18, .ref z19, .int 0, .int 0, .int 0, .int 0, .int 0, .int 0, .int 0, .int 0, .int 0]))] sz)) 0 0 (va_A [(z1, .inr (10, [.ref z4, .ref z5, .ref z6, .ref z7, .ref z8, .ref z9, .ref z10, .ref z11, .ref z12, .ref z13, .ref z14, .int 1, .int (-1), .int 0, .int (-1)])), (z12, .inr (4, [.ref z15, .ref z16, .ref z17, .ref z18, .ref z19, .int 0, .int 0, .int 0, .int 0, .int 0, .int 0, .int 0, .int 0, .int 0]))] sz) := by
  refine ct_begin (Qc := Qi (S := Unit) (fun (r : Int32) (_ : Unit) => r = (if (wi z2 0 99 && wi z3 0 20000) = true then 0 else (-1))) (fun (_ : Unit) => []) D) (by decide +kernel) (Nat.le_of_ble_eq_true rfl) ?_
  intro p e s m below meth c A ls C0 hr hlocks hnm hE hA hP hD hS hl
  have hx := C0.1
  have hb := C0.2.1
  have hml := C0.2.2.1
  have hown := C0.2.2.2.1
  have hT := C0.2.2.2.2
  have hK := hE.1
  have hl : lv_has ls 3 [(0, .ref z1), (1, .int z2), (2, .int z3)] := hl
  refine lv_iload_n hx hb dX10_choose_0 rfl (lv_at hl 1 rfl) ?_
  refine lv_iconst (v := 0) hx hb dX10_choose_1 (by decide) ?_
  refine lv_bipush (v := 99) hx hb dX10_choose_2 (by decide) ?_
  refine r_calli (wr := [(z1, .inr (10, [.ref z4, .ref z5, .ref z6, .ref z7, .ref z8, .ref z9, .ref z10, .ref z11, .ref z12, .ref z13, .ref z14, .int 1, .int (-1), .int 0, .int (-1)])), (z12, .inr (4, [.ref z15, .ref z16, .ref z17, .ref z18, .ref z19, .int 0, .int 0, .int 0, .int 0, .int 0, .int 0, .int 0, .int 0, .int 0]))]) (r_runS (As := [.int z2, .int 0, .int 99]) (rest := []) (wc := []) C0 hE (c_X10_within_1047 l D T s.heap.size z2) mw_280 mw_281 mw_282 mw_283 dn_279 rfl rfl ⟨Nat.le_of_ble_eq_true rfl, Nat.le_of_ble_eq_true rfl⟩ (hP.sub (ws' := []) [] rfl) (hD.sub (ws' := []) [] (by decide +kernel) rfl) hl.1 rfl (Nat.le_of_ble_eq_true rfl) dX10_choose_4 ⟨Nat.le_of_ble_eq_true rfl, Nat.le_of_ble_eq_true rfl⟩) hP hD hS hA [] [0, 1] rfl rfl (by decide +kernel) (by decide +kernel) (fun r1460 u H locs hq hP hD hS => ?_)
  have hq : r1460 = (bi (wi z2 0 99)) := hq
  subst hq
  have hP : va_P D vwCl [(z1, .inr (10, [.ref z4, .ref z5, .ref z6, .ref z7, .ref z8, .ref z9, .ref z10, .ref z11, .ref z12, .ref z13, .ref z14, .int 1, .int (-1), .int 0, .int (-1)])), (z12, .inr (4, [.ref z15, .ref z16, .ref z17, .ref z18, .ref z19, .int 0, .int 0, .int 0, .int 0, .int 0, .int 0, .int 0, .int 0, .int 0]))] H := hP
  have hD : va_D A [(z1, .inr (10, [.ref z4, .ref z5, .ref z6, .ref z7, .ref z8, .ref z9, .ref z10, .ref z11, .ref z12, .ref z13, .ref z14, .int 1, .int (-1), .int 0, .int (-1)])), (z12, .inr (4, [.ref z15, .ref z16, .ref z17, .ref z18, .ref z19, .int 0, .int 0, .int 0, .int 0, .int 0, .int 0, .int 0, .int 0, .int 0]))] := hD
  refine W.widen (k := 0) (n := 0) (Nat.le_of_ble_eq_true rfl) (Nat.le_of_ble_eq_true rfl) ?_
  refine lv_if_eq (tgt := 21) hx hb dX10_choose_7 (by decide) (fun c_1461 => ?_) (fun c_1461 => ?_)
  · skip
    have c_1461 := bi_z c_1461
    refine lv_iconst (v := (-1)) hx hb dX10_choose_21 (by decide) ?_
    exact r_iret () C0 hr hlocks hS (Nat.le_of_ble_eq_true rfl) (Nat.le_of_ble_eq_true rfl) dX10_choose_22 (by first | rfl | decide +kernel | simp [bi, c_1461]) P_nil D_nil
  · skip
    have c_1461 := bi_nz c_1461
    refine lv_iload_n hx hb dX10_choose_10 rfl (lv_at hl 2 rfl) ?_
    refine lv_iconst (v := 0) hx hb dX10_choose_11 (by decide) ?_
    refine lv_sipush (v := 20000) hx hb dX10_choose_12 (by decide) ?_
    refine r_calli (wr := [(z1, .inr (10, [.ref z4, .ref z5, .ref z6, .ref z7, .ref z8, .ref z9, .ref z10, .ref z11, .ref z12, .ref z13, .ref z14, .int 1, .int (-1), .int 0, .int (-1)])), (z12, .inr (4, [.ref z15, .ref z16, .ref z17, .ref z18, .ref z19, .int 0, .int 0, .int 0, .int 0, .int 0, .int 0, .int 0, .int 0, .int 0]))]) (r_runS (As := [.int z3, .int 0, .int 20000]) (rest := []) (wc := []) C0 hE (c_X10_within_1447 l D T H.size z3) mw_280 mw_281 mw_282 mw_283 dn_279 rfl rfl ⟨Nat.le_of_ble_eq_true rfl, Nat.le_of_ble_eq_true rfl⟩ (hP.sub (ws' := []) [] rfl) (hD.sub (ws' := []) [] (by decide +kernel) rfl) hl.1 rfl (Nat.le_of_ble_eq_true rfl) dX10_choose_15 ⟨Nat.le_of_ble_eq_true rfl, Nat.le_of_ble_eq_true rfl⟩) hP hD hS hA [] [0, 1] rfl rfl (by decide +kernel) (by decide +kernel) (fun r1464 u H locs hq hP hD hS => ?_)
    have hq : r1464 = (bi (wi z3 0 20000)) := hq
    subst hq
    have hP : va_P D vwCl [(z1, .inr (10, [.ref z4, .ref z5, .ref z6, .ref z7, .ref z8, .ref z9, .ref z10, .ref z11, .ref z12, .ref z13, .ref z14, .int 1, .int (-1), .int 0, .int (-1)])), (z12, .inr (4, [.ref z15, .ref z16, .ref z17, .ref z18, .ref z19, .int 0, .int 0, .int 0, .int 0, .int 0, .int 0, .int 0, .int 0, .int 0]))] H := hP
    have hD : va_D A [(z1, .inr (10, [.ref z4, .ref z5, .ref z6, .ref z7, .ref z8, .ref z9, .ref z10, .ref z11, .ref z12, .ref z13, .ref z14, .int 1, .int (-1), .int 0, .int (-1)])), (z12, .inr (4, [.ref z15, .ref z16, .ref z17, .ref z18, .ref z19, .int 0, .int 0, .int 0, .int 0, .int 0, .int 0, .int 0, .int 0, .int 0]))] := hD
    refine W.widen (k := 0) (n := 0) (Nat.le_of_ble_eq_true rfl) (Nat.le_of_ble_eq_true rfl) ?_
    refine lv_if_ne (tgt := 23) hx hb dX10_choose_18 (by decide) (fun c_1465 => ?_) (fun c_1465 => ?_)
    · skip
      have c_1465 := bi_nz c_1465
      refine lv_aload_n hx hb dX10_choose_23 rfl (lv_at hl 0 rfl) ?_
      refine va_get (D := D) (ci := 10) (v := .ref z12) (C := RX10) (T := TX10) (N := 15) hx hb hT inX10 hown hK hP 0 rfl rfl 8 (by decide) (hT _ mw_127) (fun _ h9 => h9) rfl dX10_choose_24 ?_
      refine lv_iload_n hx hb dX10_choose_27 rfl (lv_at hl 1 rfl) ?_
      refine lv_iload_n hx hb dX10_choose_28 rfl (lv_at hl 2 rfl) ?_
      refine r_calli (wr := [(z1, .inr (10, [.ref z4, .ref z5, .ref z6, .ref z7, .ref z8, .ref z9, .ref z10, .ref z11, .ref z12, .ref z13, .ref z14, .int 1, .int (-1), .int 0, .int (-1)]))]) (r_runV (As := [.int z2, .int z3]) (rest := []) (wc := [(z12, .inr (4, [.ref z15, .ref z16, .ref z17, .ref z18, .ref z19, .int 0, .int 0, .int 0, .int 0, .int 0, .int 0, .int 0, .int 0, .int 0]))]) (ci := 4) C0 hE (c_X4_pick_1456 l D T H.size z12 z2 z3 z15 z16 z17 z18 z19 (wi_ge c_1465)) mw_417 mw_418 mw_419 mw_113 mw_420 dn_416 rfl rfl ⟨Nat.le_of_ble_eq_true rfl, Nat.le_of_ble_eq_true rfl⟩ (hP.sub (ws' := [(z12, .inr (4, [.ref z15, .ref z16, .ref z17, .ref z18, .ref z19, .int 0, .int 0, .int 0, .int 0, .int 0, .int 0, .int 0, .int 0, .int 0]))]) [1] rfl) (hD.sub (ws' := [(z12, .inr (4, [.ref z15, .ref z16, .ref z17, .ref z18, .ref z19, .int 0, .int 0, .int 0, .int 0, .int 0, .int 0, .int 0, .int 0, .int 0]))]) [1] (by decide +kernel) rfl) rfl rfl rfl hl.1 rfl (Nat.le_of_ble_eq_true rfl) dX10_choose_29 ⟨Nat.le_of_ble_eq_true rfl, Nat.le_of_ble_eq_true rfl⟩) hP hD hS hA [1] [0] rfl rfl (by decide +kernel) (by decide +kernel) (fun r1468 u H locs hq hP hD hS => ?_)
      have hq : r1468 = 0 := hq
      subst hq
      have hP : va_P D vwCl [(z1, .inr (10, [.ref z4, .ref z5, .ref z6, .ref z7, .ref z8, .ref z9, .ref z10, .ref z11, .ref z12, .ref z13, .ref z14, .int 1, .int (-1), .int 0, .int (-1)])), (z12, .inr (4, [.ref z15, .ref z16, .ref z17, .ref z18, .ref z19, .int 0, .int 0, .int 0, .int 0, .int z2, .int z3, .int 0, .int 0, .int 0]))] H := hP
      have hD : va_D A [(z1, .inr (10, [.ref z4, .ref z5, .ref z6, .ref z7, .ref z8, .ref z9, .ref z10, .ref z11, .ref z12, .ref z13, .ref z14, .int 1, .int (-1), .int 0, .int (-1)])), (z12, .inr (4, [.ref z15, .ref z16, .ref z17, .ref z18, .ref z19, .int 0, .int 0, .int 0, .int 0, .int z2, .int z3, .int 0, .int 0, .int 0]))] := hD
      refine W.widen (k := 0) (n := 0) (Nat.le_of_ble_eq_true rfl) (Nat.le_of_ble_eq_true rfl) ?_
      exact r_iret () C0 hr hlocks hS (Nat.le_of_ble_eq_true rfl) (Nat.le_of_ble_eq_true rfl) dX10_choose_32 (by first | rfl | decide +kernel | simp [bi, c_1461, c_1465]) P_nil D_nil
    · skip
      have c_1465 := bi_z c_1465
      refine lv_iconst (v := (-1)) hx hb dX10_choose_21 (by decide) ?_
      exact r_iret () C0 hr hlocks hS (Nat.le_of_ble_eq_true rfl) (Nat.le_of_ble_eq_true rfl) dX10_choose_22 (by first | rfl | decide +kernel | simp [bi, c_1461, c_1465]) P_nil D_nil
set_option maxHeartbeats 4000000 in
set_option maxRecDepth 100000 in
theorem c_X10_chosen_1478 (l : Launch) (D : va_G) (T : Nat → ClassId) (sz : Nat) (z1 : Nat) (z2 : Int32) (z3 : Nat) (z4 : Nat) (z5 : Nat) (z6 : Nat) (z7 : Nat) (z8 : Nat) (z9 : Nat) (z10 : Nat) (z11 : Nat) (z12 : Nat) (z13 : Nat) (z14 : Nat) (z15 : Nat) (z16 : Nat) (z17 : Nat) (z18 : Nat) : Met l yX10_chosen (.code yX10_chosen cX10_chosen 2 (some .int) :: TB) { frames := 1, cells := 0, slots := 0, locals := 22 } (PC D T [.ref z1, .int z2] [(z1, .inr (10, [.ref z3, .ref z4, .ref z5, .ref z6, .ref z7, .ref z8, .ref z9, .ref z10, .ref z11, .ref z12, .ref z13, .int 1, .int (-1), .int 0, .int (-1)])), (z11, .inr (4, [.ref z14, .ref z15, .ref z16, .ref z17, .ref z18, .int 0, .int 0, .int 0, .int 0, .int 0, .int 0, .int 0, .int 0, .int 0]))] sz) (Qi (S := Unit) (fun (r : Int32) (_ : Unit) => r = (-1)) (fun (_ : Unit) => []) D (va_A [(z1, .inr (10, [.ref z3, .ref z4, .ref z5, .ref z6, .ref z7, .ref z8, .ref z9, .ref z10, .ref z11, .ref z12, .ref z13, .int 1, .int (-1), .int 0, .int (-1)])), (z11, .inr (4, [.ref z14, .ref z15, .ref z16, .ref z17, .ref z18, .int 0, .int 0, .int 0, .int 0, .int 0, .int 0, .int 0, .int 0, .int 0]))] sz)) 0 0 (va_A [(z1, .inr (10, [.ref z3, .ref z4, .ref z5, .ref z6, .ref z7, .ref z8, .ref z9, .ref z10, .ref z11, .ref z12, .ref z13, .int 1, .int (-1), .int 0, .int (-1)])), (z11, .inr (4, [.ref z14, .ref z15, .ref z16, .ref z17, .ref z18, .int 0, .int 0, .int 0, .int 0, .int 0, .int 0, .int 0, .int 0, .int 0]))] sz) := by
  refine ct_begin (Qc := Qi (S := Unit) (fun (r : Int32) (_ : Unit) => r = (-1)) (fun (_ : Unit) => []) D) (by decide +kernel) (Nat.le_of_ble_eq_true rfl) ?_
  intro p e s m below meth c A ls C0 hr hlocks hnm hE hA hP hD hS hl
  have hx := C0.1
  have hb := C0.2.1
  have hml := C0.2.2.1
  have hown := C0.2.2.2.1
  have hT := C0.2.2.2.2
  have hK := hE.1
  have hl : lv_has ls 2 [(0, .ref z1), (1, .int z2)] := hl
  refine lv_iload_n hx hb dX10_chosen_0 rfl (lv_at hl 1 rfl) ?_
  refine lv_iconst (v := 0) hx hb dX10_chosen_1 (by decide) ?_
  refine lv_aload_n hx hb dX10_chosen_2 rfl (lv_at hl 0 rfl) ?_
  refine va_get (D := D) (ci := 10) (v := .ref z11) (C := RX10) (T := TX10) (N := 15) hx hb hT inX10 hown hK hP 0 rfl rfl 8 (by decide) (hT _ mw_127) (fun _ h9 => h9) rfl dX10_chosen_3 ?_
  refine va_get (D := D) (ci := 4) (v := .int 0) (C := RX4) (T := TX4) (N := 14) hx hb hT inX4 hown hK hP 1 rfl rfl 8 (by decide) (hT _ mw_421) (fun _ h9 => h9) rfl dX10_chosen_6 ?_
  refine lv_iconst (v := 1) hx hb dX10_chosen_9 (by decide) ?_
  refine lv_isub hx hb dX10_chosen_10 ?_
  refine r_ci (v := (-1)) (by decide +kernel) ?_
  refine r_calli (wr := [(z1, .inr (10, [.ref z3, .ref z4, .ref z5, .ref z6, .ref z7, .ref z8, .ref z9, .ref z10, .ref z11, .ref z12, .ref z13, .int 1, .int (-1), .int 0, .int (-1)])), (z11, .inr (4, [.ref z14, .ref z15, .ref z16, .ref z17, .ref z18, .int 0, .int 0, .int 0, .int 0, .int 0, .int 0, .int 0, .int 0, .int 0]))]) (r_runS (As := [.int z2, .int 0, .int (-1)]) (rest := []) (wc := []) C0 hE (c_X10_within_944 l D T s.heap.size z2) mw_280 mw_281 mw_282 mw_283 dn_279 rfl rfl ⟨Nat.le_of_ble_eq_true rfl, Nat.le_of_ble_eq_true rfl⟩ (hP.sub (ws' := []) [] rfl) (hD.sub (ws' := []) [] (by decide +kernel) rfl) hl.1 rfl (Nat.le_of_ble_eq_true rfl) dX10_chosen_11 ⟨Nat.le_of_ble_eq_true rfl, Nat.le_of_ble_eq_true rfl⟩) hP hD hS hA [] [0, 1] rfl rfl (by decide +kernel) (by decide +kernel) (fun r1476 u H locs hq hP hD hS => ?_)
  have hq : r1476 = (bi (wi z2 0 (-1))) := hq
  subst hq
  have hP : va_P D vwCl [(z1, .inr (10, [.ref z3, .ref z4, .ref z5, .ref z6, .ref z7, .ref z8, .ref z9, .ref z10, .ref z11, .ref z12, .ref z13, .int 1, .int (-1), .int 0, .int (-1)])), (z11, .inr (4, [.ref z14, .ref z15, .ref z16, .ref z17, .ref z18, .int 0, .int 0, .int 0, .int 0, .int 0, .int 0, .int 0, .int 0, .int 0]))] H := hP
  have hD : va_D A [(z1, .inr (10, [.ref z3, .ref z4, .ref z5, .ref z6, .ref z7, .ref z8, .ref z9, .ref z10, .ref z11, .ref z12, .ref z13, .int 1, .int (-1), .int 0, .int (-1)])), (z11, .inr (4, [.ref z14, .ref z15, .ref z16, .ref z17, .ref z18, .int 0, .int 0, .int 0, .int 0, .int 0, .int 0, .int 0, .int 0, .int 0]))] := hD
  refine W.widen (k := 0) (n := 0) (Nat.le_of_ble_eq_true rfl) (Nat.le_of_ble_eq_true rfl) ?_
  refine lv_if_ne (tgt := 19) hx hb dX10_chosen_14 (by decide) (fun c_1477 => ?_) (fun c_1477 => ?_)
  · skip
    have c_1477 := bi_nz c_1477
    exact absurd c_1477 (wi_empty (by decide +kernel))
  · skip
    have c_1477 := bi_z c_1477
    refine lv_iconst (v := (-1)) hx hb dX10_chosen_17 (by decide) ?_
    exact r_iret () C0 hr hlocks hS (Nat.le_of_ble_eq_true rfl) (Nat.le_of_ble_eq_true rfl) dX10_chosen_18 (by first | rfl | decide +kernel | simp [bi, c_1477]) P_nil D_nil
set_option maxHeartbeats 4000000 in
set_option maxRecDepth 100000 in
theorem c_X2_countHooks_1489 (l : Launch) (D : va_G) (T : Nat → ClassId) (sz : Nat) (z1 : Nat) (z2 : Nat) (z3 : Nat) (z4 : Nat) (z5 : Nat) (z6 : Nat) (z7 : Nat) (z8 : Nat) (z9 : Nat) : Met l yX2_countHooks (.code yX2_countHooks cX2_countHooks 3 (some .int) :: TB) { frames := 1, cells := 0, slots := 0, locals := 21 } (PC D T [.ref z1] [(z1, .inr (2, [.ref z2, .ref z3, .ref z4, .ref z5, .ref z6, .ref z7, .ref z8, .ref z9, .int 0, .int 1, .int 1, .int 0])), (z2, .inl (T 0, 64, .inl (fl (-1) 64 (fun _ => 0))))] sz) (Qi (S := Unit) (fun (r : Int32) (_ : Unit) => r = 0) (fun (_ : Unit) => [(z1, .inr (2, [.ref z2, .ref z3, .ref z4, .ref z5, .ref z6, .ref z7, .ref z8, .ref z9, .int 0, .int 1, .int 1, .int 0])), (z2, .inl (T 0, 64, .inl (fl (-1) 64 (fun _ => 0))))]) D (va_A [(z1, .inr (2, [.ref z2, .ref z3, .ref z4, .ref z5, .ref z6, .ref z7, .ref z8, .ref z9, .int 0, .int 1, .int 1, .int 0])), (z2, .inl (T 0, 64, .inl (fl (-1) 64 (fun _ => 0))))] sz)) 0 0 (va_A [(z1, .inr (2, [.ref z2, .ref z3, .ref z4, .ref z5, .ref z6, .ref z7, .ref z8, .ref z9, .int 0, .int 1, .int 1, .int 0])), (z2, .inl (T 0, 64, .inl (fl (-1) 64 (fun _ => 0))))] sz) := by
  refine ct_begin (Qc := Qi (S := Unit) (fun (r : Int32) (_ : Unit) => r = 0) (fun (_ : Unit) => [(z1, .inr (2, [.ref z2, .ref z3, .ref z4, .ref z5, .ref z6, .ref z7, .ref z8, .ref z9, .int 0, .int 1, .int 1, .int 0])), (z2, .inl (T 0, 64, .inl (fl (-1) 64 (fun _ => 0))))]) D) (by decide +kernel) (Nat.le_of_ble_eq_true rfl) ?_
  intro p e s m below meth c A ls C0 hr hlocks hnm hE hA hP hD hS hl
  have hx := C0.1
  have hb := C0.2.1
  have hml := C0.2.2.1
  have hown := C0.2.2.2.1
  have hT := C0.2.2.2.2
  have hK := hE.1
  have hl : lv_has ls 3 [(0, .ref z1)] := hl
  refine lv_iconst (v := 0) hx hb dX2_countHooks_0 (by decide) ?_
  refine lv_istore_n (lv' := [(1, .int 0), (0, .ref z1)]) hx hb dX2_countHooks_1 rfl hl (by decide) rfl (fun ls hl => ?_)
  refine lv_iconst (v := 0) hx hb dX2_countHooks_2 (by decide) ?_
  refine lv_istore_n (lv' := [(2, .int 0), (1, .int 0), (0, .ref z1)]) hx hb dX2_countHooks_3 rfl hl (by decide) rfl (fun ls hl => ?_)
  refine lv_iload_n hx hb dX2_countHooks_4 rfl (lv_at hl 0 rfl) ?_
  refine lv_aload_n hx hb dX2_countHooks_5 rfl (lv_at hl 2 rfl) ?_
  refine va_get (D := D) (ci := 2) (v := .int 1) (C := RX2) (T := TX2) (N := 12) hx hb hT inX2 hown hK hP 0 rfl rfl 9 (by decide) (hT _ mw_72) (fun _ h9 => h9) rfl dX2_countHooks_6 ?_
  refine lv_icmp_ge (tgt := 29) hx hb dX2_countHooks_9 (by decide) (fun hc => absurd hc (by decide +kernel)) (fun _ => ?_)
  refine lv_aload_n hx hb dX2_countHooks_12 rfl (lv_at hl 2 rfl) ?_
  refine lv_iload_n hx hb dX2_countHooks_13 rfl (lv_at hl 0 rfl) ?_
  refine r_calli (wr := []) (r_runV (As := [.int 0]) (rest := []) (wc := [(z1, .inr (2, [.ref z2, .ref z3, .ref z4, .ref z5, .ref z6, .ref z7, .ref z8, .ref z9, .int 0, .int 1, .int 1, .int 0])), (z2, .inl (T 0, 64, .inl (fl (-1) 64 (fun _ => 0))))]) (ci := 2) C0 hE (c_X2_hasHook_1189 l D T s.heap.size z1 z2 z3 z4 z5 z6 z7 z8 z9) mw_422 mw_359 mw_360 mw_32 mw_361 dn_357 rfl rfl ⟨Nat.le_of_ble_eq_true rfl, Nat.le_of_ble_eq_true rfl⟩ (hP.sub (ws' := [(z1, .inr (2, [.ref z2, .ref z3, .ref z4, .ref z5, .ref z6, .ref z7, .ref z8, .ref z9, .int 0, .int 1, .int 1, .int 0])), (z2, .inl (T 0, 64, .inl (fl (-1) 64 (fun _ => 0))))]) [0, 1] rfl) (hD.sub (ws' := [(z1, .inr (2, [.ref z2, .ref z3, .ref z4, .ref z5, .ref z6, .ref z7, .ref z8, .ref z9, .int 0, .int 1, .int 1, .int 0])), (z2, .inl (T 0, 64, .inl (fl (-1) 64 (fun _ => 0))))]) [0, 1] (by decide +kernel) rfl) rfl rfl rfl hl.1 rfl (Nat.le_of_ble_eq_true rfl) dX2_countHooks_14 ⟨Nat.le_of_ble_eq_true rfl, Nat.le_of_ble_eq_true rfl⟩) hP hD hS hA [0, 1] [] rfl rfl (by decide +kernel) (by decide +kernel) (fun r1488 u H locs hq hP hD hS => ?_)
  have hq : r1488 = 0 := hq
  subst hq
  have hP : va_P D vwCl [(z1, .inr (2, [.ref z2, .ref z3, .ref z4, .ref z5, .ref z6, .ref z7, .ref z8, .ref z9, .int 0, .int 1, .int 1, .int 0])), (z2, .inl (T 0, 64, .inl (fl (-1) 64 (fun _ => 0))))] H := hP
  have hD : va_D A [(z1, .inr (2, [.ref z2, .ref z3, .ref z4, .ref z5, .ref z6, .ref z7, .ref z8, .ref z9, .int 0, .int 1, .int 1, .int 0])), (z2, .inl (T 0, 64, .inl (fl (-1) 64 (fun _ => 0))))] := hD
  refine W.widen (k := 0) (n := 0) (Nat.le_of_ble_eq_true rfl) (Nat.le_of_ble_eq_true rfl) ?_
  refine lv_if_eq (tgt := 23) hx hb dX2_countHooks_17 (by decide) (fun _ => ?_) (fun hc => absurd (by decide +kernel) hc)
  refine lv_iinc (v := 1) (lv' := [(2, .int 1), (1, .int 0), (0, .ref z1)]) hx hb dX2_countHooks_23 hl (k := 0) rfl (by decide +kernel) (by decide) rfl (fun ls hl => ?_)
  refine lv_goto (tgt := 4) hx hb dX2_countHooks_26 (by decide) ?_
  refine lv_iload_n hx hb dX2_countHooks_4 rfl (lv_at hl 0 rfl) ?_
  refine lv_aload_n hx hb dX2_countHooks_5 rfl (lv_at hl 2 rfl) ?_
  refine va_get (D := D) (ci := 2) (v := .int 1) (C := RX2) (T := TX2) (N := 12) hx hb hT inX2 hown hK hP 0 rfl rfl 9 (by decide) (hT _ mw_72) (fun _ h9 => h9) rfl dX2_countHooks_6 ?_
  refine lv_icmp_ge (tgt := 29) hx hb dX2_countHooks_9 (by decide) (fun _ => ?_) (fun hc => absurd (by decide +kernel) hc)
  refine lv_iload_n hx hb dX2_countHooks_29 rfl (lv_at hl 1 rfl) ?_
  exact r_iret () C0 hr hlocks hS (Nat.le_of_ble_eq_true rfl) (Nat.le_of_ble_eq_true rfl) dX2_countHooks_30 rfl hP hD
set_option maxHeartbeats 4000000 in
set_option maxRecDepth 100000 in
theorem c_X10_all_1505 (l : Launch) (D : va_G) (T : Nat → ClassId) (sz : Nat) (z1 : Nat) (z2 : Int32) (z3 : Nat) (z4 : Nat) (z5 : Nat) (z6 : Nat) (z7 : Nat) (z8 : Nat) (z9 : Nat) (z10 : Nat) (z11 : Nat) (z12 : Nat) (z13 : Nat) (z14 : Nat) (z15 : Nat) (z16 : Nat) (z17 : Nat) (z18 : Nat) (z19 : Nat) (z20 : Nat) (z21 : Nat) (z22 : Nat) (z23 : Nat) (z24 : Nat) (z25 : Nat) (z26 : Nat) (z27 : Nat) (z28 : Nat) (z29 : Nat) (z30 : Nat) (z31 : Nat) (z32 : Nat) (z33 : Nat) (z34 : Nat) (z35 : Nat) (z36 : Nat) (z37 : Nat) (z38 : Nat) (z39 : Nat) (z40 : Nat) (z41 : Nat) : Met l yX10_all (.code yX10_all cX10_all 2 (some .int) :: TB) { frames := 2, cells := 0, slots := 0, locals := 48 } (PC D T [.ref z1, .int z2] [(z1, .inr (10, [.ref z3, .ref z4, .ref z5, .ref z6, .ref z7, .ref z8, .ref z9, .ref z10, .ref z11, .ref z12, .ref z13, .int 1, .int (-1), .int 0, .int (-1)])), (z5, .inr (0, [.ref z14, .ref z15, .ref z16, .ref z17, .ref z18, .ref z19, .int 0])), (z11, .inr (4, [.ref z20, .ref z21, .ref z22, .ref z23, .ref z24, .int 0, .int 0, .int 0, .int 0, .int 0, .int 0, .int 0, .int 0, .int 0])), (z12, .inr (8, [.ref z25, .ref z26, .ref z27, .ref z28, .ref z29, .ref z30, .ref z31, .ref z32, .ref z33, .int 0, .int 0, .int 0, .int 0])), (z6, .inr (2, [.ref z34, .ref z35, .ref z36, .ref z37, .ref z38, .ref z39, .ref z40, .ref z41, .int 0, .int 1, .int 1, .int 0])), (z34, .inl (T 0, 64, .inl (fl (-1) 64 (fun _ => 0))))] sz) (Qi (S := Unit) (fun (r : Int32) (_ : Unit) => r = (if z2 = 0 then 1 else if z2 = 1 then 0 else if z2 = 2 then 0 else if z2 = 3 then 0 else if z2 = 4 then 0 else if z2 = 5 then 0 else if z2 = 6 then 0 else (-1))) (fun (_ : Unit) => []) D (va_A [(z1, .inr (10, [.ref z3, .ref z4, .ref z5, .ref z6, .ref z7, .ref z8, .ref z9, .ref z10, .ref z11, .ref z12, .ref z13, .int 1, .int (-1), .int 0, .int (-1)])), (z5, .inr (0, [.ref z14, .ref z15, .ref z16, .ref z17, .ref z18, .ref z19, .int 0])), (z11, .inr (4, [.ref z20, .ref z21, .ref z22, .ref z23, .ref z24, .int 0, .int 0, .int 0, .int 0, .int 0, .int 0, .int 0, .int 0, .int 0])), (z12, .inr (8, [.ref z25, .ref z26, .ref z27, .ref z28, .ref z29, .ref z30, .ref z31, .ref z32, .ref z33, .int 0, .int 0, .int 0, .int 0])), (z6, .inr (2, [.ref z34, .ref z35, .ref z36, .ref z37, .ref z38, .ref z39, .ref z40, .ref z41, .int 0, .int 1, .int 1, .int 0])), (z34, .inl (T 0, 64, .inl (fl (-1) 64 (fun _ => 0))))] sz)) 0 0 (va_A [(z1, .inr (10, [.ref z3, .ref z4, .ref z5, .ref z6, .ref z7, .ref z8, .ref z9, .ref z10, .ref z11, .ref z12, .ref z13, .int 1, .int (-1), .int 0, .int (-1)])), (z5, .inr (0, [.ref z14, .ref z15, .ref z16, .ref z17, .ref z18, .ref z19, .int 0])), (z11, .inr (4, [.ref z20, .ref z21, .ref z22, .ref z23, .ref z24, .int 0, .int 0, .int 0, .int 0, .int 0, .int 0, .int 0, .int 0, .int 0])), (z12, .inr (8, [.ref z25, .ref z26, .ref z27, .ref z28, .ref z29, .ref z30, .ref z31, .ref z32, .ref z33, .int 0, .int 0, .int 0, .int 0])), (z6, .inr (2, [.ref z34, .ref z35, .ref z36, .ref z37, .ref z38, .ref z39, .ref z40, .ref z41, .int 0, .int 1, .int 1, .int 0])), (z34, .inl (T 0, 64, .inl (fl (-1) 64 (fun _ => 0))))] sz) := by
  refine ct_begin (Qc := Qi (S := Unit) (fun (r : Int32) (_ : Unit) => r = (if z2 = 0 then 1 else if z2 = 1 then 0 else if z2 = 2 then 0 else if z2 = 3 then 0 else if z2 = 4 then 0 else if z2 = 5 then 0 else if z2 = 6 then 0 else (-1))) (fun (_ : Unit) => []) D) (by decide +kernel) (Nat.le_of_ble_eq_true rfl) ?_
  intro p e s m below meth c A ls C0 hr hlocks hnm hE hA hP hD hS hl
  have hx := C0.1
  have hb := C0.2.1
  have hml := C0.2.2.1
  have hown := C0.2.2.2.1
  have hT := C0.2.2.2.2
  have hK := hE.1
  have hl : lv_has ls 2 [(0, .ref z1), (1, .int z2)] := hl
  refine lv_iload_n hx hb dX10_all_0 rfl (lv_at hl 1 rfl) ?_
  by_cases c_1493 : z2 = 0
  · skip
    subst c_1493
    refine lv_tableIn (tgt := 44) hx hb dX10_all_1 (by decide +kernel) (by decide +kernel) rfl (by decide) ?_
    refine lv_aload_n hx hb dX10_all_44 rfl (lv_at hl 0 rfl) ?_
    refine va_get (D := D) (ci := 10) (v := .int 1) (C := RX10) (T := TX10) (N := 15) hx hb hT inX10 hown hK hP 0 rfl rfl 11 (by decide) (hT _ mw_163) (fun _ h9 => h9) rfl dX10_all_45 ?_
    exact r_iret () C0 hr hlocks hS (Nat.le_of_ble_eq_true rfl) (Nat.le_of_ble_eq_true rfl) dX10_all_48 (by first | rfl | decide +kernel | simp [bi]) P_nil D_nil
  · skip
    by_cases c_1494 : z2 = 1
    · skip
      subst c_1494
      refine lv_tableIn (tgt := 49) hx hb dX10_all_1 (by decide +kernel) (by decide +kernel) rfl (by decide) ?_
      refine lv_aload_n hx hb dX10_all_49 rfl (lv_at hl 0 rfl) ?_
      refine va_get (D := D) (ci := 10) (v := .ref z12) (C := RX10) (T := TX10) (N := 15) hx hb hT inX10 hown hK hP 0 rfl rfl 9 (by decide) (hT _ mw_148) (fun _ h9 => h9) rfl dX10_all_50 ?_
      refine va_get (D := D) (ci := 8) (v := .int 0) (C := RX8) (T := TX8) (N := 13) hx hb hT inX8 hown hK hP 3 rfl rfl 9 (by decide) (hT _ mw_321) (fun _ h9 => h9) rfl dX10_all_53 ?_
      exact r_iret () C0 hr hlocks hS (Nat.le_of_ble_eq_true rfl) (Nat.le_of_ble_eq_true rfl) dX10_all_56 (by first | rfl | decide +kernel | simp [bi, c_1493]) P_nil D_nil
    · skip
      by_cases c_1495 : z2 = 2
      · skip
        subst c_1495
        refine lv_tableIn (tgt := 57) hx hb dX10_all_1 (by decide +kernel) (by decide +kernel) rfl (by decide) ?_
        refine lv_aload_n hx hb dX10_all_57 rfl (lv_at hl 0 rfl) ?_
        refine va_get (D := D) (ci := 10) (v := .ref z5) (C := RX10) (T := TX10) (N := 15) hx hb hT inX10 hown hK hP 0 rfl rfl 2 (by decide) (hT _ mw_29) (fun _ h9 => h9) rfl dX10_all_58 ?_
        refine va_get (D := D) (ci := 0) (v := .int 0) (C := RX0) (T := TX0) (N := 7) hx hb hT inX0 hown hK hP 1 rfl rfl 6 (by decide) (hT _ mw_310) (fun _ h9 => h9) rfl dX10_all_61 ?_
        exact r_iret () C0 hr hlocks hS (Nat.le_of_ble_eq_true rfl) (Nat.le_of_ble_eq_true rfl) dX10_all_64 (by first | rfl | decide +kernel | simp [bi, c_1493, c_1493, c_1494]) P_nil D_nil
      · skip
        by_cases c_1496 : z2 = 3
        · skip
          subst c_1496
          refine lv_tableIn (tgt := 65) hx hb dX10_all_1 (by decide +kernel) (by decide +kernel) rfl (by decide) ?_
          refine lv_aload_n hx hb dX10_all_65 rfl (lv_at hl 0 rfl) ?_
          refine r_calli (wr := [(z11, .inr (4, [.ref z20, .ref z21, .ref z22, .ref z23, .ref z24, .int 0, .int 0, .int 0, .int 0, .int 0, .int 0, .int 0, .int 0, .int 0])), (z12, .inr (8, [.ref z25, .ref z26, .ref z27, .ref z28, .ref z29, .ref z30, .ref z31, .ref z32, .ref z33, .int 0, .int 0, .int 0, .int 0])), (z6, .inr (2, [.ref z34, .ref z35, .ref z36, .ref z37, .ref z38, .ref z39, .ref z40, .ref z41, .int 0, .int 1, .int 1, .int 0])), (z34, .inl (T 0, 64, .inl (fl (-1) 64 (fun _ => 0))))]) (r_runV (As := []) (rest := []) (wc := [(z1, .inr (10, [.ref z3, .ref z4, .ref z5, .ref z6, .ref z7, .ref z8, .ref z9, .ref z10, .ref z11, .ref z12, .ref z13, .int 1, .int (-1), .int 0, .int (-1)])), (z5, .inr (0, [.ref z14, .ref z15, .ref z16, .ref z17, .ref z18, .ref z19, .int 0]))]) (ci := 10) C0 hE (c_X10_toldAct_1182 l D T s.heap.size z1 z3 z4 z5 z6 z7 z8 z9 z10 z11 z12 z13 z14 z15 z16 z17 z18 z19) mw_342 mw_343 mw_344 mw_282 mw_345 dn_341 rfl rfl ⟨Nat.le_of_ble_eq_true rfl, Nat.le_of_ble_eq_true rfl⟩ (hP.sub (ws' := [(z1, .inr (10, [.ref z3, .ref z4, .ref z5, .ref z6, .ref z7, .ref z8, .ref z9, .ref z10, .ref z11, .ref z12, .ref z13, .int 1, .int (-1), .int 0, .int (-1)])), (z5, .inr (0, [.ref z14, .ref z15, .ref z16, .ref z17, .ref z18, .ref z19, .int 0]))]) [0, 1] rfl) (hD.sub (ws' := [(z1, .inr (10, [.ref z3, .ref z4, .ref z5, .ref z6, .ref z7, .ref z8, .ref z9, .ref z10, .ref z11, .ref z12, .ref z13, .int 1, .int (-1), .int 0, .int (-1)])), (z5, .inr (0, [.ref z14, .ref z15, .ref z16, .ref z17, .ref z18, .ref z19, .int 0]))]) [0, 1] (by decide +kernel) rfl) rfl rfl rfl hl.1 rfl (Nat.le_of_ble_eq_true rfl) dX10_all_66 ⟨Nat.le_of_ble_eq_true rfl, Nat.le_of_ble_eq_true rfl⟩) hP hD hS hA [0, 1] [2, 3, 4, 5] rfl rfl (by decide +kernel) (by decide +kernel) (fun r1497 u H locs hq hP hD hS => ?_)
          have hq : r1497 = 0 := hq
          subst hq
          have hP : va_P D vwCl [(z11, .inr (4, [.ref z20, .ref z21, .ref z22, .ref z23, .ref z24, .int 0, .int 0, .int 0, .int 0, .int 0, .int 0, .int 0, .int 0, .int 0])), (z12, .inr (8, [.ref z25, .ref z26, .ref z27, .ref z28, .ref z29, .ref z30, .ref z31, .ref z32, .ref z33, .int 0, .int 0, .int 0, .int 0])), (z6, .inr (2, [.ref z34, .ref z35, .ref z36, .ref z37, .ref z38, .ref z39, .ref z40, .ref z41, .int 0, .int 1, .int 1, .int 0])), (z34, .inl (T 0, 64, .inl (fl (-1) 64 (fun _ => 0)))), (z1, .inr (10, [.ref z3, .ref z4, .ref z5, .ref z6, .ref z7, .ref z8, .ref z9, .ref z10, .ref z11, .ref z12, .ref z13, .int 1, .int (-1), .int 0, .int (-1)])), (z5, .inr (0, [.ref z14, .ref z15, .ref z16, .ref z17, .ref z18, .ref z19, .int 0]))] H := hP
          have hD : va_D A [(z11, .inr (4, [.ref z20, .ref z21, .ref z22, .ref z23, .ref z24, .int 0, .int 0, .int 0, .int 0, .int 0, .int 0, .int 0, .int 0, .int 0])), (z12, .inr (8, [.ref z25, .ref z26, .ref z27, .ref z28, .ref z29, .ref z30, .ref z31, .ref z32, .ref z33, .int 0, .int 0, .int 0, .int 0])), (z6, .inr (2, [.ref z34, .ref z35, .ref z36, .ref z37, .ref z38, .ref z39, .ref z40, .ref z41, .int 0, .int 1, .int 1, .int 0])), (z34, .inl (T 0, 64, .inl (fl (-1) 64 (fun _ => 0)))), (z1, .inr (10, [.ref z3, .ref z4, .ref z5, .ref z6, .ref z7, .ref z8, .ref z9, .ref z10, .ref z11, .ref z12, .ref z13, .int 1, .int (-1), .int 0, .int (-1)])), (z5, .inr (0, [.ref z14, .ref z15, .ref z16, .ref z17, .ref z18, .ref z19, .int 0]))] := hD
          refine W.widen (k := 0) (n := 0) (Nat.le_of_ble_eq_true rfl) (Nat.le_of_ble_eq_true rfl) ?_
          exact r_iret () C0 hr hlocks hS (Nat.le_of_ble_eq_true rfl) (Nat.le_of_ble_eq_true rfl) dX10_all_69 (by first | rfl | decide +kernel | simp [bi, c_1493, c_1493, c_1494, c_1493, c_1494, c_1495]) P_nil D_nil
        · skip
          by_cases c_1498 : z2 = 4
          · skip
            subst c_1498
            refine lv_tableIn (tgt := 70) hx hb dX10_all_1 (by decide +kernel) (by decide +kernel) rfl (by decide) ?_
            refine lv_aload_n hx hb dX10_all_70 rfl (lv_at hl 0 rfl) ?_
            refine r_callr (wr := [(z11, .inr (4, [.ref z20, .ref z21, .ref z22, .ref z23, .ref z24, .int 0, .int 0, .int 0, .int 0, .int 0, .int 0, .int 0, .int 0, .int 0])), (z12, .inr (8, [.ref z25, .ref z26, .ref z27, .ref z28, .ref z29, .ref z30, .ref z31, .ref z32, .ref z33, .int 0, .int 0, .int 0, .int 0])), (z34, .inl (T 0, 64, .inl (fl (-1) 64 (fun _ => 0))))]) (r_runV (As := []) (rest := []) (wc := [(z1, .inr (10, [.ref z3, .ref z4, .ref z5, .ref z6, .ref z7, .ref z8, .ref z9, .ref z10, .ref z11, .ref z12, .ref z13, .int 1, .int (-1), .int 0, .int (-1)])), (z5, .inr (0, [.ref z14, .ref z15, .ref z16, .ref z17, .ref z18, .ref z19, .int 0])), (z6, .inr (2, [.ref z34, .ref z35, .ref z36, .ref z37, .ref z38, .ref z39, .ref z40, .ref z41, .int 0, .int 1, .int 1, .int 0]))]) (ci := 10) C0 hE (c_X10_broughtUp_1188 l D T s.heap.size z1 z3 z4 z5 z6 z7 z8 z9 z10 z11 z12 z13 z14 z15 z16 z17 z18 z19 z34 z35 z36 z37 z38 z39 z40 z41) mw_353 mw_354 mw_355 mw_282 mw_356 dn_352 rfl rfl ⟨Nat.le_of_ble_eq_true rfl, Nat.le_of_ble_eq_true rfl⟩ (hP.sub (ws' := [(z1, .inr (10, [.ref z3, .ref z4, .ref z5, .ref z6, .ref z7, .ref z8, .ref z9, .ref z10, .ref z11, .ref z12, .ref z13, .int 1, .int (-1), .int 0, .int (-1)])), (z5, .inr (0, [.ref z14, .ref z15, .ref z16, .ref z17, .ref z18, .ref z19, .int 0])), (z6, .inr (2, [.ref z34, .ref z35, .ref z36, .ref z37, .ref z38, .ref z39, .ref z40, .ref z41, .int 0, .int 1, .int 1, .int 0]))]) [0, 1, 4] rfl) (hD.sub (ws' := [(z1, .inr (10, [.ref z3, .ref z4, .ref z5, .ref z6, .ref z7, .ref z8, .ref z9, .ref z10, .ref z11, .ref z12, .ref z13, .int 1, .int (-1), .int 0, .int (-1)])), (z5, .inr (0, [.ref z14, .ref z15, .ref z16, .ref z17, .ref z18, .ref z19, .int 0])), (z6, .inr (2, [.ref z34, .ref z35, .ref z36, .ref z37, .ref z38, .ref z39, .ref z40, .ref z41, .int 0, .int 1, .int 1, .int 0]))]) [0, 1, 4] (by decide +kernel) rfl) rfl rfl rfl hl.1 rfl (Nat.le_of_ble_eq_true rfl) dX10_all_71 ⟨Nat.le_of_ble_eq_true rfl, Nat.le_of_ble_eq_true rfl⟩) hP hD hS hA [0, 1, 4] [2, 3, 5] rfl rfl (by decide +kernel) (by decide +kernel) (fun  u H locs hP hD hS => ?_)
            have hP : va_P D vwCl [(z11, .inr (4, [.ref z20, .ref z21, .ref z22, .ref z23, .ref z24, .int 0, .int 0, .int 0, .int 0, .int 0, .int 0, .int 0, .int 0, .int 0])), (z12, .inr (8, [.ref z25, .ref z26, .ref z27, .ref z28, .ref z29, .ref z30, .ref z31, .ref z32, .ref z33, .int 0, .int 0, .int 0, .int 0])), (z34, .inl (T 0, 64, .inl (fl (-1) 64 (fun _ => 0)))), (z6, .inr (2, [.ref z34, .ref z35, .ref z36, .ref z37, .ref z38, .ref z39, .ref z40, .ref z41, .int 0, .int 1, .int 1, .int 0])), (z1, .inr (10, [.ref z3, .ref z4, .ref z5, .ref z6, .ref z7, .ref z8, .ref z9, .ref z10, .ref z11, .ref z12, .ref z13, .int 1, .int (-1), .int 0, .int (-1)])), (z5, .inr (0, [.ref z14, .ref z15, .ref z16, .ref z17, .ref z18, .ref z19, .int 0]))] H := hP
            have hD : va_D A [(z11, .inr (4, [.ref z20, .ref z21, .ref z22, .ref z23, .ref z24, .int 0, .int 0, .int 0, .int 0, .int 0, .int 0, .int 0, .int 0, .int 0])), (z12, .inr (8, [.ref z25, .ref z26, .ref z27, .ref z28, .ref z29, .ref z30, .ref z31, .ref z32, .ref z33, .int 0, .int 0, .int 0, .int 0])), (z34, .inl (T 0, 64, .inl (fl (-1) 64 (fun _ => 0)))), (z6, .inr (2, [.ref z34, .ref z35, .ref z36, .ref z37, .ref z38, .ref z39, .ref z40, .ref z41, .int 0, .int 1, .int 1, .int 0])), (z1, .inr (10, [.ref z3, .ref z4, .ref z5, .ref z6, .ref z7, .ref z8, .ref z9, .ref z10, .ref z11, .ref z12, .ref z13, .int 1, .int (-1), .int 0, .int (-1)])), (z5, .inr (0, [.ref z14, .ref z15, .ref z16, .ref z17, .ref z18, .ref z19, .int 0]))] := hD
            refine W.eq (g2 := F0 m 74 ls [.ref z6]) rfl ?_
            refine W.widen (k := 0) (n := 0) (Nat.le_of_ble_eq_true rfl) (Nat.le_of_ble_eq_true rfl) ?_
            refine r_calli (wr := [(z11, .inr (4, [.ref z20, .ref z21, .ref z22, .ref z23, .ref z24, .int 0, .int 0, .int 0, .int 0, .int 0, .int 0, .int 0, .int 0, .int 0])), (z12, .inr (8, [.ref z25, .ref z26, .ref z27, .ref z28, .ref z29, .ref z30, .ref z31, .ref z32, .ref z33, .int 0, .int 0, .int 0, .int 0])), (z1, .inr (10, [.ref z3, .ref z4, .ref z5, .ref z6, .ref z7, .ref z8, .ref z9, .ref z10, .ref z11, .ref z12, .ref z13, .int 1, .int (-1), .int 0, .int (-1)])), (z5, .inr (0, [.ref z14, .ref z15, .ref z16, .ref z17, .ref z18, .ref z19, .int 0]))]) (r_runV (As := []) (rest := []) (wc := [(z6, .inr (2, [.ref z34, .ref z35, .ref z36, .ref z37, .ref z38, .ref z39, .ref z40, .ref z41, .int 0, .int 1, .int 1, .int 0])), (z34, .inl (T 0, 64, .inl (fl (-1) 64 (fun _ => 0))))]) (ci := 2) C0 hE (c_X2_countHooks_1489 l D T H.size z6 z34 z35 z36 z37 z38 z39 z40 z41) mw_424 mw_425 mw_426 mw_32 mw_427 dn_423 rfl rfl ⟨Nat.le_of_ble_eq_true rfl, Nat.le_of_ble_eq_true rfl⟩ (hP.sub (ws' := [(z6, .inr (2, [.ref z34, .ref z35, .ref z36, .ref z37, .ref z38, .ref z39, .ref z40, .ref z41, .int 0, .int 1, .int 1, .int 0])), (z34, .inl (T 0, 64, .inl (fl (-1) 64 (fun _ => 0))))]) [3, 2] rfl) (hD.sub (ws' := [(z6, .inr (2, [.ref z34, .ref z35, .ref z36, .ref z37, .ref z38, .ref z39, .ref z40, .ref z41, .int 0, .int 1, .int 1, .int 0])), (z34, .inl (T 0, 64, .inl (fl (-1) 64 (fun _ => 0))))]) [3, 2] (by decide +kernel) rfl) rfl rfl rfl hl.1 rfl (Nat.le_of_ble_eq_true rfl) dX10_all_74 ⟨Nat.le_of_ble_eq_true rfl, Nat.le_of_ble_eq_true rfl⟩) hP hD hS hA [3, 2] [0, 1, 4, 5] rfl rfl (by decide +kernel) (by decide +kernel) (fun r1502 u H locs hq hP hD hS => ?_)
            have hq : r1502 = 0 := hq
            subst hq
            have hP : va_P D vwCl [(z11, .inr (4, [.ref z20, .ref z21, .ref z22, .ref z23, .ref z24, .int 0, .int 0, .int 0, .int 0, .int 0, .int 0, .int 0, .int 0, .int 0])), (z12, .inr (8, [.ref z25, .ref z26, .ref z27, .ref z28, .ref z29, .ref z30, .ref z31, .ref z32, .ref z33, .int 0, .int 0, .int 0, .int 0])), (z1, .inr (10, [.ref z3, .ref z4, .ref z5, .ref z6, .ref z7, .ref z8, .ref z9, .ref z10, .ref z11, .ref z12, .ref z13, .int 1, .int (-1), .int 0, .int (-1)])), (z5, .inr (0, [.ref z14, .ref z15, .ref z16, .ref z17, .ref z18, .ref z19, .int 0])), (z6, .inr (2, [.ref z34, .ref z35, .ref z36, .ref z37, .ref z38, .ref z39, .ref z40, .ref z41, .int 0, .int 1, .int 1, .int 0])), (z34, .inl (T 0, 64, .inl (fl (-1) 64 (fun _ => 0))))] H := hP
            have hD : va_D A [(z11, .inr (4, [.ref z20, .ref z21, .ref z22, .ref z23, .ref z24, .int 0, .int 0, .int 0, .int 0, .int 0, .int 0, .int 0, .int 0, .int 0])), (z12, .inr (8, [.ref z25, .ref z26, .ref z27, .ref z28, .ref z29, .ref z30, .ref z31, .ref z32, .ref z33, .int 0, .int 0, .int 0, .int 0])), (z1, .inr (10, [.ref z3, .ref z4, .ref z5, .ref z6, .ref z7, .ref z8, .ref z9, .ref z10, .ref z11, .ref z12, .ref z13, .int 1, .int (-1), .int 0, .int (-1)])), (z5, .inr (0, [.ref z14, .ref z15, .ref z16, .ref z17, .ref z18, .ref z19, .int 0])), (z6, .inr (2, [.ref z34, .ref z35, .ref z36, .ref z37, .ref z38, .ref z39, .ref z40, .ref z41, .int 0, .int 1, .int 1, .int 0])), (z34, .inl (T 0, 64, .inl (fl (-1) 64 (fun _ => 0))))] := hD
            refine W.widen (k := 0) (n := 0) (Nat.le_of_ble_eq_true rfl) (Nat.le_of_ble_eq_true rfl) ?_
            exact r_iret () C0 hr hlocks hS (Nat.le_of_ble_eq_true rfl) (Nat.le_of_ble_eq_true rfl) dX10_all_77 (by first | rfl | decide +kernel | simp [bi, c_1493, c_1493, c_1494, c_1493, c_1494, c_1495, c_1493, c_1494, c_1495, c_1496]) P_nil D_nil
          · skip
            by_cases c_1503 : z2 = 5
            · skip
              subst c_1503
              refine lv_tableIn (tgt := 78) hx hb dX10_all_1 (by decide +kernel) (by decide +kernel) rfl (by decide) ?_
              refine lv_aload_n hx hb dX10_all_78 rfl (lv_at hl 0 rfl) ?_
              refine va_get (D := D) (ci := 10) (v := .ref z11) (C := RX10) (T := TX10) (N := 15) hx hb hT inX10 hown hK hP 0 rfl rfl 8 (by decide) (hT _ mw_127) (fun _ h9 => h9) rfl dX10_all_79 ?_
              refine va_get (D := D) (ci := 4) (v := .int 0) (C := RX4) (T := TX4) (N := 14) hx hb hT inX4 hown hK hP 2 rfl rfl 5 (by decide) (hT _ mw_398) (fun _ h9 => h9) rfl dX10_all_82 ?_
              exact r_iret () C0 hr hlocks hS (Nat.le_of_ble_eq_true rfl) (Nat.le_of_ble_eq_true rfl) dX10_all_85 (by first | rfl | decide +kernel | simp [bi, c_1493, c_1493, c_1494, c_1493, c_1494, c_1495, c_1493, c_1494, c_1495, c_1496, c_1493, c_1494, c_1495, c_1496, c_1498]) P_nil D_nil
            · skip
              by_cases c_1504 : z2 = 6
              · skip
                subst c_1504
                refine lv_tableIn (tgt := 86) hx hb dX10_all_1 (by decide +kernel) (by decide +kernel) rfl (by decide) ?_
                refine lv_aload_n hx hb dX10_all_86 rfl (lv_at hl 0 rfl) ?_
                refine va_get (D := D) (ci := 10) (v := .ref z11) (C := RX10) (T := TX10) (N := 15) hx hb hT inX10 hown hK hP 0 rfl rfl 8 (by decide) (hT _ mw_127) (fun _ h9 => h9) rfl dX10_all_87 ?_
                refine va_get (D := D) (ci := 4) (v := .int 0) (C := RX4) (T := TX4) (N := 14) hx hb hT inX4 hown hK hP 2 rfl rfl 6 (by decide) (hT _ mw_399) (fun _ h9 => h9) rfl dX10_all_90 ?_
                exact r_iret () C0 hr hlocks hS (Nat.le_of_ble_eq_true rfl) (Nat.le_of_ble_eq_true rfl) dX10_all_93 (by first | rfl | decide +kernel | simp [bi, c_1493, c_1493, c_1494, c_1493, c_1494, c_1495, c_1493, c_1494, c_1495, c_1496, c_1493, c_1494, c_1495, c_1496, c_1498, c_1493, c_1494, c_1495, c_1496, c_1498, c_1503]) P_nil D_nil
              · skip
                have nc_1493 := lv_neT (a := 0) c_1493 (by decide +kernel)
                have nc_1494 := lv_neT (a := 1) c_1494 (by decide +kernel)
                have nc_1495 := lv_neT (a := 2) c_1495 (by decide +kernel)
                have nc_1496 := lv_neT (a := 3) c_1496 (by decide +kernel)
                have nc_1498 := lv_neT (a := 4) c_1498 (by decide +kernel)
                have nc_1503 := lv_neT (a := 5) c_1503 (by decide +kernel)
                have nc_1504 := lv_neT (a := 6) c_1504 (by decide +kernel)
                refine lv_tableOut (tgt := 94) hx hb dX10_all_1 (by omega) (by decide) ?_
                refine lv_iconst (v := (-1)) hx hb dX10_all_94 (by decide) ?_
                exact r_iret () C0 hr hlocks hS (Nat.le_of_ble_eq_true rfl) (Nat.le_of_ble_eq_true rfl) dX10_all_95 (by first | rfl | decide +kernel | simp [bi, c_1493, c_1493, c_1494, c_1493, c_1494, c_1495, c_1493, c_1494, c_1495, c_1496, c_1493, c_1494, c_1495, c_1496, c_1498, c_1493, c_1494, c_1495, c_1496, c_1498, c_1503, c_1493, c_1494, c_1495, c_1496, c_1498, c_1503, c_1504]) P_nil D_nil
