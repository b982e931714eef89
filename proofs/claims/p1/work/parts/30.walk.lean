set_option maxHeartbeats 4000000 in
set_option maxRecDepth 100000 in
theorem c_X3_begin_1286 (l : Launch) (D : va_G) (T : Nat → ClassId) (sz : Nat) (z1 : Nat) (z2 : Nat) : Met l yX3_begin (.code yX3_begin cX3_begin 1 none :: TB) { frames := 0, cells := 0, slots := 0, locals := 0 } (PC D T [.ref z1] [(z1, .inr (3, [.ref z2, .int 0, .int 0])), (z2, .inl (T 1, 65, .inr (.inl (fun _ => 0))))] sz) (Qv (S := (Nat → Int64)) (fun (f1285 : (Nat → Int64)) => [(z1, .inr (3, [.ref z2, .int 0, .int 1])), (z2, .inl (T 1, 65, .inr (.inl f1285)))]) D (va_A [(z1, .inr (3, [.ref z2, .int 0, .int 0])), (z2, .inl (T 1, 65, .inr (.inl (fun _ => 0))))] sz)) 0 0 (va_A [(z1, .inr (3, [.ref z2, .int 0, .int 0])), (z2, .inl (T 1, 65, .inr (.inl (fun _ => 0))))] sz) := by
  refine ct_begin (Qc := Qv (S := (Nat → Int64)) (fun (f1285 : (Nat → Int64)) => [(z1, .inr (3, [.ref z2, .int 0, .int 1])), (z2, .inl (T 1, 65, .inr (.inl f1285)))]) D) (by decide +kernel) (Nat.le_of_ble_eq_true rfl) ?_
  intro p e s m below meth c A ls C0 hr hlocks hnm hE hA hP hD hS hl
  have hx := C0.1
  have hb := C0.2.1
  have hml := C0.2.2.1
  have hown := C0.2.2.2.1
  have hT := C0.2.2.2.2
  have hK := hE.1
  have hl : lv_has ls 1 [(0, .ref z1)] := hl
  refine lv_aload_n hx hb dX3_begin_0 rfl (lv_at hl 0 rfl) ?_
  refine lv_iconst (v := 1) hx hb dX3_begin_1 (by decide) ?_
  refine r_put (v := .int 1) (ty := .boolean) (fs1 := [.ref z2, .int 0, .int 1]) (ws1 := [(z1, .inr (3, [.ref z2, .int 0, .int 1])), (z2, .inl (T 1, 65, .inr (.inl (fun _ => 0))))]) C0 hE ffX3_2 tyX3 tyX3_ok nmX3 mw_154 pf_98 hP hD hS 0 rfl rfl rfl (Nat.le_of_ble_eq_true rfl) rfl rfl dX3_begin_2 (fun H locs hP hD hS => ?_)
  refine lv_aload_n hx hb dX3_begin_5 rfl (lv_at hl 0 rfl) ?_
  refine lv_iconst (v := 0) hx hb dX3_begin_6 (by decide) ?_
  refine r_put (v := .int 0) (ty := .int) (fs1 := [.ref z2, .int 0, .int 1]) (ws1 := [(z1, .inr (3, [.ref z2, .int 0, .int 1])), (z2, .inl (T 1, 65, .inr (.inl (fun _ => 0))))]) C0 hE ffX3_1 tyX3 tyX3_ok nmX3 mw_152 pf_29 hP hD hS 0 rfl rfl rfl (Nat.le_of_ble_eq_true rfl) rfl rfl dX3_begin_7 (fun H locs hP hD hS => ?_)
  refine lv_aload_n hx hb dX3_begin_10 rfl (lv_at hl 0 rfl) ?_
  refine r_get (v := .ref z2) C0 hE ffX3_0 mw_149 hP 0 rfl rfl dX3_begin_11 ?_
  refine lv_iconst (v := 0) hx hb dX3_begin_14 (by decide) ?_
  refine lv_ldc2 hx hb hown (hT _ mw_572) dX3_begin_15 ?_
  refine r_lastO hx hb hK hP hD hS 1 rfl (vp_lit (by decide +kernel)) dX3_begin_18 (fun f1285 H locs hP hD hS => ?_)
  have hP : va_P D vwCl [(z1, .inr (3, [.ref z2, .int 0, .int 1])), (z2, .inl (T 1, 65, .inr (.inl f1285)))] H := hP
  have hD : va_D A [(z1, .inr (3, [.ref z2, .int 0, .int 1])), (z2, .inl (T 1, 65, .inr (.inl f1285)))] := hD
  exact r_vret (f1285) C0 hr hlocks hS (Nat.le_of_ble_eq_true rfl) (Nat.le_of_ble_eq_true rfl) dX3_begin_19 hP hD
set_option maxHeartbeats 4000000 in
set_option maxRecDepth 100000 in
theorem c_X10_table_1304 (l : Launch) (D : va_G) (T : Nat → ClassId) (sz : Nat) (z1 : Nat) (z2 : Int32) (z3 : Int32) (z4 : Nat) (z5 : Nat) (z6 : Nat) (z7 : Nat) (z8 : Nat) (z9 : Nat) (z10 : Nat) (z11 : Nat) (z12 : Nat) (z13 : Nat) (z14 : Nat) (z15 : Nat) (z16 : Nat) (z17 : Nat) (z18 : Nat) (z19 : Nat) (z20 : Nat) (z21 : Nat) (z22 : Nat) (z23 : Nat) (z24 : Nat) (z25 : Nat) (z26 : Nat) (z27 : Nat) (z28 : Nat) (z29 : Nat) : Met l yX10_table (.code yX10_table cX10_table 5 (some .int) :: TB) { frames := 2, cells := 0, slots := 0, locals := 48 } (PC D T [.ref z1, .int z2, .int z3] [(z1, .inr (10, [.ref z4, .ref z5, .ref z6, .ref z7, .ref z8, .ref z9, .ref z10, .ref z11, .ref z12, .ref z13, .ref z14, .int 1, .int (-1), .int 0, .int (-1)])), (z6, .inr (0, [.ref z15, .ref z16, .ref z17, .ref z18, .ref z19, .ref z20, .int 0])), (z8, .inr (3, [.ref z21, .int 0, .int 0])), (z21, .inl (T 1, 65, .inr (.inl (fun _ => 0)))), (z7, .inr (2, [.ref z22, .ref z23, .ref z24, .ref z25, .ref z26, .ref z27, .ref z28, .ref z29, .int 0, .int 1, .int 1, .int 0])), (z22, .inl (T 0, 64, .inl (fl (-1) 64 (fun _ => 0))))] sz) (Qi (S := Unit) (fun (r : Int32) (_ : Unit) => r = (if (wi z2 0 99 && wi z3 0 99) = true then 0 else (-1))) (fun (_ : Unit) => []) D (va_A [(z1, .inr (10, [.ref z4, .ref z5, .ref z6, .ref z7, .ref z8, .ref z9, .ref z10, .ref z11, .ref z12, .ref z13, .ref z14, .int 1, .int (-1), .int 0, .int (-1)])), (z6, .inr (0, [.ref z15, .ref z16, .ref z17, .ref z18, .ref z19, .ref z20, .int 0])), (z8, .inr (3, [.ref z21, .int 0, .int 0])), (z21, .inl (T 1, 65, .inr (.inl (fun _ => 0)))), (z7, .inr (2, [.ref z22, .ref z23, .ref z24, .ref z25, .ref z26, .ref z27, .ref z28, .ref z29, .int 0, .int 1, .int 1, .int 0])), (z22, .inl (T 0, 64, .inl (fl (-1) 64 (fun _ => 0))))] sz)) 0 0 (va_A [(z1, .inr (10, [.ref z4, .ref z5, .ref z6, .ref z7, .ref z8, .ref z9, .ref z10, .ref z11, .ref z12, .ref z13, .ref z14, .int 1, .int (-1), .int 0, .int (-1)])), (z6, .inr (0, [.ref z15, .ref z16, .ref z17, .ref z18, .ref z19, .ref z20, .int 0])), (z8, .inr (3, [.ref z21, .int 0, .int 0])), (z21, .inl (T 1, 65, .inr (.inl (fun _ => 0)))), (z7, .inr (2, [.ref z22, .ref z23, .ref z24, .ref z25, .ref z26, .ref z27, .ref z28, .ref z29, .int 0, .int 1, .int 1, .int 0])), (z22, .inl (T 0, 64, .inl (fl (-1) 64 (fun _ => 0))))] sz) := by
  refine ct_begin (Qc := Qi (S := Unit) (fun (r : Int32) (_ : Unit) => r = (if (wi z2 0 99 && wi z3 0 99) = true then 0 else (-1))) (fun (_ : Unit) => []) D) (by decide +kernel) (Nat.le_of_ble_eq_true rfl) ?_
  intro p e s m below meth c A ls C0 hr hlocks hnm hE hA hP hD hS hl
  have hx := C0.1
  have hb := C0.2.1
  have hml := C0.2.2.1
  have hown := C0.2.2.2.1
  have hT := C0.2.2.2.2
  have hK := hE.1
  have hl : lv_has ls 5 [(0, .ref z1), (1, .int z2), (2, .int z3)] := hl
  refine lv_iload_n hx hb dX10_table_0 rfl (lv_at hl 1 rfl) ?_
  refine lv_iload_n hx hb dX10_table_1 rfl (lv_at hl 2 rfl) ?_
  refine r_calli (wr := [(z1, .inr (10, [.ref z4, .ref z5, .ref z6, .ref z7, .ref z8, .ref z9, .ref z10, .ref z11, .ref z12, .ref z13, .ref z14, .int 1, .int (-1), .int 0, .int (-1)])), (z6, .inr (0, [.ref z15, .ref z16, .ref z17, .ref z18, .ref z19, .ref z20, .int 0])), (z8, .inr (3, [.ref z21, .int 0, .int 0])), (z21, .inl (T 1, 65, .inr (.inl (fun _ => 0)))), (z7, .inr (2, [.ref z22, .ref z23, .ref z24, .ref z25, .ref z26, .ref z27, .ref z28, .ref z29, .int 0, .int 1, .int 1, .int 0])), (z22, .inl (T 0, 64, .inl (fl (-1) 64 (fun _ => 0))))]) (r_runS (As := [.int z2, .int z3]) (rest := []) (wc := []) C0 hE (c_X10_canPress_1062 l D T s.heap.size z2 z3) mw_538 mw_539 mw_7 mw_540 dn_537 rfl rfl ⟨Nat.le_of_ble_eq_true rfl, Nat.le_of_ble_eq_true rfl⟩ (hP.sub (ws' := []) [] rfl) (hD.sub (ws' := []) [] (by decide +kernel) rfl) hl.1 rfl (Nat.le_of_ble_eq_true rfl) dX10_table_2 ⟨Nat.le_of_ble_eq_true rfl, Nat.le_of_ble_eq_true rfl⟩) hP hD hS hA [] [0, 1, 2, 3, 4, 5] rfl rfl (by decide +kernel) (by decide +kernel) (fun r1297 u H locs hq hP hD hS => ?_)
  have hq : r1297 = (bi (wi z2 0 99 && wi z3 0 99)) := hq
  subst hq
  have hP : va_P D vwCl [(z1, .inr (10, [.ref z4, .ref z5, .ref z6, .ref z7, .ref z8, .ref z9, .ref z10, .ref z11, .ref z12, .ref z13, .ref z14, .int 1, .int (-1), .int 0, .int (-1)])), (z6, .inr (0, [.ref z15, .ref z16, .ref z17, .ref z18, .ref z19, .ref z20, .int 0])), (z8, .inr (3, [.ref z21, .int 0, .int 0])), (z21, .inl (T 1, 65, .inr (.inl (fun _ => 0)))), (z7, .inr (2, [.ref z22, .ref z23, .ref z24, .ref z25, .ref z26, .ref z27, .ref z28, .ref z29, .int 0, .int 1, .int 1, .int 0])), (z22, .inl (T 0, 64, .inl (fl (-1) 64 (fun _ => 0))))] H := hP
  have hD : va_D A [(z1, .inr (10, [.ref z4, .ref z5, .ref z6, .ref z7, .ref z8, .ref z9, .ref z10, .ref z11, .ref z12, .ref z13, .ref z14, .int 1, .int (-1), .int 0, .int (-1)])), (z6, .inr (0, [.ref z15, .ref z16, .ref z17, .ref z18, .ref z19, .ref z20, .int 0])), (z8, .inr (3, [.ref z21, .int 0, .int 0])), (z21, .inl (T 1, 65, .inr (.inl (fun _ => 0)))), (z7, .inr (2, [.ref z22, .ref z23, .ref z24, .ref z25, .ref z26, .ref z27, .ref z28, .ref z29, .int 0, .int 1, .int 1, .int 0])), (z22, .inl (T 0, 64, .inl (fl (-1) 64 (fun _ => 0))))] := hD
  refine W.widen (k := 0) (n := 0) (Nat.le_of_ble_eq_true rfl) (Nat.le_of_ble_eq_true rfl) ?_
  refine lv_if_ne (tgt := 10) hx hb dX10_table_5 (by decide) (fun c_1298 => ?_) (fun c_1298 => ?_)
  · skip
    have c_1298 := bi_nz c_1298
    refine lv_aload_n hx hb dX10_table_10 rfl (lv_at hl 0 rfl) ?_
    refine r_callr (wr := [(z8, .inr (3, [.ref z21, .int 0, .int 0])), (z21, .inl (T 1, 65, .inr (.inl (fun _ => 0)))), (z22, .inl (T 0, 64, .inl (fl (-1) 64 (fun _ => 0))))]) (r_runV (As := []) (rest := []) (wc := [(z1, .inr (10, [.ref z4, .ref z5, .ref z6, .ref z7, .ref z8, .ref z9, .ref z10, .ref z11, .ref z12, .ref z13, .ref z14, .int 1, .int (-1), .int 0, .int (-1)])), (z6, .inr (0, [.ref z15, .ref z16, .ref z17, .ref z18, .ref z19, .ref z20, .int 0])), (z7, .inr (2, [.ref z22, .ref z23, .ref z24, .ref z25, .ref z26, .ref z27, .ref z28, .ref z29, .int 0, .int 1, .int 1, .int 0]))]) (ci := 10) C0 hE (c_X10_broughtUp_1188 l D T H.size z1 z4 z5 z6 z7 z8 z9 z10 z11 z12 z13 z14 z15 z16 z17 z18 z19 z20 z22 z23 z24 z25 z26 z27 z28 z29) mw_558 mw_559 mw_560 mw_7 mw_561 dn_557 rfl rfl ⟨Nat.le_of_ble_eq_true rfl, Nat.le_of_ble_eq_true rfl⟩ (hP.sub (ws' := [(z1, .inr (10, [.ref z4, .ref z5, .ref z6, .ref z7, .ref z8, .ref z9, .ref z10, .ref z11, .ref z12, .ref z13, .ref z14, .int 1, .int (-1), .int 0, .int (-1)])), (z6, .inr (0, [.ref z15, .ref z16, .ref z17, .ref z18, .ref z19, .ref z20, .int 0])), (z7, .inr (2, [.ref z22, .ref z23, .ref z24, .ref z25, .ref z26, .ref z27, .ref z28, .ref z29, .int 0, .int 1, .int 1, .int 0]))]) [0, 1, 4] rfl) (hD.sub (ws' := [(z1, .inr (10, [.ref z4, .ref z5, .ref z6, .ref z7, .ref z8, .ref z9, .ref z10, .ref z11, .ref z12, .ref z13, .ref z14, .int 1, .int (-1), .int 0, .int (-1)])), (z6, .inr (0, [.ref z15, .ref z16, .ref z17, .ref z18, .ref z19, .ref z20, .int 0])), (z7, .inr (2, [.ref z22, .ref z23, .ref z24, .ref z25, .ref z26, .ref z27, .ref z28, .ref z29, .int 0, .int 1, .int 1, .int 0]))]) [0, 1, 4] (by decide +kernel) rfl) rfl rfl rfl hl.1 rfl (Nat.le_of_ble_eq_true rfl) dX10_table_11 ⟨Nat.le_of_ble_eq_true rfl, Nat.le_of_ble_eq_true rfl⟩) hP hD hS hA [0, 1, 4] [2, 3, 5] rfl rfl (by decide +kernel) (by decide +kernel) (fun  u H locs hP hD hS => ?_)
    have hP : va_P D vwCl [(z8, .inr (3, [.ref z21, .int 0, .int 0])), (z21, .inl (T 1, 65, .inr (.inl (fun _ => 0)))), (z22, .inl (T 0, 64, .inl (fl (-1) 64 (fun _ => 0)))), (z7, .inr (2, [.ref z22, .ref z23, .ref z24, .ref z25, .ref z26, .ref z27, .ref z28, .ref z29, .int 0, .int 1, .int 1, .int 0])), (z1, .inr (10, [.ref z4, .ref z5, .ref z6, .ref z7, .ref z8, .ref z9, .ref z10, .ref z11, .ref z12, .ref z13, .ref z14, .int 1, .int (-1), .int 0, .int (-1)])), (z6, .inr (0, [.ref z15, .ref z16, .ref z17, .ref z18, .ref z19, .ref z20, .int 0]))] H := hP
    have hD : va_D A [(z8, .inr (3, [.ref z21, .int 0, .int 0])), (z21, .inl (T 1, 65, .inr (.inl (fun _ => 0)))), (z22, .inl (T 0, 64, .inl (fl (-1) 64 (fun _ => 0)))), (z7, .inr (2, [.ref z22, .ref z23, .ref z24, .ref z25, .ref z26, .ref z27, .ref z28, .ref z29, .int 0, .int 1, .int 1, .int 0])), (z1, .inr (10, [.ref z4, .ref z5, .ref z6, .ref z7, .ref z8, .ref z9, .ref z10, .ref z11, .ref z12, .ref z13, .ref z14, .int 1, .int (-1), .int 0, .int (-1)])), (z6, .inr (0, [.ref z15, .ref z16, .ref z17, .ref z18, .ref z19, .ref z20, .int 0]))] := hD
    refine W.eq (g2 := F0 m 14 ls [.ref z7]) rfl ?_
    refine W.widen (k := 0) (n := 0) (Nat.le_of_ble_eq_true rfl) (Nat.le_of_ble_eq_true rfl) ?_
    refine lv_astore_n (lv' := [(3, .ref z7), (0, .ref z1), (1, .int z2), (2, .int z3)]) hx hb dX10_table_14 rfl hl (by decide) rfl (fun ls hl => ?_)
    refine lv_aload_n hx hb dX10_table_15 rfl (lv_at hl 1 rfl) ?_
    refine r_get (v := .ref z8) C0 hE ffX10_4 mw_159 hP 4 rfl rfl dX10_table_16 ?_
    refine r_callv (wr := [(z22, .inl (T 0, 64, .inl (fl (-1) 64 (fun _ => 0)))), (z7, .inr (2, [.ref z22, .ref z23, .ref z24, .ref z25, .ref z26, .ref z27, .ref z28, .ref z29, .int 0, .int 1, .int 1, .int 0])), (z1, .inr (10, [.ref z4, .ref z5, .ref z6, .ref z7, .ref z8, .ref z9, .ref z10, .ref z11, .ref z12, .ref z13, .ref z14, .int 1, .int (-1), .int 0, .int (-1)])), (z6, .inr (0, [.ref z15, .ref z16, .ref z17, .ref z18, .ref z19, .ref z20, .int 0]))]) (r_runV (As := []) (rest := []) (wc := [(z8, .inr (3, [.ref z21, .int 0, .int 0])), (z21, .inl (T 1, 65, .inr (.inl (fun _ => 0))))]) (ci := 3) C0 hE (c_X3_begin_1286 l D T H.size z8 z21) mw_574 mw_575 mw_576 mw_146 mw_577 dn_573 rfl rfl ⟨Nat.le_of_ble_eq_true rfl, Nat.le_of_ble_eq_true rfl⟩ (hP.sub (ws' := [(z8, .inr (3, [.ref z21, .int 0, .int 0])), (z21, .inl (T 1, 65, .inr (.inl (fun _ => 0))))]) [0, 1] rfl) (hD.sub (ws' := [(z8, .inr (3, [.ref z21, .int 0, .int 0])), (z21, .inl (T 1, 65, .inr (.inl (fun _ => 0))))]) [0, 1] (by decide +kernel) rfl) rfl rfl rfl hl.1 rfl (Nat.le_of_ble_eq_true rfl) dX10_table_19 ⟨Nat.le_of_ble_eq_true rfl, Nat.le_of_ble_eq_true rfl⟩) hP hD hS hA [0, 1] [2, 3, 4, 5] rfl rfl (by decide +kernel) (by decide +kernel) (fun  u H locs hP hD hS => ?_)
    obtain ⟨f1302, rfl⟩ : ∃ z, z = u := ⟨_, rfl⟩
    have hP : va_P D vwCl [(z22, .inl (T 0, 64, .inl (fl (-1) 64 (fun _ => 0)))), (z7, .inr (2, [.ref z22, .ref z23, .ref z24, .ref z25, .ref z26, .ref z27, .ref z28, .ref z29, .int 0, .int 1, .int 1, .int 0])), (z1, .inr (10, [.ref z4, .ref z5, .ref z6, .ref z7, .ref z8, .ref z9, .ref z10, .ref z11, .ref z12, .ref z13, .ref z14, .int 1, .int (-1), .int 0, .int (-1)])), (z6, .inr (0, [.ref z15, .ref z16, .ref z17, .ref z18, .ref z19, .ref z20, .int 0])), (z8, .inr (3, [.ref z21, .int 0, .int 1])), (z21, .inl (T 1, 65, .inr (.inl f1302)))] H := hP
    have hD : va_D A [(z22, .inl (T 0, 64, .inl (fl (-1) 64 (fun _ => 0)))), (z7, .inr (2, [.ref z22, .ref z23, .ref z24, .ref z25, .ref z26, .ref z27, .ref z28, .ref z29, .int 0, .int 1, .int 1, .int 0])), (z1, .inr (10, [.ref z4, .ref z5, .ref z6, .ref z7, .ref z8, .ref z9, .ref z10, .ref z11, .ref z12, .ref z13, .ref z14, .int 1, .int (-1), .int 0, .int (-1)])), (z6, .inr (0, [.ref z15, .ref z16, .ref z17, .ref z18, .ref z19, .ref z20, .int 0])), (z8, .inr (3, [.ref z21, .int 0, .int 1])), (z21, .inl (T 1, 65, .inr (.inl f1302)))] := hD
    refine W.widen (k := 0) (n := 0) (Nat.le_of_ble_eq_true rfl) (Nat.le_of_ble_eq_true rfl) ?_
    refine lv_iconst (v := 0) hx hb dX10_table_22 (by decide) ?_
    refine lv_istore (lv' := [(4, .int 0), (3, .ref z7), (0, .ref z1), (1, .int z2), (2, .int z3)]) hx hb dX10_table_23 hl (by decide) rfl (fun ls hl => ?_)
    refine lv_iload hx hb dX10_table_25 (lv_at hl 0 rfl) ?_
    refine lv_aload_n hx hb dX10_table_27 rfl (lv_at hl 2 rfl) ?_
    refine r_get (v := .int 1) C0 hE ffX10_11 mw_279 hP 2 rfl rfl dX10_table_28 ?_
    refine lv_icmp_ge (tgt := 68) hx hb dX10_table_31 (by decide) (fun hc => absurd hc (by decide +kernel)) (fun _ => ?_)
    refine lv_aload_n hx hb dX10_table_34 rfl (lv_at hl 1 rfl) ?_
    refine lv_iload hx hb dX10_table_35 (lv_at hl 0 rfl) ?_
    refine r_calli (wr := [(z1, .inr (10, [.ref z4, .ref z5, .ref z6, .ref z7, .ref z8, .ref z9, .ref z10, .ref z11, .ref z12, .ref z13, .ref z14, .int 1, .int (-1), .int 0, .int (-1)])), (z6, .inr (0, [.ref z15, .ref z16, .ref z17, .ref z18, .ref z19, .ref z20, .int 0])), (z8, .inr (3, [.ref z21, .int 0, .int 1])), (z21, .inl (T 1, 65, .inr (.inl f1302)))]) (r_runV (As := [.int 0]) (rest := []) (wc := [(z7, .inr (2, [.ref z22, .ref z23, .ref z24, .ref z25, .ref z26, .ref z27, .ref z28, .ref z29, .int 0, .int 1, .int 1, .int 0])), (z22, .inl (T 0, 64, .inl (fl (-1) 64 (fun _ => 0))))]) (ci := 2) C0 hE (c_X2_hasHook_1189 l D T H.size z7 z22 z23 z24 z25 z26 z27 z28 z29) mw_563 mw_564 mw_565 mw_64 mw_566 dn_562 rfl rfl ⟨Nat.le_of_ble_eq_true rfl, Nat.le_of_ble_eq_true rfl⟩ (hP.sub (ws' := [(z7, .inr (2, [.ref z22, .ref z23, .ref z24, .ref z25, .ref z26, .ref z27, .ref z28, .ref z29, .int 0, .int 1, .int 1, .int 0])), (z22, .inl (T 0, 64, .inl (fl (-1) 64 (fun _ => 0))))]) [1, 0] rfl) (hD.sub (ws' := [(z7, .inr (2, [.ref z22, .ref z23, .ref z24, .ref z25, .ref z26, .ref z27, .ref z28, .ref z29, .int 0, .int 1, .int 1, .int 0])), (z22, .inl (T 0, 64, .inl (fl (-1) 64 (fun _ => 0))))]) [1, 0] (by decide +kernel) rfl) rfl rfl rfl hl.1 rfl (Nat.le_of_ble_eq_true rfl) dX10_table_37 ⟨Nat.le_of_ble_eq_true rfl, Nat.le_of_ble_eq_true rfl⟩) hP hD hS hA [1, 0] [2, 3, 4, 5] rfl rfl (by decide +kernel) (by decide +kernel) (fun r1303 u H locs hq hP hD hS => ?_)
    have hq : r1303 = 0 := hq
    subst hq
    have hP : va_P D vwCl [(z1, .inr (10, [.ref z4, .ref z5, .ref z6, .ref z7, .ref z8, .ref z9, .ref z10, .ref z11, .ref z12, .ref z13, .ref z14, .int 1, .int (-1), .int 0, .int (-1)])), (z6, .inr (0, [.ref z15, .ref z16, .ref z17, .ref z18, .ref z19, .ref z20, .int 0])), (z8, .inr (3, [.ref z21, .int 0, .int 1])), (z21, .inl (T 1, 65, .inr (.inl f1302))), (z7, .inr (2, [.ref z22, .ref z23, .ref z24, .ref z25, .ref z26, .ref z27, .ref z28, .ref z29, .int 0, .int 1, .int 1, .int 0])), (z22, .inl (T 0, 64, .inl (fl (-1) 64 (fun _ => 0))))] H := hP
    have hD : va_D A [(z1, .inr (10, [.ref z4, .ref z5, .ref z6, .ref z7, .ref z8, .ref z9, .ref z10, .ref z11, .ref z12, .ref z13, .ref z14, .int 1, .int (-1), .int 0, .int (-1)])), (z6, .inr (0, [.ref z15, .ref z16, .ref z17, .ref z18, .ref z19, .ref z20, .int 0])), (z8, .inr (3, [.ref z21, .int 0, .int 1])), (z21, .inl (T 1, 65, .inr (.inl f1302))), (z7, .inr (2, [.ref z22, .ref z23, .ref z24, .ref z25, .ref z26, .ref z27, .ref z28, .ref z29, .int 0, .int 1, .int 1, .int 0])), (z22, .inl (T 0, 64, .inl (fl (-1) 64 (fun _ => 0))))] := hD
    refine W.widen (k := 0) (n := 0) (Nat.le_of_ble_eq_true rfl) (Nat.le_of_ble_eq_true rfl) ?_
    refine lv_if_eq (tgt := 62) hx hb dX10_table_40 (by decide) (fun _ => ?_) (fun hc => absurd (by decide +kernel) hc)
    refine lv_iinc (v := 1) (lv' := [(4, .int 1), (3, .ref z7), (0, .ref z1), (1, .int z2), (2, .int z3)]) hx hb dX10_table_62 hl (k := 0) rfl (by decide +kernel) (by decide) rfl (fun ls hl => ?_)
    refine lv_goto (tgt := 25) hx hb dX10_table_65 (by decide) ?_
    refine lv_iload hx hb dX10_table_25 (lv_at hl 0 rfl) ?_
    refine lv_aload_n hx hb dX10_table_27 rfl (lv_at hl 2 rfl) ?_
    refine r_get (v := .int 1) C0 hE ffX10_11 mw_279 hP 0 rfl rfl dX10_table_28 ?_
    refine lv_icmp_ge (tgt := 68) hx hb dX10_table_31 (by decide) (fun _ => ?_) (fun hc => absurd (by decide +kernel) hc)
    refine lv_aload_n hx hb dX10_table_68 rfl (lv_at hl 2 rfl) ?_
    refine r_get (v := .ref z8) C0 hE ffX10_4 mw_159 hP 0 rfl rfl dX10_table_69 ?_
    refine r_get (v := .int 0) C0 hE ffX3_1 mw_578 hP 2 rfl rfl dX10_table_72 ?_
    exact r_iret () C0 hr hlocks hS (Nat.le_of_ble_eq_true rfl) (Nat.le_of_ble_eq_true rfl) dX10_table_75 (by first | rfl | decide +kernel | simp [bi, FO, TS, c_1298]) P_nil D_nil
  · skip
    have c_1298 := bi_z c_1298
    refine lv_iconst (v := (-1)) hx hb dX10_table_8 (by decide) ?_
    exact r_iret () C0 hr hlocks hS (Nat.le_of_ble_eq_true rfl) (Nat.le_of_ble_eq_true rfl) dX10_table_9 (by first | rfl | decide +kernel | simp [bi, FO, TS, c_1298]) P_nil D_nil
set_option maxHeartbeats 4000000 in
set_option maxRecDepth 100000 in
theorem c_X10_odds_1305 (l : Launch) (D : va_G) (T : Nat → ClassId) (sz : Nat) (z1 : Nat) (z2 : Int32) (z3 : Nat) (z4 : Nat) (z5 : Nat) (z6 : Nat) (z7 : Nat) (z8 : Nat) (z9 : Nat) (z10 : Nat) (z11 : Nat) (z12 : Nat) (z13 : Nat) (z14 : Nat) : Met l yX10_odds (.code yX10_odds cX10_odds 2 (some .long) :: TB) { frames := 0, cells := 0, slots := 0, locals := 0 } (PC D T [.ref z1, .int z2] [(z1, .inr (10, [.ref z3, .ref z4, .ref z5, .ref z6, .ref z7, .ref z8, .ref z9, .ref z10, .ref z11, .ref z12, .ref z13, .int 1, .int (-1), .int 0, .int (-1)])), (z7, .inr (3, [.ref z14, .int 0, .int 0]))] sz) (Ql (S := Unit) (fun (r : Int64) (_ : Unit) => r = (-1)) (fun (_ : Unit) => []) D (va_A [(z1, .inr (10, [.ref z3, .ref z4, .ref z5, .ref z6, .ref z7, .ref z8, .ref z9, .ref z10, .ref z11, .ref z12, .ref z13, .int 1, .int (-1), .int 0, .int (-1)])), (z7, .inr (3, [.ref z14, .int 0, .int 0]))] sz)) 0 0 (va_A [(z1, .inr (10, [.ref z3, .ref z4, .ref z5, .ref z6, .ref z7, .ref z8, .ref z9, .ref z10, .ref z11, .ref z12, .ref z13, .int 1, .int (-1), .int 0, .int (-1)])), (z7, .inr (3, [.ref z14, .int 0, .int 0]))] sz) := by
  refine ct_begin (Qc := Ql (S := Unit) (fun (r : Int64) (_ : Unit) => r = (-1)) (fun (_ : Unit) => []) D) (by decide +kernel) (Nat.le_of_ble_eq_true rfl) ?_
  intro p e s m below meth c A ls C0 hr hlocks hnm hE hA hP hD hS hl
  have hx := C0.1
  have hb := C0.2.1
  have hml := C0.2.2.1
  have hown := C0.2.2.2.1
  have hT := C0.2.2.2.2
  have hK := hE.1
  have hl : lv_has ls 2 [(0, .ref z1), (1, .int z2)] := hl
  refine lv_aload_n hx hb dX10_odds_0 rfl (lv_at hl 0 rfl) ?_
  refine r_get (v := .ref z7) C0 hE ffX10_4 mw_159 hP 0 rfl rfl dX10_odds_1 ?_
  refine r_get (v := .int 0) C0 hE ffX3_2 mw_516 hP 1 rfl rfl dX10_odds_4 ?_
  refine lv_if_eq (tgt := 36) hx hb dX10_odds_7 (by decide) (fun _ => ?_) (fun hc => absurd (by decide +kernel) hc)
  refine lv_ldc2 hx hb hown (hT _ mw_571) dX10_odds_36 ?_
  exact r_lret () C0 hr hlocks hS (Nat.le_of_ble_eq_true rfl) (Nat.le_of_ble_eq_true rfl) dX10_odds_39 (by first | rfl | decide +kernel | simp [bi, FO, TS]) P_nil D_nil
set_option maxHeartbeats 4000000 in
set_option maxRecDepth 100000 in
theorem c_X10_sure_1306 (l : Launch) (D : va_G) (T : Nat → ClassId) (sz : Nat) (z1 : Nat) (z2 : Int32) (z3 : Nat) (z4 : Nat) (z5 : Nat) (z6 : Nat) (z7 : Nat) (z8 : Nat) (z9 : Nat) (z10 : Nat) (z11 : Nat) (z12 : Nat) (z13 : Nat) (z14 : Nat) : Met l yX10_sure (.code yX10_sure cX10_sure 2 (some .int) :: TB) { frames := 0, cells := 0, slots := 0, locals := 0 } (PC D T [.ref z1, .int z2] [(z1, .inr (10, [.ref z3, .ref z4, .ref z5, .ref z6, .ref z7, .ref z8, .ref z9, .ref z10, .ref z11, .ref z12, .ref z13, .int 1, .int (-1), .int 0, .int (-1)])), (z7, .inr (3, [.ref z14, .int 0, .int 0]))] sz) (Qi (S := Unit) (fun (r : Int32) (_ : Unit) => r = (-1)) (fun (_ : Unit) => [(z1, .inr (10, [.ref z3, .ref z4, .ref z5, .ref z6, .ref z7, .ref z8, .ref z9, .ref z10, .ref z11, .ref z12, .ref z13, .int 1, .int (-1), .int 0, .int (-1)])), (z7, .inr (3, [.ref z14, .int 0, .int 0]))]) D (va_A [(z1, .inr (10, [.ref z3, .ref z4, .ref z5, .ref z6, .ref z7, .ref z8, .ref z9, .ref z10, .ref z11, .ref z12, .ref z13, .int 1, .int (-1), .int 0, .int (-1)])), (z7, .inr (3, [.ref z14, .int 0, .int 0]))] sz)) 0 0 (va_A [(z1, .inr (10, [.ref z3, .ref z4, .ref z5, .ref z6, .ref z7, .ref z8, .ref z9, .ref z10, .ref z11, .ref z12, .ref z13, .int 1, .int (-1), .int 0, .int (-1)])), (z7, .inr (3, [.ref z14, .int 0, .int 0]))] sz) := by
  refine ct_begin (Qc := Qi (S := Unit) (fun (r : Int32) (_ : Unit) => r = (-1)) (fun (_ : Unit) => [(z1, .inr (10, [.ref z3, .ref z4, .ref z5, .ref z6, .ref z7, .ref z8, .ref z9, .ref z10, .ref z11, .ref z12, .ref z13, .int 1, .int (-1), .int 0, .int (-1)])), (z7, .inr (3, [.ref z14, .int 0, .int 0]))]) D) (by decide +kernel) (Nat.le_of_ble_eq_true rfl) ?_
  intro p e s m below meth c A ls C0 hr hlocks hnm hE hA hP hD hS hl
  have hx := C0.1
  have hb := C0.2.1
  have hml := C0.2.2.1
  have hown := C0.2.2.2.1
  have hT := C0.2.2.2.2
  have hK := hE.1
  have hl : lv_has ls 2 [(0, .ref z1), (1, .int z2)] := hl
  refine lv_aload_n hx hb dX10_sure_0 rfl (lv_at hl 0 rfl) ?_
  refine r_get (v := .ref z7) C0 hE ffX10_4 mw_159 hP 0 rfl rfl dX10_sure_1 ?_
  refine r_get (v := .int 0) C0 hE ffX3_2 mw_516 hP 1 rfl rfl dX10_sure_4 ?_
  refine lv_if_eq (tgt := 32) hx hb dX10_sure_7 (by decide) (fun _ => ?_) (fun hc => absurd (by decide +kernel) hc)
  refine lv_iconst (v := (-1)) hx hb dX10_sure_32 (by decide) ?_
  exact r_iret () C0 hr hlocks hS (Nat.le_of_ble_eq_true rfl) (Nat.le_of_ble_eq_true rfl) dX10_sure_33 rfl hP hD
set_option maxHeartbeats 4000000 in
set_option maxRecDepth 100000 in
theorem c_X1_take_1324 (l : Launch) (D : va_G) (T : Nat → ClassId) (sz : Nat) (z1 : Nat) (z2 : Nat) (z3 : Nat) (z4 : Int32) (z5 : Int32) (z6 : Int64) (z7 : Nat) (z8 : Nat) (z9 : Nat) (z10 : Nat) (z11 : Nat) (z12 : Nat) (z13 : Nat) (z14 : Nat) (z15 : Nat) (z16 : Nat) (z17 : Nat) (z18 : Nat) : Met l yX1_take (.code yX1_take cX1_take 11 (some .long) :: TB) { frames := 1, cells := 0, slots := 0, locals := 21 } (PC D T [.ref z1, .ref z2, .ref z3, .int z4, .int z5, .long z6] [(z1, .inr (1, [.ref z7, .ref z8, .ref z9, .ref z10, .int 0, .int 1, .int 0, .int 0])), (z7, .inl (T 0, 64, .inl (fun _ => 0))), (z11, .inl (T 0, 64, .inl (fl (-1) 64 (fun _ => 0)))), (z2, .inr (2, [.ref z11, .ref z12, .ref z13, .ref z14, .ref z15, .ref z16, .ref z17, .ref z18, .int 0, .int 1, .int 1, .int 0]))] sz) (Ql (S := (Nat → Int32)) (fun (r : Int64) (f1322 : (Nat → Int32)) => r = z6) (fun (f1322 : (Nat → Int32)) => [(z1, .inr (1, [.ref z7, .ref z8, .ref z9, .ref z10, .int 1, .int 1, .int 0, .int 1])), (z7, .inl (T 0, 64, .inl f1322)), (z2, .inr (2, [.ref z11, .ref z12, .ref z13, .ref z14, .ref z15, .ref z16, .ref z17, .ref z18, .int 0, .int 1, .int 1, .int 0])), (z11, .inl (T 0, 64, .inl (fl (-1) 64 (fun _ => 0))))]) D (va_A [(z1, .inr (1, [.ref z7, .ref z8, .ref z9, .ref z10, .int 0, .int 1, .int 0, .int 0])), (z7, .inl (T 0, 64, .inl (fun _ => 0))), (z11, .inl (T 0, 64, .inl (fl (-1) 64 (fun _ => 0)))), (z2, .inr (2, [.ref z11, .ref z12, .ref z13, .ref z14, .ref z15, .ref z16, .ref z17, .ref z18, .int 0, .int 1, .int 1, .int 0]))] sz)) 0 0 (va_A [(z1, .inr (1, [.ref z7, .ref z8, .ref z9, .ref z10, .int 0, .int 1, .int 0, .int 0])), (z7, .inl (T 0, 64, .inl (fun _ => 0))), (z11, .inl (T 0, 64, .inl (fl (-1) 64 (fun _ => 0)))), (z2, .inr (2, [.ref z11, .ref z12, .ref z13, .ref z14, .ref z15, .ref z16, .ref z17, .ref z18, .int 0, .int 1, .int 1, .int 0]))] sz) := by
  refine ct_begin (Qc := Ql (S := (Nat → Int32)) (fun (r : Int64) (f1322 : (Nat → Int32)) => r = z6) (fun (f1322 : (Nat → Int32)) => [(z1, .inr (1, [.ref z7, .ref z8, .ref z9, .ref z10, .int 1, .int 1, .int 0, .int 1])), (z7, .inl (T 0, 64, .inl f1322)), (z2, .inr (2, [.ref z11, .ref z12, .ref z13, .ref z14, .ref z15, .ref z16, .ref z17, .ref z18, .int 0, .int 1, .int 1, .int 0])), (z11, .inl (T 0, 64, .inl (fl (-1) 64 (fun _ => 0))))]) D) (by decide +kernel) (Nat.le_of_ble_eq_true rfl) ?_
  intro p e s m below meth c A ls C0 hr hlocks hnm hE hA hP hD hS hl
  have hx := C0.1
  have hb := C0.2.1
  have hml := C0.2.2.1
  have hown := C0.2.2.2.1
  have hT := C0.2.2.2.2
  have hK := hE.1
  have hl : lv_has ls 11 [(0, .ref z1), (1, .ref z2), (2, .ref z3), (3, .int z4), (4, .int z5), (5, .long z6)] := hl
  refine lv_lload hx hb dX1_take_0 (lv_at hl 5 rfl) ?_
  refine lv_lstore (lv' := [(7, .long z6), (0, .ref z1), (1, .ref z2), (2, .ref z3), (3, .int z4), (4, .int z5), (5, .long z6)]) hx hb dX1_take_2 hl (by decide) rfl (fun ls hl => ?_)
  refine lv_aload_n hx hb dX1_take_4 rfl (lv_at hl 1 rfl) ?_
  refine lv_iconst (v := 1) hx hb dX1_take_5 (by decide) ?_
  refine r_put (v := .int 1) (ty := .boolean) (fs1 := [.ref z7, .ref z8, .ref z9, .ref z10, .int 0, .int 1, .int 0, .int 1]) (ws1 := [(z1, .inr (1, [.ref z7, .ref z8, .ref z9, .ref z10, .int 0, .int 1, .int 0, .int 1])), (z7, .inl (T 0, 64, .inl (fun _ => 0))), (z11, .inl (T 0, 64, .inl (fl (-1) 64 (fun _ => 0)))), (z2, .inr (2, [.ref z11, .ref z12, .ref z13, .ref z14, .ref z15, .ref z16, .ref z17, .ref z18, .int 0, .int 1, .int 1, .int 0]))]) C0 hE ffX1_7 tyX1 tyX1_ok nmX1 mw_96 pf_98 hP hD hS 0 rfl rfl rfl (Nat.le_of_ble_eq_true rfl) rfl rfl dX1_take_6 (fun H locs hP hD hS => ?_)
  refine lv_aload_n hx hb dX1_take_9 rfl (lv_at hl 1 rfl) ?_
  refine lv_aload_n hx hb dX1_take_10 rfl (lv_at hl 2 rfl) ?_
  refine r_get (v := .int 1) C0 hE ffX2_9 mw_579 hP 3 rfl rfl dX1_take_11 ?_
  refine r_put (v := .int 1) (ty := .int) (fs1 := [.ref z7, .ref z8, .ref z9, .ref z10, .int 1, .int 1, .int 0, .int 1]) (ws1 := [(z1, .inr (1, [.ref z7, .ref z8, .ref z9, .ref z10, .int 1, .int 1, .int 0, .int 1])), (z7, .inl (T 0, 64, .inl (fun _ => 0))), (z11, .inl (T 0, 64, .inl (fl (-1) 64 (fun _ => 0)))), (z2, .inr (2, [.ref z11, .ref z12, .ref z13, .ref z14, .ref z15, .ref z16, .ref z17, .ref z18, .int 0, .int 1, .int 1, .int 0]))]) C0 hE ffX1_4 tyX1 tyX1_ok nmX1 mw_90 pf_29 hP hD hS 0 rfl rfl rfl (Nat.le_of_ble_eq_true rfl) rfl rfl dX1_take_14 (fun H locs hP hD hS => ?_)
  refine lv_aload_n hx hb dX1_take_17 rfl (lv_at hl 1 rfl) ?_
  refine lv_aload_n hx hb dX1_take_18 rfl (lv_at hl 2 rfl) ?_
  refine r_get (v := .int 1) C0 hE ffX2_10 mw_580 hP 3 rfl rfl dX1_take_19 ?_
  refine r_put (v := .int 1) (ty := .int) (fs1 := [.ref z7, .ref z8, .ref z9, .ref z10, .int 1, .int 1, .int 0, .int 1]) (ws1 := [(z1, .inr (1, [.ref z7, .ref z8, .ref z9, .ref z10, .int 1, .int 1, .int 0, .int 1])), (z7, .inl (T 0, 64, .inl (fun _ => 0))), (z11, .inl (T 0, 64, .inl (fl (-1) 64 (fun _ => 0)))), (z2, .inr (2, [.ref z11, .ref z12, .ref z13, .ref z14, .ref z15, .ref z16, .ref z17, .ref z18, .int 0, .int 1, .int 1, .int 0]))]) C0 hE ffX1_5 tyX1 tyX1_ok nmX1 mw_92 pf_29 hP hD hS 0 rfl rfl rfl (Nat.le_of_ble_eq_true rfl) rfl rfl dX1_take_22 (fun H locs hP hD hS => ?_)
  refine lv_aload_n hx hb dX1_take_25 rfl (lv_at hl 1 rfl) ?_
  refine lv_iconst (v := 0) hx hb dX1_take_26 (by decide) ?_
  refine r_put (v := .int 0) (ty := .int) (fs1 := [.ref z7, .ref z8, .ref z9, .ref z10, .int 1, .int 1, .int 0, .int 1]) (ws1 := [(z1, .inr (1, [.ref z7, .ref z8, .ref z9, .ref z10, .int 1, .int 1, .int 0, .int 1])), (z7, .inl (T 0, 64, .inl (fun _ => 0))), (z11, .inl (T 0, 64, .inl (fl (-1) 64 (fun _ => 0)))), (z2, .inr (2, [.ref z11, .ref z12, .ref z13, .ref z14, .ref z15, .ref z16, .ref z17, .ref z18, .int 0, .int 1, .int 1, .int 0]))]) C0 hE ffX1_6 tyX1 tyX1_ok nmX1 mw_94 pf_29 hP hD hS 0 rfl rfl rfl (Nat.le_of_ble_eq_true rfl) rfl rfl dX1_take_27 (fun H locs hP hD hS => ?_)
  refine lv_iconst (v := 0) hx hb dX1_take_30 (by decide) ?_
  refine lv_istore (lv' := [(9, .int 0), (7, .long z6), (0, .ref z1), (1, .ref z2), (2, .ref z3), (3, .int z4), (4, .int z5), (5, .long z6)]) hx hb dX1_take_31 hl (by decide) rfl (fun ls hl => ?_)
  refine lv_iload hx hb dX1_take_33 (lv_at hl 0 rfl) ?_
  refine lv_aload_n hx hb dX1_take_35 rfl (lv_at hl 2 rfl) ?_
  refine r_get (v := .int 1) C0 hE ffX1_4 mw_90 hP 0 rfl rfl dX1_take_36 ?_
  refine lv_icmp_ge (tgt := 193) hx hb dX1_take_39 (by decide) (fun hc => absurd hc (by decide +kernel)) (fun _ => ?_)
  refine lv_aload_n hx hb dX1_take_42 rfl (lv_at hl 2 rfl) ?_
  refine r_get (v := .ref z7) C0 hE ffX1_0 mw_82 hP 0 rfl rfl dX1_take_43 ?_
  refine lv_iload hx hb dX1_take_46 (lv_at hl 0 rfl) ?_
  refine lv_iconst (v := (-1)) hx hb dX1_take_48 (by decide) ?_
  refine r_iastO hx hb hK hP hD hS 1 rfl (vp_lit (by decide +kernel)) dX1_take_49 (fun f1322 H locs hP hD hS => ?_)
  have hP : va_P D vwCl [(z1, .inr (1, [.ref z7, .ref z8, .ref z9, .ref z10, .int 1, .int 1, .int 0, .int 1])), (z7, .inl (T 0, 64, .inl f1322)), (z11, .inl (T 0, 64, .inl (fl (-1) 64 (fun _ => 0)))), (z2, .inr (2, [.ref z11, .ref z12, .ref z13, .ref z14, .ref z15, .ref z16, .ref z17, .ref z18, .int 0, .int 1, .int 1, .int 0]))] H := hP
  have hD : va_D A [(z1, .inr (1, [.ref z7, .ref z8, .ref z9, .ref z10, .int 1, .int 1, .int 0, .int 1])), (z7, .inl (T 0, 64, .inl f1322)), (z11, .inl (T 0, 64, .inl (fl (-1) 64 (fun _ => 0)))), (z2, .inr (2, [.ref z11, .ref z12, .ref z13, .ref z14, .ref z15, .ref z16, .ref z17, .ref z18, .int 0, .int 1, .int 1, .int 0]))] := hD
  refine lv_aload_n hx hb dX1_take_50 rfl (lv_at hl 3 rfl) ?_
  refine lv_iload hx hb dX1_take_51 (lv_at hl 0 rfl) ?_
  refine r_calli (wr := [(z1, .inr (1, [.ref z7, .ref z8, .ref z9, .ref z10, .int 1, .int 1, .int 0, .int 1])), (z7, .inl (T 0, 64, .inl f1322))]) (r_runV (As := [.int 0]) (rest := []) (wc := [(z2, .inr (2, [.ref z11, .ref z12, .ref z13, .ref z14, .ref z15, .ref z16, .ref z17, .ref z18, .int 0, .int 1, .int 1, .int 0])), (z11, .inl (T 0, 64, .inl (fl (-1) 64 (fun _ => 0))))]) (ci := 2) C0 hE (c_X2_hasHook_1189 l D T H.size z2 z11 z12 z13 z14 z15 z16 z17 z18) mw_581 mw_564 mw_565 mw_64 mw_566 dn_562 rfl rfl ⟨Nat.le_of_ble_eq_true rfl, Nat.le_of_ble_eq_true rfl⟩ (hP.sub (ws' := [(z2, .inr (2, [.ref z11, .ref z12, .ref z13, .ref z14, .ref z15, .ref z16, .ref z17, .ref z18, .int 0, .int 1, .int 1, .int 0])), (z11, .inl (T 0, 64, .inl (fl (-1) 64 (fun _ => 0))))]) [3, 2] rfl) (hD.sub (ws' := [(z2, .inr (2, [.ref z11, .ref z12, .ref z13, .ref z14, .ref z15, .ref z16, .ref z17, .ref z18, .int 0, .int 1, .int 1, .int 0])), (z11, .inl (T 0, 64, .inl (fl (-1) 64 (fun _ => 0))))]) [3, 2] (by decide +kernel) rfl) rfl rfl rfl hl.1 rfl (Nat.le_of_ble_eq_true rfl) dX1_take_53 ⟨Nat.le_of_ble_eq_true rfl, Nat.le_of_ble_eq_true rfl⟩) hP hD hS hA [3, 2] [0, 1] rfl rfl (by decide +kernel) (by decide +kernel) (fun r1323 u H locs hq hP hD hS => ?_)
  have hq : r1323 = 0 := hq
  subst hq
  have hP : va_P D vwCl [(z1, .inr (1, [.ref z7, .ref z8, .ref z9, .ref z10, .int 1, .int 1, .int 0, .int 1])), (z7, .inl (T 0, 64, .inl f1322)), (z2, .inr (2, [.ref z11, .ref z12, .ref z13, .ref z14, .ref z15, .ref z16, .ref z17, .ref z18, .int 0, .int 1, .int 1, .int 0])), (z11, .inl (T 0, 64, .inl (fl (-1) 64 (fun _ => 0))))] H := hP
  have hD : va_D A [(z1, .inr (1, [.ref z7, .ref z8, .ref z9, .ref z10, .int 1, .int 1, .int 0, .int 1])), (z7, .inl (T 0, 64, .inl f1322)), (z2, .inr (2, [.ref z11, .ref z12, .ref z13, .ref z14, .ref z15, .ref z16, .ref z17, .ref z18, .int 0, .int 1, .int 1, .int 0])), (z11, .inl (T 0, 64, .inl (fl (-1) 64 (fun _ => 0))))] := hD
  refine W.widen (k := 0) (n := 0) (Nat.le_of_ble_eq_true rfl) (Nat.le_of_ble_eq_true rfl) ?_
  refine lv_if_eq (tgt := 187) hx hb dX1_take_56 (by decide) (fun _ => ?_) (fun hc => absurd (by decide +kernel) hc)
  refine lv_iinc (v := 1) (lv' := [(9, .int 1), (7, .long z6), (0, .ref z1), (1, .ref z2), (2, .ref z3), (3, .int z4), (4, .int z5), (5, .long z6)]) hx hb dX1_take_187 hl (k := 0) rfl (by decide +kernel) (by decide) rfl (fun ls hl => ?_)
  refine lv_goto (tgt := 33) hx hb dX1_take_190 (by decide) ?_
  refine lv_iload hx hb dX1_take_33 (lv_at hl 0 rfl) ?_
  refine lv_aload_n hx hb dX1_take_35 rfl (lv_at hl 2 rfl) ?_
  refine r_get (v := .int 1) C0 hE ffX1_4 mw_90 hP 0 rfl rfl dX1_take_36 ?_
  refine lv_icmp_ge (tgt := 193) hx hb dX1_take_39 (by decide) (fun _ => ?_) (fun hc => absurd (by decide +kernel) hc)
  refine lv_lload hx hb dX1_take_193 (lv_at hl 1 rfl) ?_
  exact r_lret (f1322) C0 hr hlocks hS (Nat.le_of_ble_eq_true rfl) (Nat.le_of_ble_eq_true rfl) dX1_take_195 rfl hP hD
set_option maxHeartbeats 4000000 in
set_option maxRecDepth 100000 in
theorem c_X10_draw_1344 (l : Launch) (D : va_G) (T : Nat → ClassId) (sz : Nat) (z1 : Nat) (z2 : Int32) (z3 : Int32) (z4 : Int32) (z5 : Nat) (z6 : Nat) (z7 : Nat) (z8 : Nat) (z9 : Nat) (z10 : Nat) (z11 : Nat) (z12 : Nat) (z13 : Nat) (z14 : Nat) (z15 : Nat) (z16 : Nat) (z17 : Nat) (z18 : Nat) (z19 : Nat) (z20 : Nat) (z21 : Nat) (z22 : Nat) (z23 : Nat) (z24 : Nat) (z25 : Nat) (z26 : Nat) (z27 : Nat) (z28 : Nat) (z29 : Nat) (z30 : Nat) (z31 : Nat) (z32 : Nat) (z33 : Nat) : Met l yX10_draw (.code yX10_draw cX10_draw 4 (some .int) :: TB) { frames := 2, cells := 0, slots := 0, locals := 51 } (PC D T [.ref z1, .int z2, .int z3, .int z4] [(z1, .inr (10, [.ref z5, .ref z6, .ref z7, .ref z8, .ref z9, .ref z10, .ref z11, .ref z12, .ref z13, .ref z14, .ref z15, .int 1, .int (-1), .int 0, .int (-1)])), (z7, .inr (0, [.ref z16, .ref z17, .ref z18, .ref z19, .ref z20, .ref z21, .int 0])), (z10, .inr (1, [.ref z22, .ref z23, .ref z24, .ref z25, .int 0, .int 1, .int 0, .int 0])), (z22, .inl (T 0, 64, .inl (fun _ => 0))), (z8, .inr (2, [.ref z26, .ref z27, .ref z28, .ref z29, .ref z30, .ref z31, .ref z32, .ref z33, .int 0, .int 1, .int 1, .int 0])), (z26, .inl (T 0, 64, .inl (fl (-1) 64 (fun _ => 0))))] sz) (Qi (S := Unit) (fun (r : Int32) (_ : Unit) => r = (if (wi z2 0 99 && wi z3 0 99) = true then (if z4 < 0 then (-1) else 0) else (-1))) (fun (_ : Unit) => []) D (va_A [(z1, .inr (10, [.ref z5, .ref z6, .ref z7, .ref z8, .ref z9, .ref z10, .ref z11, .ref z12, .ref z13, .ref z14, .ref z15, .int 1, .int (-1), .int 0, .int (-1)])), (z7, .inr (0, [.ref z16, .ref z17, .ref z18, .ref z19, .ref z20, .ref z21, .int 0])), (z10, .inr (1, [.ref z22, .ref z23, .ref z24, .ref z25, .int 0, .int 1, .int 0, .int 0])), (z22, .inl (T 0, 64, .inl (fun _ => 0))), (z8, .inr (2, [.ref z26, .ref z27, .ref z28, .ref z29, .ref z30, .ref z31, .ref z32, .ref z33, .int 0, .int 1, .int 1, .int 0])), (z26, .inl (T 0, 64, .inl (fl (-1) 64 (fun _ => 0))))] sz)) 0 0 (va_A [(z1, .inr (10, [.ref z5, .ref z6, .ref z7, .ref z8, .ref z9, .ref z10, .ref z11, .ref z12, .ref z13, .ref z14, .ref z15, .int 1, .int (-1), .int 0, .int (-1)])), (z7, .inr (0, [.ref z16, .ref z17, .ref z18, .ref z19, .ref z20, .ref z21, .int 0])), (z10, .inr (1, [.ref z22, .ref z23, .ref z24, .ref z25, .int 0, .int 1, .int 0, .int 0])), (z22, .inl (T 0, 64, .inl (fun _ => 0))), (z8, .inr (2, [.ref z26, .ref z27, .ref z28, .ref z29, .ref z30, .ref z31, .ref z32, .ref z33, .int 0, .int 1, .int 1, .int 0])), (z26, .inl (T 0, 64, .inl (fl (-1) 64 (fun _ => 0))))] sz) := by
  refine ct_begin (Qc := Qi (S := Unit) (fun (r : Int32) (_ : Unit) => r = (if (wi z2 0 99 && wi z3 0 99) = true then (if z4 < 0 then (-1) else 0) else (-1))) (fun (_ : Unit) => []) D) (by decide +kernel) (Nat.le_of_ble_eq_true rfl) ?_
  intro p e s m below meth c A ls C0 hr hlocks hnm hE hA hP hD hS hl
  have hx := C0.1
  have hb := C0.2.1
  have hml := C0.2.2.1
  have hown := C0.2.2.2.1
  have hT := C0.2.2.2.2
  have hK := hE.1
  have hl : lv_has ls 4 [(0, .ref z1), (1, .int z2), (2, .int z3), (3, .int z4)] := hl
  refine lv_iload_n hx hb dX10_draw_0 rfl (lv_at hl 1 rfl) ?_
  refine lv_iload_n hx hb dX10_draw_1 rfl (lv_at hl 2 rfl) ?_
  refine r_calli (wr := [(z1, .inr (10, [.ref z5, .ref z6, .ref z7, .ref z8, .ref z9, .ref z10, .ref z11, .ref z12, .ref z13, .ref z14, .ref z15, .int 1, .int (-1), .int 0, .int (-1)])), (z7, .inr (0, [.ref z16, .ref z17, .ref z18, .ref z19, .ref z20, .ref z21, .int 0])), (z10, .inr (1, [.ref z22, .ref z23, .ref z24, .ref z25, .int 0, .int 1, .int 0, .int 0])), (z22, .inl (T 0, 64, .inl (fun _ => 0))), (z8, .inr (2, [.ref z26, .ref z27, .ref z28, .ref z29, .ref z30, .ref z31, .ref z32, .ref z33, .int 0, .int 1, .int 1, .int 0])), (z26, .inl (T 0, 64, .inl (fl (-1) 64 (fun _ => 0))))]) (r_runS (As := [.int z2, .int z3]) (rest := []) (wc := []) C0 hE (c_X10_canPress_1062 l D T s.heap.size z2 z3) mw_538 mw_539 mw_7 mw_540 dn_537 rfl rfl ⟨Nat.le_of_ble_eq_true rfl, Nat.le_of_ble_eq_true rfl⟩ (hP.sub (ws' := []) [] rfl) (hD.sub (ws' := []) [] (by decide +kernel) rfl) hl.1 rfl (Nat.le_of_ble_eq_true rfl) dX10_draw_2 ⟨Nat.le_of_ble_eq_true rfl, Nat.le_of_ble_eq_true rfl⟩) hP hD hS hA [] [0, 1, 2, 3, 4, 5] rfl rfl (by decide +kernel) (by decide +kernel) (fun r1335 u H locs hq hP hD hS => ?_)
  have hq : r1335 = (bi (wi z2 0 99 && wi z3 0 99)) := hq
  subst hq
  have hP : va_P D vwCl [(z1, .inr (10, [.ref z5, .ref z6, .ref z7, .ref z8, .ref z9, .ref z10, .ref z11, .ref z12, .ref z13, .ref z14, .ref z15, .int 1, .int (-1), .int 0, .int (-1)])), (z7, .inr (0, [.ref z16, .ref z17, .ref z18, .ref z19, .ref z20, .ref z21, .int 0])), (z10, .inr (1, [.ref z22, .ref z23, .ref z24, .ref z25, .int 0, .int 1, .int 0, .int 0])), (z22, .inl (T 0, 64, .inl (fun _ => 0))), (z8, .inr (2, [.ref z26, .ref z27, .ref z28, .ref z29, .ref z30, .ref z31, .ref z32, .ref z33, .int 0, .int 1, .int 1, .int 0])), (z26, .inl (T 0, 64, .inl (fl (-1) 64 (fun _ => 0))))] H := hP
  have hD : va_D A [(z1, .inr (10, [.ref z5, .ref z6, .ref z7, .ref z8, .ref z9, .ref z10, .ref z11, .ref z12, .ref z13, .ref z14, .ref z15, .int 1, .int (-1), .int 0, .int (-1)])), (z7, .inr (0, [.ref z16, .ref z17, .ref z18, .ref z19, .ref z20, .ref z21, .int 0])), (z10, .inr (1, [.ref z22, .ref z23, .ref z24, .ref z25, .int 0, .int 1, .int 0, .int 0])), (z22, .inl (T 0, 64, .inl (fun _ => 0))), (z8, .inr (2, [.ref z26, .ref z27, .ref z28, .ref z29, .ref z30, .ref z31, .ref z32, .ref z33, .int 0, .int 1, .int 1, .int 0])), (z26, .inl (T 0, 64, .inl (fl (-1) 64 (fun _ => 0))))] := hD
  refine W.widen (k := 0) (n := 0) (Nat.le_of_ble_eq_true rfl) (Nat.le_of_ble_eq_true rfl) ?_
  refine lv_if_eq (tgt := 12) hx hb dX10_draw_5 (by decide) (fun c_1336 => ?_) (fun c_1336 => ?_)
  · skip
    have c_1336 := bi_z c_1336
    refine lv_iconst (v := (-1)) hx hb dX10_draw_12 (by decide) ?_
    exact r_iret () C0 hr hlocks hS (Nat.le_of_ble_eq_true rfl) (Nat.le_of_ble_eq_true rfl) dX10_draw_13 (by first | rfl | decide +kernel | simp [bi, FO, TS, c_1336]) P_nil D_nil
  · skip
    have c_1336 := bi_nz c_1336
    refine lv_iload_n hx hb dX10_draw_8 rfl (lv_at hl 3 rfl) ?_
    refine lv_if_ge (tgt := 14) hx hb dX10_draw_9 (by decide) (fun c_1337 => ?_) (fun c_1337 => ?_)
    · skip
      refine lv_aload_n hx hb dX10_draw_14 rfl (lv_at hl 0 rfl) ?_
      refine r_get (v := .ref z10) C0 hE ffX10_5 mw_163 hP 0 rfl rfl dX10_draw_15 ?_
      refine lv_aload_n hx hb dX10_draw_18 rfl (lv_at hl 0 rfl) ?_
      refine r_callr (wr := [(z10, .inr (1, [.ref z22, .ref z23, .ref z24, .ref z25, .int 0, .int 1, .int 0, .int 0])), (z22, .inl (T 0, 64, .inl (fun _ => 0))), (z26, .inl (T 0, 64, .inl (fl (-1) 64 (fun _ => 0))))]) (r_runV (As := []) (rest := [.ref z10]) (wc := [(z1, .inr (10, [.ref z5, .ref z6, .ref z7, .ref z8, .ref z9, .ref z10, .ref z11, .ref z12, .ref z13, .ref z14, .ref z15, .int 1, .int (-1), .int 0, .int (-1)])), (z7, .inr (0, [.ref z16, .ref z17, .ref z18, .ref z19, .ref z20, .ref z21, .int 0])), (z8, .inr (2, [.ref z26, .ref z27, .ref z28, .ref z29, .ref z30, .ref z31, .ref z32, .ref z33, .int 0, .int 1, .int 1, .int 0]))]) (ci := 10) C0 hE (c_X10_broughtUp_1188 l D T H.size z1 z5 z6 z7 z8 z9 z10 z11 z12 z13 z14 z15 z16 z17 z18 z19 z20 z21 z26 z27 z28 z29 z30 z31 z32 z33) mw_558 mw_559 mw_560 mw_7 mw_561 dn_557 rfl rfl ⟨Nat.le_of_ble_eq_true rfl, Nat.le_of_ble_eq_true rfl⟩ (hP.sub (ws' := [(z1, .inr (10, [.ref z5, .ref z6, .ref z7, .ref z8, .ref z9, .ref z10, .ref z11, .ref z12, .ref z13, .ref z14, .ref z15, .int 1, .int (-1), .int 0, .int (-1)])), (z7, .inr (0, [.ref z16, .ref z17, .ref z18, .ref z19, .ref z20, .ref z21, .int 0])), (z8, .inr (2, [.ref z26, .ref z27, .ref z28, .ref z29, .ref z30, .ref z31, .ref z32, .ref z33, .int 0, .int 1, .int 1, .int 0]))]) [0, 1, 4] rfl) (hD.sub (ws' := [(z1, .inr (10, [.ref z5, .ref z6, .ref z7, .ref z8, .ref z9, .ref z10, .ref z11, .ref z12, .ref z13, .ref z14, .ref z15, .int 1, .int (-1), .int 0, .int (-1)])), (z7, .inr (0, [.ref z16, .ref z17, .ref z18, .ref z19, .ref z20, .ref z21, .int 0])), (z8, .inr (2, [.ref z26, .ref z27, .ref z28, .ref z29, .ref z30, .ref z31, .ref z32, .ref z33, .int 0, .int 1, .int 1, .int 0]))]) [0, 1, 4] (by decide +kernel) rfl) rfl rfl rfl hl.1 rfl (Nat.le_of_ble_eq_true rfl) dX10_draw_19 ⟨Nat.le_of_ble_eq_true rfl, Nat.le_of_ble_eq_true rfl⟩) hP hD hS hA [0, 1, 4] [2, 3, 5] rfl rfl (by decide +kernel) (by decide +kernel) (fun  u H locs hP hD hS => ?_)
      have hP : va_P D vwCl [(z10, .inr (1, [.ref z22, .ref z23, .ref z24, .ref z25, .int 0, .int 1, .int 0, .int 0])), (z22, .inl (T 0, 64, .inl (fun _ => 0))), (z26, .inl (T 0, 64, .inl (fl (-1) 64 (fun _ => 0)))), (z8, .inr (2, [.ref z26, .ref z27, .ref z28, .ref z29, .ref z30, .ref z31, .ref z32, .ref z33, .int 0, .int 1, .int 1, .int 0])), (z1, .inr (10, [.ref z5, .ref z6, .ref z7, .ref z8, .ref z9, .ref z10, .ref z11, .ref z12, .ref z13, .ref z14, .ref z15, .int 1, .int (-1), .int 0, .int (-1)])), (z7, .inr (0, [.ref z16, .ref z17, .ref z18, .ref z19, .ref z20, .ref z21, .int 0]))] H := hP
      have hD : va_D A [(z10, .inr (1, [.ref z22, .ref z23, .ref z24, .ref z25, .int 0, .int 1, .int 0, .int 0])), (z22, .inl (T 0, 64, .inl (fun _ => 0))), (z26, .inl (T 0, 64, .inl (fl (-1) 64 (fun _ => 0)))), (z8, .inr (2, [.ref z26, .ref z27, .ref z28, .ref z29, .ref z30, .ref z31, .ref z32, .ref z33, .int 0, .int 1, .int 1, .int 0])), (z1, .inr (10, [.ref z5, .ref z6, .ref z7, .ref z8, .ref z9, .ref z10, .ref z11, .ref z12, .ref z13, .ref z14, .ref z15, .int 1, .int (-1), .int 0, .int (-1)])), (z7, .inr (0, [.ref z16, .ref z17, .ref z18, .ref z19, .ref z20, .ref z21, .int 0]))] := hD
      refine W.eq (g2 := F0 m 22 ls [.ref z8, .ref z10]) rfl ?_
      refine W.widen (k := 0) (n := 0) (Nat.le_of_ble_eq_true rfl) (Nat.le_of_ble_eq_true rfl) ?_
      refine lv_aload_n hx hb dX10_draw_22 rfl (lv_at hl 0 rfl) ?_
      refine r_get (v := .ref z14) C0 hE ffX10_9 mw_255 hP 4 rfl rfl dX10_draw_23 ?_
      refine lv_iload_n hx hb dX10_draw_26 rfl (lv_at hl 1 rfl) ?_
      refine lv_iload_n hx hb dX10_draw_27 rfl (lv_at hl 2 rfl) ?_
      refine lv_iload_n hx hb dX10_draw_28 rfl (lv_at hl 3 rfl) ?_
      refine lv_i2l hx hb dX10_draw_29 rfl ?_
      refine r_calll (wr := [(z1, .inr (10, [.ref z5, .ref z6, .ref z7, .ref z8, .ref z9, .ref z10, .ref z11, .ref z12, .ref z13, .ref z14, .ref z15, .int 1, .int (-1), .int 0, .int (-1)])), (z7, .inr (0, [.ref z16, .ref z17, .ref z18, .ref z19, .ref z20, .ref z21, .int 0]))]) (r_runV (As := [.ref z8, .ref z14, .int z2, .int z3, .long z4.toInt64]) (rest := []) (wc := [(z10, .inr (1, [.ref z22, .ref z23, .ref z24, .ref z25, .int 0, .int 1, .int 0, .int 0])), (z22, .inl (T 0, 64, .inl (fun _ => 0))), (z26, .inl (T 0, 64, .inl (fl (-1) 64 (fun _ => 0)))), (z8, .inr (2, [.ref z26, .ref z27, .ref z28, .ref z29, .ref z30, .ref z31, .ref z32, .ref z33, .int 0, .int 1, .int 1, .int 0]))]) (ci := 1) C0 hE (c_X1_take_1324 l D T H.size z10 z8 z14 z2 z3 z4.toInt64 z22 z23 z24 z25 z26 z27 z28 z29 z30 z31 z32 z33) mw_583 mw_584 mw_585 mw_80 mw_586 dn_582 rfl rfl ⟨Nat.le_of_ble_eq_true rfl, Nat.le_of_ble_eq_true rfl⟩ (hP.sub (ws' := [(z10, .inr (1, [.ref z22, .ref z23, .ref z24, .ref z25, .int 0, .int 1, .int 0, .int 0])), (z22, .inl (T 0, 64, .inl (fun _ => 0))), (z26, .inl (T 0, 64, .inl (fl (-1) 64 (fun _ => 0)))), (z8, .inr (2, [.ref z26, .ref z27, .ref z28, .ref z29, .ref z30, .ref z31, .ref z32, .ref z33, .int 0, .int 1, .int 1, .int 0]))]) [0, 1, 2, 3] rfl) (hD.sub (ws' := [(z10, .inr (1, [.ref z22, .ref z23, .ref z24, .ref z25, .int 0, .int 1, .int 0, .int 0])), (z22, .inl (T 0, 64, .inl (fun _ => 0))), (z26, .inl (T 0, 64, .inl (fl (-1) 64 (fun _ => 0)))), (z8, .inr (2, [.ref z26, .ref z27, .ref z28, .ref z29, .ref z30, .ref z31, .ref z32, .ref z33, .int 0, .int 1, .int 1, .int 0]))]) [0, 1, 2, 3] (by decide +kernel) rfl) rfl rfl rfl hl.1 rfl (Nat.le_of_ble_eq_true rfl) dX10_draw_30 ⟨Nat.le_of_ble_eq_true rfl, Nat.le_of_ble_eq_true rfl⟩) hP hD hS hA [0, 1, 2, 3] [4, 5] rfl rfl (by decide +kernel) (by decide +kernel) (fun r1343 u H locs hq hP hD hS => ?_)
      obtain ⟨f1342, rfl⟩ : ∃ z, z = u := ⟨_, rfl⟩
      have hq : r1343 = z4.toInt64 := hq
      subst hq
      have hP : va_P D vwCl [(z1, .inr (10, [.ref z5, .ref z6, .ref z7, .ref z8, .ref z9, .ref z10, .ref z11, .ref z12, .ref z13, .ref z14, .ref z15, .int 1, .int (-1), .int 0, .int (-1)])), (z7, .inr (0, [.ref z16, .ref z17, .ref z18, .ref z19, .ref z20, .ref z21, .int 0])), (z10, .inr (1, [.ref z22, .ref z23, .ref z24, .ref z25, .int 1, .int 1, .int 0, .int 1])), (z22, .inl (T 0, 64, .inl f1342)), (z8, .inr (2, [.ref z26, .ref z27, .ref z28, .ref z29, .ref z30, .ref z31, .ref z32, .ref z33, .int 0, .int 1, .int 1, .int 0])), (z26, .inl (T 0, 64, .inl (fl (-1) 64 (fun _ => 0))))] H := hP
      have hD : va_D A [(z1, .inr (10, [.ref z5, .ref z6, .ref z7, .ref z8, .ref z9, .ref z10, .ref z11, .ref z12, .ref z13, .ref z14, .ref z15, .int 1, .int (-1), .int 0, .int (-1)])), (z7, .inr (0, [.ref z16, .ref z17, .ref z18, .ref z19, .ref z20, .ref z21, .int 0])), (z10, .inr (1, [.ref z22, .ref z23, .ref z24, .ref z25, .int 1, .int 1, .int 0, .int 1])), (z22, .inl (T 0, 64, .inl f1342)), (z8, .inr (2, [.ref z26, .ref z27, .ref z28, .ref z29, .ref z30, .ref z31, .ref z32, .ref z33, .int 0, .int 1, .int 1, .int 0])), (z26, .inl (T 0, 64, .inl (fl (-1) 64 (fun _ => 0))))] := hD
      refine W.widen (k := 0) (n := 0) (Nat.le_of_ble_eq_true rfl) (Nat.le_of_ble_eq_true rfl) ?_
      refine lv_pop2_2 hx hb dX10_draw_33 rfl ?_
      refine lv_aload_n hx hb dX10_draw_34 rfl (lv_at hl 0 rfl) ?_
      refine r_get (v := .ref z10) C0 hE ffX10_5 mw_163 hP 0 rfl rfl dX10_draw_35 ?_
      refine r_get (v := .int 0) C0 hE ffX1_6 mw_587 hP 2 rfl rfl dX10_draw_38 ?_
      exact r_iret () C0 hr hlocks hS (Nat.le_of_ble_eq_true rfl) (Nat.le_of_ble_eq_true rfl) dX10_draw_41 (by first | rfl | decide +kernel | simp [bi, FO, TS, c_1336, c_1337]) P_nil D_nil
    · skip
      refine lv_iconst (v := (-1)) hx hb dX10_draw_12 (by decide) ?_
      exact r_iret () C0 hr hlocks hS (Nat.le_of_ble_eq_true rfl) (Nat.le_of_ble_eq_true rfl) dX10_draw_13 (by first | rfl | decide +kernel | simp [bi, FO, TS, c_1336, c_1337]) P_nil D_nil
set_option maxHeartbeats 4000000 in
set_option maxRecDepth 100000 in
theorem c_X10_caught_1345 (l : Launch) (D : va_G) (T : Nat → ClassId) (sz : Nat) (z1 : Nat) (z2 : Int32) (z3 : Nat) (z4 : Nat) (z5 : Nat) (z6 : Nat) (z7 : Nat) (z8 : Nat) (z9 : Nat) (z10 : Nat) (z11 : Nat) (z12 : Nat) (z13 : Nat) (z14 : Nat) (z15 : Nat) (z16 : Nat) (z17 : Nat) : Met l yX10_caught (.code yX10_caught cX10_caught 2 (some .int) :: TB) { frames := 0, cells := 0, slots := 0, locals := 0 } (PC D T [.ref z1, .int z2] [(z1, .inr (10, [.ref z3, .ref z4, .ref z5, .ref z6, .ref z7, .ref z8, .ref z9, .ref z10, .ref z11, .ref z12, .ref z13, .int 1, .int (-1), .int 0, .int (-1)])), (z8, .inr (1, [.ref z14, .ref z15, .ref z16, .ref z17, .int 0, .int 1, .int 0, .int 0]))] sz) (Qi (S := Unit) (fun (r : Int32) (_ : Unit) => r = (-1)) (fun (_ : Unit) => [(z1, .inr (10, [.ref z3, .ref z4, .ref z5, .ref z6, .ref z7, .ref z8, .ref z9, .ref z10, .ref z11, .ref z12, .ref z13, .int 1, .int (-1), .int 0, .int (-1)])), (z8, .inr (1, [.ref z14, .ref z15, .ref z16, .ref z17, .int 0, .int 1, .int 0, .int 0]))]) D (va_A [(z1, .inr (10, [.ref z3, .ref z4, .ref z5, .ref z6, .ref z7, .ref z8, .ref z9, .ref z10, .ref z11, .ref z12, .ref z13, .int 1, .int (-1), .int 0, .int (-1)])), (z8, .inr (1, [.ref z14, .ref z15, .ref z16, .ref z17, .int 0, .int 1, .int 0, .int 0]))] sz)) 0 0 (va_A [(z1, .inr (10, [.ref z3, .ref z4, .ref z5, .ref z6, .ref z7, .ref z8, .ref z9, .ref z10, .ref z11, .ref z12, .ref z13, .int 1, .int (-1), .int 0, .int (-1)])), (z8, .inr (1, [.ref z14, .ref z15, .ref z16, .ref z17, .int 0, .int 1, .int 0, .int 0]))] sz) := by
  refine ct_begin (Qc := Qi (S := Unit) (fun (r : Int32) (_ : Unit) => r = (-1)) (fun (_ : Unit) => [(z1, .inr (10, [.ref z3, .ref z4, .ref z5, .ref z6, .ref z7, .ref z8, .ref z9, .ref z10, .ref z11, .ref z12, .ref z13, .int 1, .int (-1), .int 0, .int (-1)])), (z8, .inr (1, [.ref z14, .ref z15, .ref z16, .ref z17, .int 0, .int 1, .int 0, .int 0]))]) D) (by decide +kernel) (Nat.le_of_ble_eq_true rfl) ?_
  intro p e s m below meth c A ls C0 hr hlocks hnm hE hA hP hD hS hl
  have hx := C0.1
  have hb := C0.2.1
  have hml := C0.2.2.1
  have hown := C0.2.2.2.1
  have hT := C0.2.2.2.2
  have hK := hE.1
  have hl : lv_has ls 2 [(0, .ref z1), (1, .int z2)] := hl
  refine lv_aload_n hx hb dX10_caught_0 rfl (lv_at hl 0 rfl) ?_
  refine r_get (v := .ref z8) C0 hE ffX10_5 mw_163 hP 0 rfl rfl dX10_caught_1 ?_
  refine r_get (v := .int 0) C0 hE ffX1_7 mw_517 hP 1 rfl rfl dX10_caught_4 ?_
  refine lv_if_eq (tgt := 30) hx hb dX10_caught_7 (by decide) (fun _ => ?_) (fun hc => absurd (by decide +kernel) hc)
  refine lv_iconst (v := (-1)) hx hb dX10_caught_30 (by decide) ?_
  exact r_iret () C0 hr hlocks hS (Nat.le_of_ble_eq_true rfl) (Nat.le_of_ble_eq_true rfl) dX10_caught_31 rfl hP hD
set_option maxHeartbeats 4000000 in
set_option maxRecDepth 100000 in
theorem c_X10_pull_1346 (l : Launch) (D : va_G) (T : Nat → ClassId) (sz : Nat) (z1 : Nat) (z2 : Nat) (z3 : Nat) (z4 : Nat) (z5 : Nat) (z6 : Nat) (z7 : Nat) (z8 : Nat) (z9 : Nat) (z10 : Nat) (z11 : Nat) (z12 : Nat) (z13 : Nat) (z14 : Nat) (z15 : Nat) (z16 : Nat) : Met l yX10_pull (.code yX10_pull cX10_pull 1 (some .int) :: TB) { frames := 0, cells := 0, slots := 0, locals := 0 } (PC D T [.ref z1] [(z1, .inr (10, [.ref z2, .ref z3, .ref z4, .ref z5, .ref z6, .ref z7, .ref z8, .ref z9, .ref z10, .ref z11, .ref z12, .int 1, .int (-1), .int 0, .int (-1)])), (z7, .inr (1, [.ref z13, .ref z14, .ref z15, .ref z16, .int 0, .int 1, .int 0, .int 0]))] sz) (Qi (S := Unit) (fun (r : Int32) (_ : Unit) => r = (-1)) (fun (_ : Unit) => [(z1, .inr (10, [.ref z2, .ref z3, .ref z4, .ref z5, .ref z6, .ref z7, .ref z8, .ref z9, .ref z10, .ref z11, .ref z12, .int 1, .int (-1), .int 0, .int (-1)])), (z7, .inr (1, [.ref z13, .ref z14, .ref z15, .ref z16, .int 0, .int 1, .int 0, .int 0]))]) D (va_A [(z1, .inr (10, [.ref z2, .ref z3, .ref z4, .ref z5, .ref z6, .ref z7, .ref z8, .ref z9, .ref z10, .ref z11, .ref z12, .int 1, .int (-1), .int 0, .int (-1)])), (z7, .inr (1, [.ref z13, .ref z14, .ref z15, .ref z16, .int 0, .int 1, .int 0, .int 0]))] sz)) 0 0 (va_A [(z1, .inr (10, [.ref z2, .ref z3, .ref z4, .ref z5, .ref z6, .ref z7, .ref z8, .ref z9, .ref z10, .ref z11, .ref z12, .int 1, .int (-1), .int 0, .int (-1)])), (z7, .inr (1, [.ref z13, .ref z14, .ref z15, .ref z16, .int 0, .int 1, .int 0, .int 0]))] sz) := by
  refine ct_begin (Qc := Qi (S := Unit) (fun (r : Int32) (_ : Unit) => r = (-1)) (fun (_ : Unit) => [(z1, .inr (10, [.ref z2, .ref z3, .ref z4, .ref z5, .ref z6, .ref z7, .ref z8, .ref z9, .ref z10, .ref z11, .ref z12, .int 1, .int (-1), .int 0, .int (-1)])), (z7, .inr (1, [.ref z13, .ref z14, .ref z15, .ref z16, .int 0, .int 1, .int 0, .int 0]))]) D) (by decide +kernel) (Nat.le_of_ble_eq_true rfl) ?_
  intro p e s m below meth c A ls C0 hr hlocks hnm hE hA hP hD hS hl
  have hx := C0.1
  have hb := C0.2.1
  have hml := C0.2.2.1
  have hown := C0.2.2.2.1
  have hT := C0.2.2.2.2
  have hK := hE.1
  have hl : lv_has ls 1 [(0, .ref z1)] := hl
  refine lv_aload_n hx hb dX10_pull_0 rfl (lv_at hl 0 rfl) ?_
  refine r_get (v := .ref z7) C0 hE ffX10_5 mw_163 hP 0 rfl rfl dX10_pull_1 ?_
  refine r_get (v := .int 0) C0 hE ffX1_7 mw_517 hP 1 rfl rfl dX10_pull_4 ?_
  refine lv_if_ne (tgt := 12) hx hb dX10_pull_7 (by decide) (fun hc => absurd (by decide +kernel) hc) (fun _ => ?_)
  refine lv_iconst (v := (-1)) hx hb dX10_pull_10 (by decide) ?_
  exact r_iret () C0 hr hlocks hS (Nat.le_of_ble_eq_true rfl) (Nat.le_of_ble_eq_true rfl) dX10_pull_11 rfl hP hD
set_option maxHeartbeats 4000000 in
set_option maxRecDepth 100000 in
theorem c_X10_isStep_1347 (l : Launch) (D : va_G) (T : Nat → ClassId) (sz : Nat) (z1 : Nat) (z2 : Int32) (z3 : Nat) (z4 : Nat) (z5 : Nat) (z6 : Nat) (z7 : Nat) (z8 : Nat) (z9 : Nat) (z10 : Nat) (z11 : Nat) (z12 : Nat) (z13 : Nat) (z14 : Nat) (z15 : Nat) (z16 : Nat) (z17 : Nat) : Met l yX10_isStep (.code yX10_isStep cX10_isStep 2 (some .boolean) :: TB) { frames := 0, cells := 0, slots := 0, locals := 0 } (PC D T [.ref z1, .int z2] [(z1, .inr (10, [.ref z3, .ref z4, .ref z5, .ref z6, .ref z7, .ref z8, .ref z9, .ref z10, .ref z11, .ref z12, .ref z13, .int 1, .int (-1), .int 0, .int (-1)])), (z9, .inr (6, [.ref z14, .ref z15, .ref z16, .ref z17, .int 0, .long 0, .int 0]))] sz) (Qi (S := Unit) (fun (r : Int32) (_ : Unit) => r = 0) (fun (_ : Unit) => [(z1, .inr (10, [.ref z3, .ref z4, .ref z5, .ref z6, .ref z7, .ref z8, .ref z9, .ref z10, .ref z11, .ref z12, .ref z13, .int 1, .int (-1), .int 0, .int (-1)])), (z9, .inr (6, [.ref z14, .ref z15, .ref z16, .ref z17, .int 0, .long 0, .int 0]))]) D (va_A [(z1, .inr (10, [.ref z3, .ref z4, .ref z5, .ref z6, .ref z7, .ref z8, .ref z9, .ref z10, .ref z11, .ref z12, .ref z13, .int 1, .int (-1), .int 0, .int (-1)])), (z9, .inr (6, [.ref z14, .ref z15, .ref z16, .ref z17, .int 0, .long 0, .int 0]))] sz)) 0 0 (va_A [(z1, .inr (10, [.ref z3, .ref z4, .ref z5, .ref z6, .ref z7, .ref z8, .ref z9, .ref z10, .ref z11, .ref z12, .ref z13, .int 1, .int (-1), .int 0, .int (-1)])), (z9, .inr (6, [.ref z14, .ref z15, .ref z16, .ref z17, .int 0, .long 0, .int 0]))] sz) := by
  refine ct_begin (Qc := Qi (S := Unit) (fun (r : Int32) (_ : Unit) => r = 0) (fun (_ : Unit) => [(z1, .inr (10, [.ref z3, .ref z4, .ref z5, .ref z6, .ref z7, .ref z8, .ref z9, .ref z10, .ref z11, .ref z12, .ref z13, .int 1, .int (-1), .int 0, .int (-1)])), (z9, .inr (6, [.ref z14, .ref z15, .ref z16, .ref z17, .int 0, .long 0, .int 0]))]) D) (by decide +kernel) (Nat.le_of_ble_eq_true rfl) ?_
  intro p e s m below meth c A ls C0 hr hlocks hnm hE hA hP hD hS hl
  have hx := C0.1
  have hb := C0.2.1
  have hml := C0.2.2.1
  have hown := C0.2.2.2.1
  have hT := C0.2.2.2.2
  have hK := hE.1
  have hl : lv_has ls 2 [(0, .ref z1), (1, .int z2)] := hl
  refine lv_aload_n hx hb dX10_isStep_0 rfl (lv_at hl 0 rfl) ?_
  refine r_get (v := .ref z9) C0 hE ffX10_6 mw_166 hP 0 rfl rfl dX10_isStep_1 ?_
  refine r_get (v := .int 0) C0 hE ffX6_6 mw_518 hP 1 rfl rfl dX10_isStep_4 ?_
  refine lv_if_eq (tgt := 31) hx hb dX10_isStep_7 (by decide) (fun _ => ?_) (fun hc => absurd (by decide +kernel) hc)
  refine lv_iconst (v := 0) hx hb dX10_isStep_31 (by decide) ?_
  exact r_zret () C0 hr (by decide +kernel) hlocks hS (Nat.le_of_ble_eq_true rfl) (Nat.le_of_ble_eq_true rfl) dX10_isStep_32 rfl hP hD
set_option maxHeartbeats 4000000 in
set_option maxRecDepth 100000 in
theorem c_X10_step_1350 (l : Launch) (D : va_G) (T : Nat → ClassId) (sz : Nat) (z1 : Nat) (z2 : Int32) (z3 : Nat) (z4 : Nat) (z5 : Nat) (z6 : Nat) (z7 : Nat) (z8 : Nat) (z9 : Nat) (z10 : Nat) (z11 : Nat) (z12 : Nat) (z13 : Nat) (z14 : Nat) (z15 : Nat) (z16 : Nat) (z17 : Nat) : Met l yX10_step (.code yX10_step cX10_step 2 (some .int) :: TB) { frames := 1, cells := 0, slots := 0, locals := 21 } (PC D T [.ref z1, .int z2] [(z1, .inr (10, [.ref z3, .ref z4, .ref z5, .ref z6, .ref z7, .ref z8, .ref z9, .ref z10, .ref z11, .ref z12, .ref z13, .int 1, .int (-1), .int 0, .int (-1)])), (z9, .inr (6, [.ref z14, .ref z15, .ref z16, .ref z17, .int 0, .long 0, .int 0]))] sz) (Qi (S := Unit) (fun (r : Int32) (_ : Unit) => r = (-1)) (fun (_ : Unit) => [(z1, .inr (10, [.ref z3, .ref z4, .ref z5, .ref z6, .ref z7, .ref z8, .ref z9, .ref z10, .ref z11, .ref z12, .ref z13, .int 1, .int (-1), .int 0, .int (-1)])), (z9, .inr (6, [.ref z14, .ref z15, .ref z16, .ref z17, .int 0, .long 0, .int 0]))]) D (va_A [(z1, .inr (10, [.ref z3, .ref z4, .ref z5, .ref z6, .ref z7, .ref z8, .ref z9, .ref z10, .ref z11, .ref z12, .ref z13, .int 1, .int (-1), .int 0, .int (-1)])), (z9, .inr (6, [.ref z14, .ref z15, .ref z16, .ref z17, .int 0, .long 0, .int 0]))] sz)) 0 0 (va_A [(z1, .inr (10, [.ref z3, .ref z4, .ref z5, .ref z6, .ref z7, .ref z8, .ref z9, .ref z10, .ref z11, .ref z12, .ref z13, .int 1, .int (-1), .int 0, .int (-1)])), (z9, .inr (6, [.ref z14, .ref z15, .ref z16, .ref z17, .int 0, .long 0, .int 0]))] sz) := by
  refine ct_begin (Qc := Qi (S := Unit) (fun (r : Int32) (_ : Unit) => r = (-1)) (fun (_ : Unit) => [(z1, .inr (10, [.ref z3, .ref z4, .ref z5, .ref z6, .ref z7, .ref z8, .ref z9, .ref z10, .ref z11, .ref z12, .ref z13, .int 1, .int (-1), .int 0, .int (-1)])), (z9, .inr (6, [.ref z14, .ref z15, .ref z16, .ref z17, .int 0, .long 0, .int 0]))]) D) (by decide +kernel) (Nat.le_of_ble_eq_true rfl) ?_
  intro p e s m below meth c A ls C0 hr hlocks hnm hE hA hP hD hS hl
  have hx := C0.1
  have hb := C0.2.1
  have hml := C0.2.2.1
  have hown := C0.2.2.2.1
  have hT := C0.2.2.2.2
  have hK := hE.1
  have hl : lv_has ls 2 [(0, .ref z1), (1, .int z2)] := hl
  refine lv_aload_n hx hb dX10_step_0 rfl (lv_at hl 0 rfl) ?_
  refine lv_iload_n hx hb dX10_step_1 rfl (lv_at hl 1 rfl) ?_
  refine r_calli (wr := []) (r_runV (As := [.int z2]) (rest := []) (wc := [(z1, .inr (10, [.ref z3, .ref z4, .ref z5, .ref z6, .ref z7, .ref z8, .ref z9, .ref z10, .ref z11, .ref z12, .ref z13, .int 1, .int (-1), .int 0, .int (-1)])), (z9, .inr (6, [.ref z14, .ref z15, .ref z16, .ref z17, .int 0, .long 0, .int 0]))]) (ci := 10) C0 hE (c_X10_isStep_1347 l D T s.heap.size z1 z2 z3 z4 z5 z6 z7 z8 z9 z10 z11 z12 z13 z14 z15 z16 z17) mw_589 mw_590 mw_591 mw_7 mw_592 dn_588 rfl rfl ⟨Nat.le_of_ble_eq_true rfl, Nat.le_of_ble_eq_true rfl⟩ (hP.sub (ws' := [(z1, .inr (10, [.ref z3, .ref z4, .ref z5, .ref z6, .ref z7, .ref z8, .ref z9, .ref z10, .ref z11, .ref z12, .ref z13, .int 1, .int (-1), .int 0, .int (-1)])), (z9, .inr (6, [.ref z14, .ref z15, .ref z16, .ref z17, .int 0, .long 0, .int 0]))]) [0, 1] rfl) (hD.sub (ws' := [(z1, .inr (10, [.ref z3, .ref z4, .ref z5, .ref z6, .ref z7, .ref z8, .ref z9, .ref z10, .ref z11, .ref z12, .ref z13, .int 1, .int (-1), .int 0, .int (-1)])), (z9, .inr (6, [.ref z14, .ref z15, .ref z16, .ref z17, .int 0, .long 0, .int 0]))]) [0, 1] (by decide +kernel) rfl) rfl rfl rfl hl.1 rfl (Nat.le_of_ble_eq_true rfl) dX10_step_2 ⟨Nat.le_of_ble_eq_true rfl, Nat.le_of_ble_eq_true rfl⟩) hP hD hS hA [0, 1] [] rfl rfl (by decide +kernel) (by decide +kernel) (fun r1349 u H locs hq hP hD hS => ?_)
  have hq : r1349 = 0 := hq
  subst hq
  have hP : va_P D vwCl [(z1, .inr (10, [.ref z3, .ref z4, .ref z5, .ref z6, .ref z7, .ref z8, .ref z9, .ref z10, .ref z11, .ref z12, .ref z13, .int 1, .int (-1), .int 0, .int (-1)])), (z9, .inr (6, [.ref z14, .ref z15, .ref z16, .ref z17, .int 0, .long 0, .int 0]))] H := hP
  have hD : va_D A [(z1, .inr (10, [.ref z3, .ref z4, .ref z5, .ref z6, .ref z7, .ref z8, .ref z9, .ref z10, .ref z11, .ref z12, .ref z13, .int 1, .int (-1), .int 0, .int (-1)])), (z9, .inr (6, [.ref z14, .ref z15, .ref z16, .ref z17, .int 0, .long 0, .int 0]))] := hD
  refine W.widen (k := 0) (n := 0) (Nat.le_of_ble_eq_true rfl) (Nat.le_of_ble_eq_true rfl) ?_
  refine lv_if_eq (tgt := 20) hx hb dX10_step_5 (by decide) (fun _ => ?_) (fun hc => absurd (by decide +kernel) hc)
  refine lv_iconst (v := (-1)) hx hb dX10_step_20 (by decide) ?_
  exact r_iret () C0 hr hlocks hS (Nat.le_of_ble_eq_true rfl) (Nat.le_of_ble_eq_true rfl) dX10_step_21 rfl hP hD
