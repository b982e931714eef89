set_option maxHeartbeats 4000000 in
set_option maxRecDepth 100000 in
theorem c_X10_toldAct_1182 (l : Launch) (D : va_G) (T : Nat → ClassId) (sz : Nat) (z1 : Nat) (z2 : Nat) (z3 : Nat) (z4 : Nat) (z5 : Nat) (z6 : Nat) (z7 : Nat) (z8 : Nat) (z9 : Nat) (z10 : Nat) (z11 : Nat) (z12 : Nat) (z13 : Nat) (z14 : Nat) (z15 : Nat) (z16 : Nat) (z17 : Nat) (z18 : Nat) : Met l yX10_toldAct (.code yX10_toldAct cX10_toldAct 1 (some .int) :: TB) { frames := 0, cells := 0, slots := 0, locals := 0 } (PC D T [.ref z1] [(z1, .inr (10, [.ref z2, .ref z3, .ref z4, .ref z5, .ref z6, .ref z7, .ref z8, .ref z9, .ref z10, .ref z11, .ref z12, .int 1, .int (-1), .int 0, .int (-1)])), (z4, .inr (0, [.ref z13, .ref z14, .ref z15, .ref z16, .ref z17, .ref z18, .int 0]))] sz) (Qi (S := Unit) (fun (r : Int32) (_ : Unit) => r = 0) (fun (_ : Unit) => [(z1, .inr (10, [.ref z2, .ref z3, .ref z4, .ref z5, .ref z6, .ref z7, .ref z8, .ref z9, .ref z10, .ref z11, .ref z12, .int 1, .int (-1), .int 0, .int (-1)])), (z4, .inr (0, [.ref z13, .ref z14, .ref z15, .ref z16, .ref z17, .ref z18, .int 0]))]) D (va_A [(z1, .inr (10, [.ref z2, .ref z3, .ref z4, .ref z5, .ref z6, .ref z7, .ref z8, .ref z9, .ref z10, .ref z11, .ref z12, .int 1, .int (-1), .int 0, .int (-1)])), (z4, .inr (0, [.ref z13, .ref z14, .ref z15, .ref z16, .ref z17, .ref z18, .int 0]))] sz)) 0 0 (va_A [(z1, .inr (10, [.ref z2, .ref z3, .ref z4, .ref z5, .ref z6, .ref z7, .ref z8, .ref z9, .ref z10, .ref z11, .ref z12, .int 1, .int (-1), .int 0, .int (-1)])), (z4, .inr (0, [.ref z13, .ref z14, .ref z15, .ref z16, .ref z17, .ref z18, .int 0]))] sz) := by
  refine ct_begin (Qc := Qi (S := Unit) (fun (r : Int32) (_ : Unit) => r = 0) (fun (_ : Unit) => [(z1, .inr (10, [.ref z2, .ref z3, .ref z4, .ref z5, .ref z6, .ref z7, .ref z8, .ref z9, .ref z10, .ref z11, .ref z12, .int 1, .int (-1), .int 0, .int (-1)])), (z4, .inr (0, [.ref z13, .ref z14, .ref z15, .ref z16, .ref z17, .ref z18, .int 0]))]) D) (by decide +kernel) (Nat.le_of_ble_eq_true rfl) ?_
  intro p e s m below meth c A ls C0 hr hlocks hnm hE hA hP hD hS hl
  have hx := C0.1
  have hb := C0.2.1
  have hml := C0.2.2.1
  have hown := C0.2.2.2.1
  have hT := C0.2.2.2.2
  have hK := hE.1
  have hl : lv_has ls 1 [(0, .ref z1)] := hl
  refine lv_aload_n hx hb dX10_toldAct_0 rfl (lv_at hl 0 rfl) ?_
  refine r_get (v := .int (-1)) C0 hE ffX10_12 mw_281 hP 0 rfl rfl dX10_toldAct_1 ?_
  refine lv_iconst (v := (-1)) hx hb dX10_toldAct_4 (by decide) ?_
  refine lv_icmp_ne (tgt := 18) hx hb dX10_toldAct_5 (by decide) (fun hc => absurd (by decide +kernel) hc) (fun _ => ?_)
  refine lv_aload_n hx hb dX10_toldAct_8 rfl (lv_at hl 0 rfl) ?_
  refine r_get (v := .ref z4) C0 hE ffX10_2 mw_59 hP 0 rfl rfl dX10_toldAct_9 ?_
  refine r_get (v := .int 0) C0 hE ffX0_6 mw_515 hP 1 rfl rfl dX10_toldAct_12 ?_
  refine lv_goto (tgt := 22) hx hb dX10_toldAct_15 (by decide) ?_
  exact r_iret () C0 hr hlocks hS (Nat.le_of_ble_eq_true rfl) (Nat.le_of_ble_eq_true rfl) dX10_toldAct_22 rfl hP hD
set_option maxHeartbeats 4000000 in
set_option maxRecDepth 100000 in
theorem c_X0_goesOn_1184 (l : Launch) (D : va_G) (T : Nat → ClassId) (sz : Nat) (z1 : Nat) (z2 : Nat) (z3 : Nat) (z4 : Nat) (z5 : Nat) (z6 : Nat) (z7 : Nat) : Met l yX0_goesOn (.code yX0_goesOn cX0_goesOn 4 (some .boolean) :: TB) { frames := 0, cells := 0, slots := 0, locals := 0 } (PC D T [.ref z1, .int 0, .int 0] [(z1, .inr (0, [.ref z2, .ref z3, .ref z4, .ref z5, .ref z6, .ref z7, .int 0]))] sz) (Qi (S := Unit) (fun (r : Int32) (_ : Unit) => r = 1) (fun (_ : Unit) => [(z1, .inr (0, [.ref z2, .ref z3, .ref z4, .ref z5, .ref z6, .ref z7, .int 0]))]) D (va_A [(z1, .inr (0, [.ref z2, .ref z3, .ref z4, .ref z5, .ref z6, .ref z7, .int 0]))] sz)) 0 0 (va_A [(z1, .inr (0, [.ref z2, .ref z3, .ref z4, .ref z5, .ref z6, .ref z7, .int 0]))] sz) := by
  refine ct_begin (Qc := Qi (S := Unit) (fun (r : Int32) (_ : Unit) => r = 1) (fun (_ : Unit) => [(z1, .inr (0, [.ref z2, .ref z3, .ref z4, .ref z5, .ref z6, .ref z7, .int 0]))]) D) (by decide +kernel) (Nat.le_of_ble_eq_true rfl) ?_
  intro p e s m below meth c A ls C0 hr hlocks hnm hE hA hP hD hS hl
  have hx := C0.1
  have hb := C0.2.1
  have hml := C0.2.2.1
  have hown := C0.2.2.2.1
  have hT := C0.2.2.2.2
  have hK := hE.1
  have hl : lv_has ls 4 [(0, .ref z1), (1, .int 0), (2, .int 0)] := hl
  refine lv_iload_n hx hb dX0_goesOn_0 rfl (lv_at hl 1 rfl) ?_
  refine lv_iload_n hx hb dX0_goesOn_1 rfl (lv_at hl 2 rfl) ?_
  refine lv_icmp_le (tgt := 7) hx hb dX0_goesOn_2 (by decide) (fun _ => ?_) (fun hc => absurd (by decide +kernel) hc)
  refine lv_iload_n hx hb dX0_goesOn_7 rfl (lv_at hl 1 rfl) ?_
  refine lv_iconst (v := 1) hx hb dX0_goesOn_8 (by decide) ?_
  refine lv_iadd hx hb dX0_goesOn_9 ?_
  refine r_ci (v := 1) (by decide +kernel) ?_
  refine lv_istore_n (lv' := [(3, .int 1), (0, .ref z1), (1, .int 0), (2, .int 0)]) hx hb dX0_goesOn_10 rfl hl (by decide) rfl (fun ls hl => ?_)
  refine lv_iload_n hx hb dX0_goesOn_11 rfl (lv_at hl 0 rfl) ?_
  refine lv_iload_n hx hb dX0_goesOn_12 rfl (lv_at hl 3 rfl) ?_
  refine lv_icmp_gt (tgt := 52) hx hb dX0_goesOn_13 (by decide) (fun _ => ?_) (fun hc => absurd (by decide +kernel) hc)
  refine lv_iconst (v := 1) hx hb dX0_goesOn_52 (by decide) ?_
  exact r_zret () C0 hr (by decide +kernel) hlocks hS (Nat.le_of_ble_eq_true rfl) (Nat.le_of_ble_eq_true rfl) dX0_goesOn_53 rfl hP hD
set_option maxHeartbeats 4000000 in
set_option maxRecDepth 100000 in
theorem c_X10_broughtUp_1188 (l : Launch) (D : va_G) (T : Nat → ClassId) (sz : Nat) (z1 : Nat) (z2 : Nat) (z3 : Nat) (z4 : Nat) (z5 : Nat) (z6 : Nat) (z7 : Nat) (z8 : Nat) (z9 : Nat) (z10 : Nat) (z11 : Nat) (z12 : Nat) (z13 : Nat) (z14 : Nat) (z15 : Nat) (z16 : Nat) (z17 : Nat) (z18 : Nat) (z19 : Nat) (z20 : Nat) (z21 : Nat) (z22 : Nat) (z23 : Nat) (z24 : Nat) (z25 : Nat) (z26 : Nat) : Met l yX10_broughtUp (.code yX10_broughtUp cX10_broughtUp 6 (some (.object "HookBoard$Known")) :: TB) { frames := 1, cells := 0, slots := 0, locals := 23 } (PC D T [.ref z1] [(z1, .inr (10, [.ref z2, .ref z3, .ref z4, .ref z5, .ref z6, .ref z7, .ref z8, .ref z9, .ref z10, .ref z11, .ref z12, .int 1, .int (-1), .int 0, .int (-1)])), (z4, .inr (0, [.ref z13, .ref z14, .ref z15, .ref z16, .ref z17, .ref z18, .int 0])), (z5, .inr (2, [.ref z19, .ref z20, .ref z21, .ref z22, .ref z23, .ref z24, .ref z25, .ref z26, .int 0, .int 1, .int 1, .int 0]))] sz) (Qr (S := Unit) (fun (_ : Unit) => z5) (fun (_ : Unit) => [(z5, .inr (2, [.ref z19, .ref z20, .ref z21, .ref z22, .ref z23, .ref z24, .ref z25, .ref z26, .int 0, .int 1, .int 1, .int 0])), (z1, .inr (10, [.ref z2, .ref z3, .ref z4, .ref z5, .ref z6, .ref z7, .ref z8, .ref z9, .ref z10, .ref z11, .ref z12, .int 1, .int (-1), .int 0, .int (-1)])), (z4, .inr (0, [.ref z13, .ref z14, .ref z15, .ref z16, .ref z17, .ref z18, .int 0]))]) D (va_A [(z1, .inr (10, [.ref z2, .ref z3, .ref z4, .ref z5, .ref z6, .ref z7, .ref z8, .ref z9, .ref z10, .ref z11, .ref z12, .int 1, .int (-1), .int 0, .int (-1)])), (z4, .inr (0, [.ref z13, .ref z14, .ref z15, .ref z16, .ref z17, .ref z18, .int 0])), (z5, .inr (2, [.ref z19, .ref z20, .ref z21, .ref z22, .ref z23, .ref z24, .ref z25, .ref z26, .int 0, .int 1, .int 1, .int 0]))] sz)) 0 0 (va_A [(z1, .inr (10, [.ref z2, .ref z3, .ref z4, .ref z5, .ref z6, .ref z7, .ref z8, .ref z9, .ref z10, .ref z11, .ref z12, .int 1, .int (-1), .int 0, .int (-1)])), (z4, .inr (0, [.ref z13, .ref z14, .ref z15, .ref z16, .ref z17, .ref z18, .int 0])), (z5, .inr (2, [.ref z19, .ref z20, .ref z21, .ref z22, .ref z23, .ref z24, .ref z25, .ref z26, .int 0, .int 1, .int 1, .int 0]))] sz) := by
  refine ct_begin (Qc := Qr (S := Unit) (fun (_ : Unit) => z5) (fun (_ : Unit) => [(z5, .inr (2, [.ref z19, .ref z20, .ref z21, .ref z22, .ref z23, .ref z24, .ref z25, .ref z26, .int 0, .int 1, .int 1, .int 0])), (z1, .inr (10, [.ref z2, .ref z3, .ref z4, .ref z5, .ref z6, .ref z7, .ref z8, .ref z9, .ref z10, .ref z11, .ref z12, .int 1, .int (-1), .int 0, .int (-1)])), (z4, .inr (0, [.ref z13, .ref z14, .ref z15, .ref z16, .ref z17, .ref z18, .int 0]))]) D) (by decide +kernel) (Nat.le_of_ble_eq_true rfl) ?_
  intro p e s m below meth c A ls C0 hr hlocks hnm hE hA hP hD hS hl
  have hx := C0.1
  have hb := C0.2.1
  have hml := C0.2.2.1
  have hown := C0.2.2.2.1
  have hT := C0.2.2.2.2
  have hK := hE.1
  have hl : lv_has ls 6 [(0, .ref z1)] := hl
  refine lv_aload_n hx hb dX10_broughtUp_0 rfl (lv_at hl 0 rfl) ?_
  refine r_calli (wr := [(z5, .inr (2, [.ref z19, .ref z20, .ref z21, .ref z22, .ref z23, .ref z24, .ref z25, .ref z26, .int 0, .int 1, .int 1, .int 0]))]) (r_runV (As := []) (rest := []) (wc := [(z1, .inr (10, [.ref z2, .ref z3, .ref z4, .ref z5, .ref z6, .ref z7, .ref z8, .ref z9, .ref z10, .ref z11, .ref z12, .int 1, .int (-1), .int 0, .int (-1)])), (z4, .inr (0, [.ref z13, .ref z14, .ref z15, .ref z16, .ref z17, .ref z18, .int 0]))]) (ci := 10) C0 hE (c_X10_toldAct_1182 l D T s.heap.size z1 z2 z3 z4 z5 z6 z7 z8 z9 z10 z11 z12 z13 z14 z15 z16 z17 z18) mw_547 mw_548 mw_549 mw_7 mw_550 dn_546 rfl rfl ⟨Nat.le_of_ble_eq_true rfl, Nat.le_of_ble_eq_true rfl⟩ (hP.sub (ws' := [(z1, .inr (10, [.ref z2, .ref z3, .ref z4, .ref z5, .ref z6, .ref z7, .ref z8, .ref z9, .ref z10, .ref z11, .ref z12, .int 1, .int (-1), .int 0, .int (-1)])), (z4, .inr (0, [.ref z13, .ref z14, .ref z15, .ref z16, .ref z17, .ref z18, .int 0]))]) [0, 1] rfl) (hD.sub (ws' := [(z1, .inr (10, [.ref z2, .ref z3, .ref z4, .ref z5, .ref z6, .ref z7, .ref z8, .ref z9, .ref z10, .ref z11, .ref z12, .int 1, .int (-1), .int 0, .int (-1)])), (z4, .inr (0, [.ref z13, .ref z14, .ref z15, .ref z16, .ref z17, .ref z18, .int 0]))]) [0, 1] (by decide +kernel) rfl) rfl rfl rfl hl.1 rfl (Nat.le_of_ble_eq_true rfl) dX10_broughtUp_1 ⟨Nat.le_of_ble_eq_true rfl, Nat.le_of_ble_eq_true rfl⟩) hP hD hS hA [0, 1] [2] rfl rfl (by decide +kernel) (by decide +kernel) (fun r1186 u H locs hq hP hD hS => ?_)
  have hq : r1186 = 0 := hq
  subst hq
  have hP : va_P D vwCl [(z5, .inr (2, [.ref z19, .ref z20, .ref z21, .ref z22, .ref z23, .ref z24, .ref z25, .ref z26, .int 0, .int 1, .int 1, .int 0])), (z1, .inr (10, [.ref z2, .ref z3, .ref z4, .ref z5, .ref z6, .ref z7, .ref z8, .ref z9, .ref z10, .ref z11, .ref z12, .int 1, .int (-1), .int 0, .int (-1)])), (z4, .inr (0, [.ref z13, .ref z14, .ref z15, .ref z16, .ref z17, .ref z18, .int 0]))] H := hP
  have hD : va_D A [(z5, .inr (2, [.ref z19, .ref z20, .ref z21, .ref z22, .ref z23, .ref z24, .ref z25, .ref z26, .int 0, .int 1, .int 1, .int 0])), (z1, .inr (10, [.ref z2, .ref z3, .ref z4, .ref z5, .ref z6, .ref z7, .ref z8, .ref z9, .ref z10, .ref z11, .ref z12, .int 1, .int (-1), .int 0, .int (-1)])), (z4, .inr (0, [.ref z13, .ref z14, .ref z15, .ref z16, .ref z17, .ref z18, .int 0]))] := hD
  refine W.widen (k := 0) (n := 0) (Nat.le_of_ble_eq_true rfl) (Nat.le_of_ble_eq_true rfl) ?_
  refine lv_istore_n (lv' := [(1, .int 0), (0, .ref z1)]) hx hb dX10_broughtUp_4 rfl hl (by decide) rfl (fun ls hl => ?_)
  refine lv_aload_n hx hb dX10_broughtUp_5 rfl (lv_at hl 1 rfl) ?_
  refine r_get (v := .ref z4) C0 hE ffX10_2 mw_59 hP 1 rfl rfl dX10_broughtUp_6 ?_
  refine lv_aload_n hx hb dX10_broughtUp_9 rfl (lv_at hl 1 rfl) ?_
  refine r_get (v := .ref z5) C0 hE ffX10_3 mw_141 hP 1 rfl rfl dX10_broughtUp_10 ?_
  refine r_get (v := .int 0) C0 hE ffX2_11 mw_551 hP 0 rfl rfl dX10_broughtUp_13 ?_
  refine lv_iload_n hx hb dX10_broughtUp_16 rfl (lv_at hl 0 rfl) ?_
  refine r_calli (wr := [(z5, .inr (2, [.ref z19, .ref z20, .ref z21, .ref z22, .ref z23, .ref z24, .ref z25, .ref z26, .int 0, .int 1, .int 1, .int 0])), (z1, .inr (10, [.ref z2, .ref z3, .ref z4, .ref z5, .ref z6, .ref z7, .ref z8, .ref z9, .ref z10, .ref z11, .ref z12, .int 1, .int (-1), .int 0, .int (-1)]))]) (r_runV (As := [.int 0, .int 0]) (rest := []) (wc := [(z4, .inr (0, [.ref z13, .ref z14, .ref z15, .ref z16, .ref z17, .ref z18, .int 0]))]) (ci := 0) C0 hE (c_X0_goesOn_1184 l D T H.size z4 z13 z14 z15 z16 z17 z18) mw_553 mw_554 mw_555 mw_38 mw_556 dn_552 rfl rfl ⟨Nat.le_of_ble_eq_true rfl, Nat.le_of_ble_eq_true rfl⟩ (hP.sub (ws' := [(z4, .inr (0, [.ref z13, .ref z14, .ref z15, .ref z16, .ref z17, .ref z18, .int 0]))]) [2] rfl) (hD.sub (ws' := [(z4, .inr (0, [.ref z13, .ref z14, .ref z15, .ref z16, .ref z17, .ref z18, .int 0]))]) [2] (by decide +kernel) rfl) rfl rfl rfl hl.1 rfl (Nat.le_of_ble_eq_true rfl) dX10_broughtUp_17 ⟨Nat.le_of_ble_eq_true rfl, Nat.le_of_ble_eq_true rfl⟩) hP hD hS hA [2] [0, 1] rfl rfl (by decide +kernel) (by decide +kernel) (fun r1187 u H locs hq hP hD hS => ?_)
  have hq : r1187 = 1 := hq
  subst hq
  have hP : va_P D vwCl [(z5, .inr (2, [.ref z19, .ref z20, .ref z21, .ref z22, .ref z23, .ref z24, .ref z25, .ref z26, .int 0, .int 1, .int 1, .int 0])), (z1, .inr (10, [.ref z2, .ref z3, .ref z4, .ref z5, .ref z6, .ref z7, .ref z8, .ref z9, .ref z10, .ref z11, .ref z12, .int 1, .int (-1), .int 0, .int (-1)])), (z4, .inr (0, [.ref z13, .ref z14, .ref z15, .ref z16, .ref z17, .ref z18, .int 0]))] H := hP
  have hD : va_D A [(z5, .inr (2, [.ref z19, .ref z20, .ref z21, .ref z22, .ref z23, .ref z24, .ref z25, .ref z26, .int 0, .int 1, .int 1, .int 0])), (z1, .inr (10, [.ref z2, .ref z3, .ref z4, .ref z5, .ref z6, .ref z7, .ref z8, .ref z9, .ref z10, .ref z11, .ref z12, .int 1, .int (-1), .int 0, .int (-1)])), (z4, .inr (0, [.ref z13, .ref z14, .ref z15, .ref z16, .ref z17, .ref z18, .int 0]))] := hD
  refine W.widen (k := 0) (n := 0) (Nat.le_of_ble_eq_true rfl) (Nat.le_of_ble_eq_true rfl) ?_
  refine lv_if_ne (tgt := 30) hx hb dX10_broughtUp_20 (by decide) (fun _ => ?_) (fun hc => absurd hc (by decide +kernel))
  refine lv_aload_n hx hb dX10_broughtUp_30 rfl (lv_at hl 1 rfl) ?_
  refine r_get (v := .ref z5) C0 hE ffX10_3 mw_141 hP 1 rfl rfl dX10_broughtUp_31 ?_
  refine r_get (v := .int 0) C0 hE ffX2_11 mw_551 hP 0 rfl rfl dX10_broughtUp_34 ?_
  refine lv_iconst (v := 1) hx hb dX10_broughtUp_37 (by decide) ?_
  refine lv_iadd hx hb dX10_broughtUp_38 ?_
  refine r_ci (v := 1) (by decide +kernel) ?_
  refine lv_istore_n (lv' := [(2, .int 1), (1, .int 0), (0, .ref z1)]) hx hb dX10_broughtUp_39 rfl hl (by decide) rfl (fun ls hl => ?_)
  refine lv_iload_n hx hb dX10_broughtUp_40 rfl (lv_at hl 0 rfl) ?_
  refine lv_iload_n hx hb dX10_broughtUp_41 rfl (lv_at hl 1 rfl) ?_
  refine lv_icmp_gt (tgt := 150) hx hb dX10_broughtUp_42 (by decide) (fun _ => ?_) (fun hc => absurd (by decide +kernel) hc)
  refine lv_aload_n hx hb dX10_broughtUp_150 rfl (lv_at hl 2 rfl) ?_
  refine r_get (v := .ref z5) C0 hE ffX10_3 mw_141 hP 1 rfl rfl dX10_broughtUp_151 ?_
  refine lv_iload_n hx hb dX10_broughtUp_154 rfl (lv_at hl 1 rfl) ?_
  refine r_put (v := .int 0) (ty := .int) (fs1 := [.ref z19, .ref z20, .ref z21, .ref z22, .ref z23, .ref z24, .ref z25, .ref z26, .int 0, .int 1, .int 1, .int 0]) (ws1 := [(z5, .inr (2, [.ref z19, .ref z20, .ref z21, .ref z22, .ref z23, .ref z24, .ref z25, .ref z26, .int 0, .int 1, .int 1, .int 0])), (z1, .inr (10, [.ref z2, .ref z3, .ref z4, .ref z5, .ref z6, .ref z7, .ref z8, .ref z9, .ref z10, .ref z11, .ref z12, .int 1, .int (-1), .int 0, .int (-1)])), (z4, .inr (0, [.ref z13, .ref z14, .ref z15, .ref z16, .ref z17, .ref z18, .int 0]))]) C0 hE ffX2_11 tyX2 tyX2_ok nmX2 mw_551 pf_29 hP hD hS 0 rfl rfl rfl (Nat.le_of_ble_eq_true rfl) rfl rfl dX10_broughtUp_155 (fun H locs hP hD hS => ?_)
  refine lv_aload_n hx hb dX10_broughtUp_158 rfl (lv_at hl 2 rfl) ?_
  refine r_get (v := .ref z5) C0 hE ffX10_3 mw_141 hP 1 rfl rfl dX10_broughtUp_159 ?_
  exact r_aret () C0 hr hlocks hS (Nat.le_of_ble_eq_true rfl) (Nat.le_of_ble_eq_true rfl) dX10_broughtUp_162 rfl hP hD
set_option maxHeartbeats 4000000 in
set_option maxRecDepth 100000 in
theorem c_X2_hasHook_1189 (l : Launch) (D : va_G) (T : Nat → ClassId) (sz : Nat) (z1 : Nat) (z2 : Nat) (z3 : Nat) (z4 : Nat) (z5 : Nat) (z6 : Nat) (z7 : Nat) (z8 : Nat) (z9 : Nat) : Met l yX2_hasHook (.code yX2_hasHook cX2_hasHook 2 (some .boolean) :: TB) { frames := 0, cells := 0, slots := 0, locals := 0 } (PC D T [.ref z1, .int 0] [(z1, .inr (2, [.ref z2, .ref z3, .ref z4, .ref z5, .ref z6, .ref z7, .ref z8, .ref z9, .int 0, .int 1, .int 1, .int 0])), (z2, .inl (T 0, 64, .inl (fl (-1) 64 (fun _ => 0))))] sz) (Qi (S := Unit) (fun (r : Int32) (_ : Unit) => r = 0) (fun (_ : Unit) => [(z1, .inr (2, [.ref z2, .ref z3, .ref z4, .ref z5, .ref z6, .ref z7, .ref z8, .ref z9, .int 0, .int 1, .int 1, .int 0])), (z2, .inl (T 0, 64, .inl (fl (-1) 64 (fun _ => 0))))]) D (va_A [(z1, .inr (2, [.ref z2, .ref z3, .ref z4, .ref z5, .ref z6, .ref z7, .ref z8, .ref z9, .int 0, .int 1, .int 1, .int 0])), (z2, .inl (T 0, 64, .inl (fl (-1) 64 (fun _ => 0))))] sz)) 0 0 (va_A [(z1, .inr (2, [.ref z2, .ref z3, .ref z4, .ref z5, .ref z6, .ref z7, .ref z8, .ref z9, .int 0, .int 1, .int 1, .int 0])), (z2, .inl (T 0, 64, .inl (fl (-1) 64 (fun _ => 0))))] sz) := by
  refine ct_begin (Qc := Qi (S := Unit) (fun (r : Int32) (_ : Unit) => r = 0) (fun (_ : Unit) => [(z1, .inr (2, [.ref z2, .ref z3, .ref z4, .ref z5, .ref z6, .ref z7, .ref z8, .ref z9, .int 0, .int 1, .int 1, .int 0])), (z2, .inl (T 0, 64, .inl (fl (-1) 64 (fun _ => 0))))]) D) (by decide +kernel) (Nat.le_of_ble_eq_true rfl) ?_
  intro p e s m below meth c A ls C0 hr hlocks hnm hE hA hP hD hS hl
  have hx := C0.1
  have hb := C0.2.1
  have hml := C0.2.2.1
  have hown := C0.2.2.2.1
  have hT := C0.2.2.2.2
  have hK := hE.1
  have hl : lv_has ls 2 [(0, .ref z1), (1, .int 0)] := hl
  refine lv_aload_n hx hb dX2_hasHook_0 rfl (lv_at hl 0 rfl) ?_
  refine r_get (v := .ref z2) C0 hE ffX2_0 mw_66 hP 0 rfl rfl dX2_hasHook_1 ?_
  refine lv_iload_n hx hb dX2_hasHook_4 rfl (lv_at hl 1 rfl) ?_
  refine va_iald hx hb hK hP 1 0 rfl rfl (vp_lit (by decide +kernel)) dX2_hasHook_5 ?_
  refine r_ci (v := (-1)) (by first | rfl | decide +kernel) ?_
  refine lv_iconst (v := (-1)) hx hb dX2_hasHook_6 (by decide) ?_
  refine lv_icmp_eq (tgt := 14) hx hb dX2_hasHook_7 (by decide) (fun _ => ?_) (fun hc => absurd (by decide +kernel) hc)
  refine lv_iconst (v := 0) hx hb dX2_hasHook_14 (by decide) ?_
  exact r_zret () C0 hr (by decide +kernel) hlocks hS (Nat.le_of_ble_eq_true rfl) (Nat.le_of_ble_eq_true rfl) dX2_hasHook_15 rfl hP hD
set_option maxHeartbeats 4000000 in
set_option maxRecDepth 100000 in
theorem c_X10_cell_1211 (l : Launch) (D : va_G) (T : Nat → ClassId) (sz : Nat) (z1 : Nat) (z2 : Int32) (z3 : Int32) (z4 : Nat) (z5 : Nat) (z6 : Nat) (z7 : Nat) (z8 : Nat) (z9 : Nat) (z10 : Nat) (z11 : Nat) (z12 : Nat) (z13 : Nat) (z14 : Nat) (z15 : Nat) (z16 : Nat) (z17 : Nat) (z18 : Nat) (z19 : Nat) (z20 : Nat) (z21 : Nat) (z22 : Nat) (z23 : Nat) (z24 : Nat) (z25 : Nat) (z26 : Nat) (z27 : Nat) (z28 : Nat) : Met l yX10_cell (.code yX10_cell cX10_cell 5 (some .int) :: TB) { frames := 2, cells := 0, slots := 0, locals := 48 } (PC D T [.ref z1, .int z2, .int z3] [(z1, .inr (10, [.ref z4, .ref z5, .ref z6, .ref z7, .ref z8, .ref z9, .ref z10, .ref z11, .ref z12, .ref z13, .ref z14, .int 1, .int (-1), .int 0, .int (-1)])), (z6, .inr (0, [.ref z15, .ref z16, .ref z17, .ref z18, .ref z19, .ref z20, .int 0])), (z7, .inr (2, [.ref z21, .ref z22, .ref z23, .ref z24, .ref z25, .ref z26, .ref z27, .ref z28, .int 0, .int 1, .int 1, .int 0])), (z21, .inl (T 0, 64, .inl (fl (-1) 64 (fun _ => 0)))), (z24, .inl (T 0, 64, .inl (fl 0 64 (fun _ => 0)))), (z25, .inl (T 0, 64, .inl (fl 0 64 (fun _ => 0))))] sz) (Qi (S := Unit) (fun (r : Int32) (_ : Unit) => r = (if (wi z2 0 0) = true then (if z3 = 4 then 0 else if z3 = 5 then 0 else (-1)) else (-1))) (fun (_ : Unit) => []) D (va_A [(z1, .inr (10, [.ref z4, .ref z5, .ref z6, .ref z7, .ref z8, .ref z9, .ref z10, .ref z11, .ref z12, .ref z13, .ref z14, .int 1, .int (-1), .int 0, .int (-1)])), (z6, .inr (0, [.ref z15, .ref z16, .ref z17, .ref z18, .ref z19, .ref z20, .int 0])), (z7, .inr (2, [.ref z21, .ref z22, .ref z23, .ref z24, .ref z25, .ref z26, .ref z27, .ref z28, .int 0, .int 1, .int 1, .int 0])), (z21, .inl (T 0, 64, .inl (fl (-1) 64 (fun _ => 0)))), (z24, .inl (T 0, 64, .inl (fl 0 64 (fun _ => 0)))), (z25, .inl (T 0, 64, .inl (fl 0 64 (fun _ => 0))))] sz)) 0 0 (va_A [(z1, .inr (10, [.ref z4, .ref z5, .ref z6, .ref z7, .ref z8, .ref z9, .ref z10, .ref z11, .ref z12, .ref z13, .ref z14, .int 1, .int (-1), .int 0, .int (-1)])), (z6, .inr (0, [.ref z15, .ref z16, .ref z17, .ref z18, .ref z19, .ref z20, .int 0])), (z7, .inr (2, [.ref z21, .ref z22, .ref z23, .ref z24, .ref z25, .ref z26, .ref z27, .ref z28, .int 0, .int 1, .int 1, .int 0])), (z21, .inl (T 0, 64, .inl (fl (-1) 64 (fun _ => 0)))), (z24, .inl (T 0, 64, .inl (fl 0 64 (fun _ => 0)))), (z25, .inl (T 0, 64, .inl (fl 0 64 (fun _ => 0))))] sz) := by
  refine ct_begin (Qc := Qi (S := Unit) (fun (r : Int32) (_ : Unit) => r = (if (wi z2 0 0) = true then (if z3 = 4 then 0 else if z3 = 5 then 0 else (-1)) else (-1))) (fun (_ : Unit) => []) D) (by decide +kernel) (Nat.le_of_ble_eq_true rfl) ?_
  intro p e s m below meth c A ls C0 hr hlocks hnm hE hA hP hD hS hl
  have hx := C0.1
  have hb := C0.2.1
  have hml := C0.2.2.1
  have hown := C0.2.2.2.1
  have hT := C0.2.2.2.2
  have hK := hE.1
  have hl : lv_has ls 5 [(0, .ref z1), (1, .int z2), (2, .int z3)] := hl
  refine lv_aload_n hx hb dX10_cell_0 rfl (lv_at hl 0 rfl) ?_
  refine lv_iload_n hx hb dX10_cell_1 rfl (lv_at hl 1 rfl) ?_
  refine r_calli (wr := [(z6, .inr (0, [.ref z15, .ref z16, .ref z17, .ref z18, .ref z19, .ref z20, .int 0])), (z7, .inr (2, [.ref z21, .ref z22, .ref z23, .ref z24, .ref z25, .ref z26, .ref z27, .ref z28, .int 0, .int 1, .int 1, .int 0])), (z21, .inl (T 0, 64, .inl (fl (-1) 64 (fun _ => 0)))), (z24, .inl (T 0, 64, .inl (fl 0 64 (fun _ => 0)))), (z25, .inl (T 0, 64, .inl (fl 0 64 (fun _ => 0))))]) (r_runV (As := [.int z2]) (rest := []) (wc := [(z1, .inr (10, [.ref z4, .ref z5, .ref z6, .ref z7, .ref z8, .ref z9, .ref z10, .ref z11, .ref z12, .ref z13, .ref z14, .int 1, .int (-1), .int 0, .int (-1)]))]) (ci := 10) C0 hE (c_X10_isCell_961 l D T s.heap.size z1 z2 z4 z5 z6 z7 z8 z9 z10 z11 z12 z13 z14) mw_528 mw_529 mw_530 mw_7 mw_531 dn_527 rfl rfl ⟨Nat.le_of_ble_eq_true rfl, Nat.le_of_ble_eq_true rfl⟩ (hP.sub (ws' := [(z1, .inr (10, [.ref z4, .ref z5, .ref z6, .ref z7, .ref z8, .ref z9, .ref z10, .ref z11, .ref z12, .ref z13, .ref z14, .int 1, .int (-1), .int 0, .int (-1)]))]) [0] rfl) (hD.sub (ws' := [(z1, .inr (10, [.ref z4, .ref z5, .ref z6, .ref z7, .ref z8, .ref z9, .ref z10, .ref z11, .ref z12, .ref z13, .ref z14, .int 1, .int (-1), .int 0, .int (-1)]))]) [0] (by decide +kernel) rfl) rfl rfl rfl hl.1 rfl (Nat.le_of_ble_eq_true rfl) dX10_cell_2 ⟨Nat.le_of_ble_eq_true rfl, Nat.le_of_ble_eq_true rfl⟩) hP hD hS hA [0] [1, 2, 3, 4, 5] rfl rfl (by decide +kernel) (by decide +kernel) (fun r1200 u H locs hq hP hD hS => ?_)
  have hq : r1200 = (bi (wi z2 0 0)) := hq
  subst hq
  have hP : va_P D vwCl [(z6, .inr (0, [.ref z15, .ref z16, .ref z17, .ref z18, .ref z19, .ref z20, .int 0])), (z7, .inr (2, [.ref z21, .ref z22, .ref z23, .ref z24, .ref z25, .ref z26, .ref z27, .ref z28, .int 0, .int 1, .int 1, .int 0])), (z21, .inl (T 0, 64, .inl (fl (-1) 64 (fun _ => 0)))), (z24, .inl (T 0, 64, .inl (fl 0 64 (fun _ => 0)))), (z25, .inl (T 0, 64, .inl (fl 0 64 (fun _ => 0)))), (z1, .inr (10, [.ref z4, .ref z5, .ref z6, .ref z7, .ref z8, .ref z9, .ref z10, .ref z11, .ref z12, .ref z13, .ref z14, .int 1, .int (-1), .int 0, .int (-1)]))] H := hP
  have hD : va_D A [(z6, .inr (0, [.ref z15, .ref z16, .ref z17, .ref z18, .ref z19, .ref z20, .int 0])), (z7, .inr (2, [.ref z21, .ref z22, .ref z23, .ref z24, .ref z25, .ref z26, .ref z27, .ref z28, .int 0, .int 1, .int 1, .int 0])), (z21, .inl (T 0, 64, .inl (fl (-1) 64 (fun _ => 0)))), (z24, .inl (T 0, 64, .inl (fl 0 64 (fun _ => 0)))), (z25, .inl (T 0, 64, .inl (fl 0 64 (fun _ => 0)))), (z1, .inr (10, [.ref z4, .ref z5, .ref z6, .ref z7, .ref z8, .ref z9, .ref z10, .ref z11, .ref z12, .ref z13, .ref z14, .int 1, .int (-1), .int 0, .int (-1)]))] := hD
  refine W.widen (k := 0) (n := 0) (Nat.le_of_ble_eq_true rfl) (Nat.le_of_ble_eq_true rfl) ?_
  refine lv_if_ne (tgt := 10) hx hb dX10_cell_5 (by decide) (fun c_1201 => ?_) (fun c_1201 => ?_)
  · skip
    have c_1201 := bi_nz c_1201
    obtain rfl := wi_one c_1201
    refine lv_aload_n hx hb dX10_cell_10 rfl (lv_at hl 0 rfl) ?_
    refine r_callr (wr := [(z21, .inl (T 0, 64, .inl (fl (-1) 64 (fun _ => 0)))), (z24, .inl (T 0, 64, .inl (fl 0 64 (fun _ => 0)))), (z25, .inl (T 0, 64, .inl (fl 0 64 (fun _ => 0))))]) (r_runV (As := []) (rest := []) (wc := [(z1, .inr (10, [.ref z4, .ref z5, .ref z6, .ref z7, .ref z8, .ref z9, .ref z10, .ref z11, .ref z12, .ref z13, .ref z14, .int 1, .int (-1), .int 0, .int (-1)])), (z6, .inr (0, [.ref z15, .ref z16, .ref z17, .ref z18, .ref z19, .ref z20, .int 0])), (z7, .inr (2, [.ref z21, .ref z22, .ref z23, .ref z24, .ref z25, .ref z26, .ref z27, .ref z28, .int 0, .int 1, .int 1, .int 0]))]) (ci := 10) C0 hE (c_X10_broughtUp_1188 l D T H.size z1 z4 z5 z6 z7 z8 z9 z10 z11 z12 z13 z14 z15 z16 z17 z18 z19 z20 z21 z22 z23 z24 z25 z26 z27 z28) mw_558 mw_559 mw_560 mw_7 mw_561 dn_557 rfl rfl ⟨Nat.le_of_ble_eq_true rfl, Nat.le_of_ble_eq_true rfl⟩ (hP.sub (ws' := [(z1, .inr (10, [.ref z4, .ref z5, .ref z6, .ref z7, .ref z8, .ref z9, .ref z10, .ref z11, .ref z12, .ref z13, .ref z14, .int 1, .int (-1), .int 0, .int (-1)])), (z6, .inr (0, [.ref z15, .ref z16, .ref z17, .ref z18, .ref z19, .ref z20, .int 0])), (z7, .inr (2, [.ref z21, .ref z22, .ref z23, .ref z24, .ref z25, .ref z26, .ref z27, .ref z28, .int 0, .int 1, .int 1, .int 0]))]) [5, 0, 1] rfl) (hD.sub (ws' := [(z1, .inr (10, [.ref z4, .ref z5, .ref z6, .ref z7, .ref z8, .ref z9, .ref z10, .ref z11, .ref z12, .ref z13, .ref z14, .int 1, .int (-1), .int 0, .int (-1)])), (z6, .inr (0, [.ref z15, .ref z16, .ref z17, .ref z18, .ref z19, .ref z20, .int 0])), (z7, .inr (2, [.ref z21, .ref z22, .ref z23, .ref z24, .ref z25, .ref z26, .ref z27, .ref z28, .int 0, .int 1, .int 1, .int 0]))]) [5, 0, 1] (by decide +kernel) rfl) rfl rfl rfl hl.1 rfl (Nat.le_of_ble_eq_true rfl) dX10_cell_11 ⟨Nat.le_of_ble_eq_true rfl, Nat.le_of_ble_eq_true rfl⟩) hP hD hS hA [5, 0, 1] [2, 3, 4] rfl rfl (by decide +kernel) (by decide +kernel) (fun  u H locs hP hD hS => ?_)
    have hP : va_P D vwCl [(z21, .inl (T 0, 64, .inl (fl (-1) 64 (fun _ => 0)))), (z24, .inl (T 0, 64, .inl (fl 0 64 (fun _ => 0)))), (z25, .inl (T 0, 64, .inl (fl 0 64 (fun _ => 0)))), (z7, .inr (2, [.ref z21, .ref z22, .ref z23, .ref z24, .ref z25, .ref z26, .ref z27, .ref z28, .int 0, .int 1, .int 1, .int 0])), (z1, .inr (10, [.ref z4, .ref z5, .ref z6, .ref z7, .ref z8, .ref z9, .ref z10, .ref z11, .ref z12, .ref z13, .ref z14, .int 1, .int (-1), .int 0, .int (-1)])), (z6, .inr (0, [.ref z15, .ref z16, .ref z17, .ref z18, .ref z19, .ref z20, .int 0]))] H := hP
    have hD : va_D A [(z21, .inl (T 0, 64, .inl (fl (-1) 64 (fun _ => 0)))), (z24, .inl (T 0, 64, .inl (fl 0 64 (fun _ => 0)))), (z25, .inl (T 0, 64, .inl (fl 0 64 (fun _ => 0)))), (z7, .inr (2, [.ref z21, .ref z22, .ref z23, .ref z24, .ref z25, .ref z26, .ref z27, .ref z28, .int 0, .int 1, .int 1, .int 0])), (z1, .inr (10, [.ref z4, .ref z5, .ref z6, .ref z7, .ref z8, .ref z9, .ref z10, .ref z11, .ref z12, .ref z13, .ref z14, .int 1, .int (-1), .int 0, .int (-1)])), (z6, .inr (0, [.ref z15, .ref z16, .ref z17, .ref z18, .ref z19, .ref z20, .int 0]))] := hD
    refine W.eq (g2 := F0 m 14 ls [.ref z7]) rfl ?_
    refine W.widen (k := 0) (n := 0) (Nat.le_of_ble_eq_true rfl) (Nat.le_of_ble_eq_true rfl) ?_
    refine lv_astore_n (lv' := [(3, .ref z7), (0, .ref z1), (1, .int 0), (2, .int z3)]) hx hb dX10_cell_14 rfl hl (by decide) rfl (fun ls hl => ?_)
    refine lv_aload_n hx hb dX10_cell_15 rfl (lv_at hl 0 rfl) ?_
    refine lv_iload_n hx hb dX10_cell_16 rfl (lv_at hl 2 rfl) ?_
    refine r_calli (wr := [(z24, .inl (T 0, 64, .inl (fl 0 64 (fun _ => 0)))), (z25, .inl (T 0, 64, .inl (fl 0 64 (fun _ => 0)))), (z1, .inr (10, [.ref z4, .ref z5, .ref z6, .ref z7, .ref z8, .ref z9, .ref z10, .ref z11, .ref z12, .ref z13, .ref z14, .int 1, .int (-1), .int 0, .int (-1)])), (z6, .inr (0, [.ref z15, .ref z16, .ref z17, .ref z18, .ref z19, .ref z20, .int 0]))]) (r_runV (As := [.int 0]) (rest := []) (wc := [(z7, .inr (2, [.ref z21, .ref z22, .ref z23, .ref z24, .ref z25, .ref z26, .ref z27, .ref z28, .int 0, .int 1, .int 1, .int 0])), (z21, .inl (T 0, 64, .inl (fl (-1) 64 (fun _ => 0))))]) (ci := 2) C0 hE (c_X2_hasHook_1189 l D T H.size z7 z21 z22 z23 z24 z25 z26 z27 z28) mw_563 mw_564 mw_565 mw_64 mw_566 dn_562 rfl rfl ⟨Nat.le_of_ble_eq_true rfl, Nat.le_of_ble_eq_true rfl⟩ (hP.sub (ws' := [(z7, .inr (2, [.ref z21, .ref z22, .ref z23, .ref z24, .ref z25, .ref z26, .ref z27, .ref z28, .int 0, .int 1, .int 1, .int 0])), (z21, .inl (T 0, 64, .inl (fl (-1) 64 (fun _ => 0))))]) [3, 0] rfl) (hD.sub (ws' := [(z7, .inr (2, [.ref z21, .ref z22, .ref z23, .ref z24, .ref z25, .ref z26, .ref z27, .ref z28, .int 0, .int 1, .int 1, .int 0])), (z21, .inl (T 0, 64, .inl (fl (-1) 64 (fun _ => 0))))]) [3, 0] (by decide +kernel) rfl) rfl rfl rfl hl.1 rfl (Nat.le_of_ble_eq_true rfl) dX10_cell_17 ⟨Nat.le_of_ble_eq_true rfl, Nat.le_of_ble_eq_true rfl⟩) hP hD hS hA [3, 0] [1, 2, 4, 5] rfl rfl (by decide +kernel) (by decide +kernel) (fun r1204 u H locs hq hP hD hS => ?_)
    have hq : r1204 = 0 := hq
    subst hq
    have hP : va_P D vwCl [(z24, .inl (T 0, 64, .inl (fl 0 64 (fun _ => 0)))), (z25, .inl (T 0, 64, .inl (fl 0 64 (fun _ => 0)))), (z1, .inr (10, [.ref z4, .ref z5, .ref z6, .ref z7, .ref z8, .ref z9, .ref z10, .ref z11, .ref z12, .ref z13, .ref z14, .int 1, .int (-1), .int 0, .int (-1)])), (z6, .inr (0, [.ref z15, .ref z16, .ref z17, .ref z18, .ref z19, .ref z20, .int 0])), (z7, .inr (2, [.ref z21, .ref z22, .ref z23, .ref z24, .ref z25, .ref z26, .ref z27, .ref z28, .int 0, .int 1, .int 1, .int 0])), (z21, .inl (T 0, 64, .inl (fl (-1) 64 (fun _ => 0))))] H := hP
    have hD : va_D A [(z24, .inl (T 0, 64, .inl (fl 0 64 (fun _ => 0)))), (z25, .inl (T 0, 64, .inl (fl 0 64 (fun _ => 0)))), (z1, .inr (10, [.ref z4, .ref z5, .ref z6, .ref z7, .ref z8, .ref z9, .ref z10, .ref z11, .ref z12, .ref z13, .ref z14, .int 1, .int (-1), .int 0, .int (-1)])), (z6, .inr (0, [.ref z15, .ref z16, .ref z17, .ref z18, .ref z19, .ref z20, .int 0])), (z7, .inr (2, [.ref z21, .ref z22, .ref z23, .ref z24, .ref z25, .ref z26, .ref z27, .ref z28, .int 0, .int 1, .int 1, .int 0])), (z21, .inl (T 0, 64, .inl (fl (-1) 64 (fun _ => 0))))] := hD
    refine W.widen (k := 0) (n := 0) (Nat.le_of_ble_eq_true rfl) (Nat.le_of_ble_eq_true rfl) ?_
    refine lv_istore (lv' := [(4, .int 0), (3, .ref z7), (0, .ref z1), (1, .int 0), (2, .int z3)]) hx hb dX10_cell_20 hl (by decide) rfl (fun ls hl => ?_)
    refine lv_iload_n hx hb dX10_cell_22 rfl (lv_at hl 4 rfl) ?_
    by_cases c_1205 : z3 = 0
    · skip
      subst c_1205
      refine lv_tableIn (tgt := 60) hx hb dX10_cell_23 (by decide +kernel) (by decide +kernel) rfl (by decide) ?_
      refine lv_aload_n hx hb dX10_cell_60 rfl (lv_at hl 1 rfl) ?_
      refine r_get (v := .ref z21) C0 hE ffX2_0 mw_567 hP 4 rfl rfl dX10_cell_61 ?_
      refine lv_iload_n hx hb dX10_cell_64 rfl (lv_at hl 3 rfl) ?_
      refine va_iald hx hb hK hP 5 0 rfl rfl (vp_lit (by decide +kernel)) dX10_cell_65 ?_
      refine r_ci (v := (-1)) (by first | rfl | decide +kernel) ?_
      exact r_iret () C0 hr hlocks hS (Nat.le_of_ble_eq_true rfl) (Nat.le_of_ble_eq_true rfl) dX10_cell_66 (by first | rfl | decide +kernel | simp [bi, FO, TS, c_1201]) P_nil D_nil
    · skip
      by_cases c_1206 : z3 = 1
      · skip
        subst c_1206
        refine lv_tableIn (tgt := 67) hx hb dX10_cell_23 (by decide +kernel) (by decide +kernel) rfl (by decide) ?_
        refine lv_iload hx hb dX10_cell_67 (lv_at hl 0 rfl) ?_
        refine lv_if_eq (tgt := 81) hx hb dX10_cell_69 (by decide) (fun _ => ?_) (fun hc => absurd (by decide +kernel) hc)
        refine lv_iconst (v := (-1)) hx hb dX10_cell_81 (by decide) ?_
        exact r_iret () C0 hr hlocks hS (Nat.le_of_ble_eq_true rfl) (Nat.le_of_ble_eq_true rfl) dX10_cell_82 (by first | rfl | decide +kernel | simp [bi, FO, TS, c_1201, c_1205]) P_nil D_nil
      · skip
        by_cases c_1207 : z3 = 2
        · skip
          subst c_1207
          refine lv_tableIn (tgt := 83) hx hb dX10_cell_23 (by decide +kernel) (by decide +kernel) rfl (by decide) ?_
          refine lv_iload hx hb dX10_cell_83 (lv_at hl 0 rfl) ?_
          refine lv_if_eq (tgt := 97) hx hb dX10_cell_85 (by decide) (fun _ => ?_) (fun hc => absurd (by decide +kernel) hc)
          refine lv_iconst (v := (-1)) hx hb dX10_cell_97 (by decide) ?_
          exact r_iret () C0 hr hlocks hS (Nat.le_of_ble_eq_true rfl) (Nat.le_of_ble_eq_true rfl) dX10_cell_98 (by first | rfl | decide +kernel | simp [bi, FO, TS, c_1201, c_1205, c_1205, c_1206]) P_nil D_nil
        · skip
          by_cases c_1208 : z3 = 3
          · skip
            subst c_1208
            refine lv_tableIn (tgt := 99) hx hb dX10_cell_23 (by decide +kernel) (by decide +kernel) rfl (by decide) ?_
            refine lv_iload hx hb dX10_cell_99 (lv_at hl 0 rfl) ?_
            refine lv_if_eq (tgt := 116) hx hb dX10_cell_101 (by decide) (fun _ => ?_) (fun hc => absurd (by decide +kernel) hc)
            refine lv_iconst (v := (-1)) hx hb dX10_cell_116 (by decide) ?_
            exact r_iret () C0 hr hlocks hS (Nat.le_of_ble_eq_true rfl) (Nat.le_of_ble_eq_true rfl) dX10_cell_117 (by first | rfl | decide +kernel | simp [bi, FO, TS, c_1201, c_1205, c_1205, c_1206, c_1205, c_1206, c_1207]) P_nil D_nil
          · skip
            by_cases c_1209 : z3 = 4
            · skip
              subst c_1209
              refine lv_tableIn (tgt := 118) hx hb dX10_cell_23 (by decide +kernel) (by decide +kernel) rfl (by decide) ?_
              refine lv_aload_n hx hb dX10_cell_118 rfl (lv_at hl 1 rfl) ?_
              refine r_get (v := .ref z24) C0 hE ffX2_3 mw_568 hP 4 rfl rfl dX10_cell_119 ?_
              refine lv_iload_n hx hb dX10_cell_122 rfl (lv_at hl 3 rfl) ?_
              refine va_iald hx hb hK hP 0 0 rfl rfl (vp_lit (by decide +kernel)) dX10_cell_123 ?_
              refine r_ci (v := 0) (by first | rfl | decide +kernel) ?_
              exact r_iret () C0 hr hlocks hS (Nat.le_of_ble_eq_true rfl) (Nat.le_of_ble_eq_true rfl) dX10_cell_124 (by first | rfl | decide +kernel | simp [bi, FO, TS, c_1201, c_1205, c_1205, c_1206, c_1205, c_1206, c_1207, c_1205, c_1206, c_1207, c_1208]) P_nil D_nil
            · skip
              by_cases c_1210 : z3 = 5
              · skip
                subst c_1210
                refine lv_tableIn (tgt := 125) hx hb dX10_cell_23 (by decide +kernel) (by decide +kernel) rfl (by decide) ?_
                refine lv_aload_n hx hb dX10_cell_125 rfl (lv_at hl 1 rfl) ?_
                refine r_get (v := .ref z25) C0 hE ffX2_4 mw_569 hP 4 rfl rfl dX10_cell_126 ?_
                refine lv_iload_n hx hb dX10_cell_129 rfl (lv_at hl 3 rfl) ?_
                refine va_iald hx hb hK hP 1 0 rfl rfl (vp_lit (by decide +kernel)) dX10_cell_130 ?_
                refine r_ci (v := 0) (by first | rfl | decide +kernel) ?_
                exact r_iret () C0 hr hlocks hS (Nat.le_of_ble_eq_true rfl) (Nat.le_of_ble_eq_true rfl) dX10_cell_131 (by first | rfl | decide +kernel | simp [bi, FO, TS, c_1201, c_1205, c_1205, c_1206, c_1205, c_1206, c_1207, c_1205, c_1206, c_1207, c_1208, c_1205, c_1206, c_1207, c_1208, c_1209]) P_nil D_nil
              · skip
                have nc_1205 := lv_neT (a := 0) c_1205 (by decide +kernel)
                have nc_1206 := lv_neT (a := 1) c_1206 (by decide +kernel)
                have nc_1207 := lv_neT (a := 2) c_1207 (by decide +kernel)
                have nc_1208 := lv_neT (a := 3) c_1208 (by decide +kernel)
                have nc_1209 := lv_neT (a := 4) c_1209 (by decide +kernel)
                have nc_1210 := lv_neT (a := 5) c_1210 (by decide +kernel)
                refine lv_tableOut (tgt := 132) hx hb dX10_cell_23 (by omega) (by decide) ?_
                refine lv_iconst (v := (-1)) hx hb dX10_cell_132 (by decide) ?_
                exact r_iret () C0 hr hlocks hS (Nat.le_of_ble_eq_true rfl) (Nat.le_of_ble_eq_true rfl) dX10_cell_133 (by first | rfl | decide +kernel | simp [bi, FO, TS, c_1201, c_1205, c_1205, c_1206, c_1205, c_1206, c_1207, c_1205, c_1206, c_1207, c_1208, c_1205, c_1206, c_1207, c_1208, c_1209, c_1205, c_1206, c_1207, c_1208, c_1209, c_1210]) P_nil D_nil
  · skip
    have c_1201 := bi_z c_1201
    refine lv_iconst (v := (-1)) hx hb dX10_cell_8 (by decide) ?_
    exact r_iret () C0 hr hlocks hS (Nat.le_of_ble_eq_true rfl) (Nat.le_of_ble_eq_true rfl) dX10_cell_9 (by first | rfl | decide +kernel | simp [bi, FO, TS, c_1201]) P_nil D_nil
set_option maxHeartbeats 4000000 in
set_option maxRecDepth 100000 in
theorem c_X10_listed_1216 (l : Launch) (D : va_G) (T : Nat → ClassId) (sz : Nat) (z1 : Nat) (z2 : Nat) (z3 : Nat) (z4 : Nat) (z5 : Nat) (z6 : Nat) (z7 : Nat) (z8 : Nat) (z9 : Nat) (z10 : Nat) (z11 : Nat) (z12 : Nat) (z13 : Nat) (z14 : Nat) (z15 : Nat) (z16 : Nat) (z17 : Nat) (z18 : Nat) (z19 : Nat) (z20 : Nat) (z21 : Nat) (z22 : Nat) (z23 : Nat) (z24 : Nat) (z25 : Nat) (z26 : Nat) : Met l yX10_listed (.code yX10_listed cX10_listed 1 (some .int) :: TB) { frames := 2, cells := 0, slots := 0, locals := 48 } (PC D T [.ref z1] [(z1, .inr (10, [.ref z2, .ref z3, .ref z4, .ref z5, .ref z6, .ref z7, .ref z8, .ref z9, .ref z10, .ref z11, .ref z12, .int 1, .int (-1), .int 0, .int (-1)])), (z4, .inr (0, [.ref z13, .ref z14, .ref z15, .ref z16, .ref z17, .ref z18, .int 0])), (z5, .inr (2, [.ref z19, .ref z20, .ref z21, .ref z22, .ref z23, .ref z24, .ref z25, .ref z26, .int 0, .int 1, .int 1, .int 0]))] sz) (Qi (S := Unit) (fun (r : Int32) (_ : Unit) => r = 0) (fun (_ : Unit) => [(z5, .inr (2, [.ref z19, .ref z20, .ref z21, .ref z22, .ref z23, .ref z24, .ref z25, .ref z26, .int 0, .int 1, .int 1, .int 0])), (z1, .inr (10, [.ref z2, .ref z3, .ref z4, .ref z5, .ref z6, .ref z7, .ref z8, .ref z9, .ref z10, .ref z11, .ref z12, .int 1, .int (-1), .int 0, .int (-1)])), (z4, .inr (0, [.ref z13, .ref z14, .ref z15, .ref z16, .ref z17, .ref z18, .int 0]))]) D (va_A [(z1, .inr (10, [.ref z2, .ref z3, .ref z4, .ref z5, .ref z6, .ref z7, .ref z8, .ref z9, .ref z10, .ref z11, .ref z12, .int 1, .int (-1), .int 0, .int (-1)])), (z4, .inr (0, [.ref z13, .ref z14, .ref z15, .ref z16, .ref z17, .ref z18, .int 0])), (z5, .inr (2, [.ref z19, .ref z20, .ref z21, .ref z22, .ref z23, .ref z24, .ref z25, .ref z26, .int 0, .int 1, .int 1, .int 0]))] sz)) 0 0 (va_A [(z1, .inr (10, [.ref z2, .ref z3, .ref z4, .ref z5, .ref z6, .ref z7, .ref z8, .ref z9, .ref z10, .ref z11, .ref z12, .int 1, .int (-1), .int 0, .int (-1)])), (z4, .inr (0, [.ref z13, .ref z14, .ref z15, .ref z16, .ref z17, .ref z18, .int 0])), (z5, .inr (2, [.ref z19, .ref z20, .ref z21, .ref z22, .ref z23, .ref z24, .ref z25, .ref z26, .int 0, .int 1, .int 1, .int 0]))] sz) := by
  refine ct_begin (Qc := Qi (S := Unit) (fun (r : Int32) (_ : Unit) => r = 0) (fun (_ : Unit) => [(z5, .inr (2, [.ref z19, .ref z20, .ref z21, .ref z22, .ref z23, .ref z24, .ref z25, .ref z26, .int 0, .int 1, .int 1, .int 0])), (z1, .inr (10, [.ref z2, .ref z3, .ref z4, .ref z5, .ref z6, .ref z7, .ref z8, .ref z9, .ref z10, .ref z11, .ref z12, .int 1, .int (-1), .int 0, .int (-1)])), (z4, .inr (0, [.ref z13, .ref z14, .ref z15, .ref z16, .ref z17, .ref z18, .int 0]))]) D) (by decide +kernel) (Nat.le_of_ble_eq_true rfl) ?_
  intro p e s m below meth c A ls C0 hr hlocks hnm hE hA hP hD hS hl
  have hx := C0.1
  have hb := C0.2.1
  have hml := C0.2.2.1
  have hown := C0.2.2.2.1
  have hT := C0.2.2.2.2
  have hK := hE.1
  have hl : lv_has ls 1 [(0, .ref z1)] := hl
  refine lv_aload_n hx hb dX10_listed_0 rfl (lv_at hl 0 rfl) ?_
  refine r_callr (wr := []) (r_runV (As := []) (rest := []) (wc := [(z1, .inr (10, [.ref z2, .ref z3, .ref z4, .ref z5, .ref z6, .ref z7, .ref z8, .ref z9, .ref z10, .ref z11, .ref z12, .int 1, .int (-1), .int 0, .int (-1)])), (z4, .inr (0, [.ref z13, .ref z14, .ref z15, .ref z16, .ref z17, .ref z18, .int 0])), (z5, .inr (2, [.ref z19, .ref z20, .ref z21, .ref z22, .ref z23, .ref z24, .ref z25, .ref z26, .int 0, .int 1, .int 1, .int 0]))]) (ci := 10) C0 hE (c_X10_broughtUp_1188 l D T s.heap.size z1 z2 z3 z4 z5 z6 z7 z8 z9 z10 z11 z12 z13 z14 z15 z16 z17 z18 z19 z20 z21 z22 z23 z24 z25 z26) mw_558 mw_559 mw_560 mw_7 mw_561 dn_557 rfl rfl ⟨Nat.le_of_ble_eq_true rfl, Nat.le_of_ble_eq_true rfl⟩ (hP.sub (ws' := [(z1, .inr (10, [.ref z2, .ref z3, .ref z4, .ref z5, .ref z6, .ref z7, .ref z8, .ref z9, .ref z10, .ref z11, .ref z12, .int 1, .int (-1), .int 0, .int (-1)])), (z4, .inr (0, [.ref z13, .ref z14, .ref z15, .ref z16, .ref z17, .ref z18, .int 0])), (z5, .inr (2, [.ref z19, .ref z20, .ref z21, .ref z22, .ref z23, .ref z24, .ref z25, .ref z26, .int 0, .int 1, .int 1, .int 0]))]) [0, 1, 2] rfl) (hD.sub (ws' := [(z1, .inr (10, [.ref z2, .ref z3, .ref z4, .ref z5, .ref z6, .ref z7, .ref z8, .ref z9, .ref z10, .ref z11, .ref z12, .int 1, .int (-1), .int 0, .int (-1)])), (z4, .inr (0, [.ref z13, .ref z14, .ref z15, .ref z16, .ref z17, .ref z18, .int 0])), (z5, .inr (2, [.ref z19, .ref z20, .ref z21, .ref z22, .ref z23, .ref z24, .ref z25, .ref z26, .int 0, .int 1, .int 1, .int 0]))]) [0, 1, 2] (by decide +kernel) rfl) rfl rfl rfl hl.1 rfl (Nat.le_of_ble_eq_true rfl) dX10_listed_1 ⟨Nat.le_of_ble_eq_true rfl, Nat.le_of_ble_eq_true rfl⟩) hP hD hS hA [0, 1, 2] [] rfl rfl (by decide +kernel) (by decide +kernel) (fun  u H locs hP hD hS => ?_)
  have hP : va_P D vwCl [(z5, .inr (2, [.ref z19, .ref z20, .ref z21, .ref z22, .ref z23, .ref z24, .ref z25, .ref z26, .int 0, .int 1, .int 1, .int 0])), (z1, .inr (10, [.ref z2, .ref z3, .ref z4, .ref z5, .ref z6, .ref z7, .ref z8, .ref z9, .ref z10, .ref z11, .ref z12, .int 1, .int (-1), .int 0, .int (-1)])), (z4, .inr (0, [.ref z13, .ref z14, .ref z15, .ref z16, .ref z17, .ref z18, .int 0]))] H := hP
  have hD : va_D A [(z5, .inr (2, [.ref z19, .ref z20, .ref z21, .ref z22, .ref z23, .ref z24, .ref z25, .ref z26, .int 0, .int 1, .int 1, .int 0])), (z1, .inr (10, [.ref z2, .ref z3, .ref z4, .ref z5, .ref z6, .ref z7, .ref z8, .ref z9, .ref z10, .ref z11, .ref z12, .int 1, .int (-1), .int 0, .int (-1)])), (z4, .inr (0, [.ref z13, .ref z14, .ref z15, .ref z16, .ref z17, .ref z18, .int 0]))] := hD
  refine W.eq (g2 := F0 m 4 ls [.ref z5]) rfl ?_
  refine W.widen (k := 0) (n := 0) (Nat.le_of_ble_eq_true rfl) (Nat.le_of_ble_eq_true rfl) ?_
  refine r_get (v := .int 0) C0 hE ffX2_8 mw_570 hP 0 rfl rfl dX10_listed_4 ?_
  exact r_iret () C0 hr hlocks hS (Nat.le_of_ble_eq_true rfl) (Nat.le_of_ble_eq_true rfl) dX10_listed_7 rfl hP hD
set_option maxHeartbeats 4000000 in
set_option maxRecDepth 100000 in
theorem c_X10_list_1229 (l : Launch) (D : va_G) (T : Nat → ClassId) (sz : Nat) (z1 : Nat) (z2 : Int32) (z3 : Nat) (z4 : Nat) (z5 : Nat) (z6 : Nat) (z7 : Nat) (z8 : Nat) (z9 : Nat) (z10 : Nat) (z11 : Nat) (z12 : Nat) (z13 : Nat) (z14 : Nat) (z15 : Nat) (z16 : Nat) (z17 : Nat) (z18 : Nat) (z19 : Nat) (z20 : Nat) (z21 : Nat) (z22 : Nat) (z23 : Nat) (z24 : Nat) (z25 : Nat) (z26 : Nat) (z27 : Nat) : Met l yX10_list (.code yX10_list cX10_list 3 (some .long) :: TB) { frames := 2, cells := 0, slots := 0, locals := 48 } (PC D T [.ref z1, .int z2] [(z1, .inr (10, [.ref z3, .ref z4, .ref z5, .ref z6, .ref z7, .ref z8, .ref z9, .ref z10, .ref z11, .ref z12, .ref z13, .int 1, .int (-1), .int 0, .int (-1)])), (z5, .inr (0, [.ref z14, .ref z15, .ref z16, .ref z17, .ref z18, .ref z19, .int 0])), (z6, .inr (2, [.ref z20, .ref z21, .ref z22, .ref z23, .ref z24, .ref z25, .ref z26, .ref z27, .int 0, .int 1, .int 1, .int 0]))] sz) (Ql (S := Unit) (fun (r : Int64) (_ : Unit) => r = (-1)) (fun (_ : Unit) => []) D (va_A [(z1, .inr (10, [.ref z3, .ref z4, .ref z5, .ref z6, .ref z7, .ref z8, .ref z9, .ref z10, .ref z11, .ref z12, .ref z13, .int 1, .int (-1), .int 0, .int (-1)])), (z5, .inr (0, [.ref z14, .ref z15, .ref z16, .ref z17, .ref z18, .ref z19, .int 0])), (z6, .inr (2, [.ref z20, .ref z21, .ref z22, .ref z23, .ref z24, .ref z25, .ref z26, .ref z27, .int 0, .int 1, .int 1, .int 0]))] sz)) 0 0 (va_A [(z1, .inr (10, [.ref z3, .ref z4, .ref z5, .ref z6, .ref z7, .ref z8, .ref z9, .ref z10, .ref z11, .ref z12, .ref z13, .int 1, .int (-1), .int 0, .int (-1)])), (z5, .inr (0, [.ref z14, .ref z15, .ref z16, .ref z17, .ref z18, .ref z19, .int 0])), (z6, .inr (2, [.ref z20, .ref z21, .ref z22, .ref z23, .ref z24, .ref z25, .ref z26, .ref z27, .int 0, .int 1, .int 1, .int 0]))] sz) := by
  refine ct_begin (Qc := Ql (S := Unit) (fun (r : Int64) (_ : Unit) => r = (-1)) (fun (_ : Unit) => []) D) (by decide +kernel) (Nat.le_of_ble_eq_true rfl) ?_
  intro p e s m below meth c A ls C0 hr hlocks hnm hE hA hP hD hS hl
  have hx := C0.1
  have hb := C0.2.1
  have hml := C0.2.2.1
  have hown := C0.2.2.2.1
  have hT := C0.2.2.2.2
  have hK := hE.1
  have hl : lv_has ls 3 [(0, .ref z1), (1, .int z2)] := hl
  refine lv_aload_n hx hb dX10_list_0 rfl (lv_at hl 0 rfl) ?_
  refine r_callr (wr := []) (r_runV (As := []) (rest := []) (wc := [(z1, .inr (10, [.ref z3, .ref z4, .ref z5, .ref z6, .ref z7, .ref z8, .ref z9, .ref z10, .ref z11, .ref z12, .ref z13, .int 1, .int (-1), .int 0, .int (-1)])), (z5, .inr (0, [.ref z14, .ref z15, .ref z16, .ref z17, .ref z18, .ref z19, .int 0])), (z6, .inr (2, [.ref z20, .ref z21, .ref z22, .ref z23, .ref z24, .ref z25, .ref z26, .ref z27, .int 0, .int 1, .int 1, .int 0]))]) (ci := 10) C0 hE (c_X10_broughtUp_1188 l D T s.heap.size z1 z3 z4 z5 z6 z7 z8 z9 z10 z11 z12 z13 z14 z15 z16 z17 z18 z19 z20 z21 z22 z23 z24 z25 z26 z27) mw_558 mw_559 mw_560 mw_7 mw_561 dn_557 rfl rfl ⟨Nat.le_of_ble_eq_true rfl, Nat.le_of_ble_eq_true rfl⟩ (hP.sub (ws' := [(z1, .inr (10, [.ref z3, .ref z4, .ref z5, .ref z6, .ref z7, .ref z8, .ref z9, .ref z10, .ref z11, .ref z12, .ref z13, .int 1, .int (-1), .int 0, .int (-1)])), (z5, .inr (0, [.ref z14, .ref z15, .ref z16, .ref z17, .ref z18, .ref z19, .int 0])), (z6, .inr (2, [.ref z20, .ref z21, .ref z22, .ref z23, .ref z24, .ref z25, .ref z26, .ref z27, .int 0, .int 1, .int 1, .int 0]))]) [0, 1, 2] rfl) (hD.sub (ws' := [(z1, .inr (10, [.ref z3, .ref z4, .ref z5, .ref z6, .ref z7, .ref z8, .ref z9, .ref z10, .ref z11, .ref z12, .ref z13, .int 1, .int (-1), .int 0, .int (-1)])), (z5, .inr (0, [.ref z14, .ref z15, .ref z16, .ref z17, .ref z18, .ref z19, .int 0])), (z6, .inr (2, [.ref z20, .ref z21, .ref z22, .ref z23, .ref z24, .ref z25, .ref z26, .ref z27, .int 0, .int 1, .int 1, .int 0]))]) [0, 1, 2] (by decide +kernel) rfl) rfl rfl rfl hl.1 rfl (Nat.le_of_ble_eq_true rfl) dX10_list_1 ⟨Nat.le_of_ble_eq_true rfl, Nat.le_of_ble_eq_true rfl⟩) hP hD hS hA [0, 1, 2] [] rfl rfl (by decide +kernel) (by decide +kernel) (fun  u H locs hP hD hS => ?_)
  have hP : va_P D vwCl [(z6, .inr (2, [.ref z20, .ref z21, .ref z22, .ref z23, .ref z24, .ref z25, .ref z26, .ref z27, .int 0, .int 1, .int 1, .int 0])), (z1, .inr (10, [.ref z3, .ref z4, .ref z5, .ref z6, .ref z7, .ref z8, .ref z9, .ref z10, .ref z11, .ref z12, .ref z13, .int 1, .int (-1), .int 0, .int (-1)])), (z5, .inr (0, [.ref z14, .ref z15, .ref z16, .ref z17, .ref z18, .ref z19, .int 0]))] H := hP
  have hD : va_D A [(z6, .inr (2, [.ref z20, .ref z21, .ref z22, .ref z23, .ref z24, .ref z25, .ref z26, .ref z27, .int 0, .int 1, .int 1, .int 0])), (z1, .inr (10, [.ref z3, .ref z4, .ref z5, .ref z6, .ref z7, .ref z8, .ref z9, .ref z10, .ref z11, .ref z12, .ref z13, .int 1, .int (-1), .int 0, .int (-1)])), (z5, .inr (0, [.ref z14, .ref z15, .ref z16, .ref z17, .ref z18, .ref z19, .int 0]))] := hD
  refine W.eq (g2 := F0 m 4 ls [.ref z6]) rfl ?_
  refine W.widen (k := 0) (n := 0) (Nat.le_of_ble_eq_true rfl) (Nat.le_of_ble_eq_true rfl) ?_
  refine lv_astore_n (lv' := [(2, .ref z6), (0, .ref z1), (1, .int z2)]) hx hb dX10_list_4 rfl hl (by decide) rfl (fun ls hl => ?_)
  refine lv_iload_n hx hb dX10_list_5 rfl (lv_at hl 2 rfl) ?_
  refine lv_iconst (v := 0) hx hb dX10_list_6 (by decide) ?_
  refine lv_aload_n hx hb dX10_list_7 rfl (lv_at hl 0 rfl) ?_
  refine r_get (v := .int 0) C0 hE ffX2_8 mw_570 hP 0 rfl rfl dX10_list_8 ?_
  refine lv_iconst (v := 1) hx hb dX10_list_11 (by decide) ?_
  refine lv_isub hx hb dX10_list_12 ?_
  refine r_ci (v := (-1)) (by decide +kernel) ?_
  refine r_calli (wr := [(z6, .inr (2, [.ref z20, .ref z21, .ref z22, .ref z23, .ref z24, .ref z25, .ref z26, .ref z27, .int 0, .int 1, .int 1, .int 0])), (z1, .inr (10, [.ref z3, .ref z4, .ref z5, .ref z6, .ref z7, .ref z8, .ref z9, .ref z10, .ref z11, .ref z12, .ref z13, .int 1, .int (-1), .int 0, .int (-1)])), (z5, .inr (0, [.ref z14, .ref z15, .ref z16, .ref z17, .ref z18, .ref z19, .int 0]))]) (r_runS (As := [.int z2, .int 0, .int (-1)]) (rest := []) (wc := []) C0 hE (c_X10_within_944 l D T H.size z2) mw_483 mw_484 mw_7 mw_485 dn_482 rfl rfl ⟨Nat.le_of_ble_eq_true rfl, Nat.le_of_ble_eq_true rfl⟩ (hP.sub (ws' := []) [] rfl) (hD.sub (ws' := []) [] (by decide +kernel) rfl) hl.1 rfl (Nat.le_of_ble_eq_true rfl) dX10_list_13 ⟨Nat.le_of_ble_eq_true rfl, Nat.le_of_ble_eq_true rfl⟩) hP hD hS hA [] [0, 1, 2] rfl rfl (by decide +kernel) (by decide +kernel) (fun r1227 u H locs hq hP hD hS => ?_)
  have hq : r1227 = (bi (wi z2 0 (-1))) := hq
  subst hq
  have hP : va_P D vwCl [(z6, .inr (2, [.ref z20, .ref z21, .ref z22, .ref z23, .ref z24, .ref z25, .ref z26, .ref z27, .int 0, .int 1, .int 1, .int 0])), (z1, .inr (10, [.ref z3, .ref z4, .ref z5, .ref z6, .ref z7, .ref z8, .ref z9, .ref z10, .ref z11, .ref z12, .ref z13, .int 1, .int (-1), .int 0, .int (-1)])), (z5, .inr (0, [.ref z14, .ref z15, .ref z16, .ref z17, .ref z18, .ref z19, .int 0]))] H := hP
  have hD : va_D A [(z6, .inr (2, [.ref z20, .ref z21, .ref z22, .ref z23, .ref z24, .ref z25, .ref z26, .ref z27, .int 0, .int 1, .int 1, .int 0])), (z1, .inr (10, [.ref z3, .ref z4, .ref z5, .ref z6, .ref z7, .ref z8, .ref z9, .ref z10, .ref z11, .ref z12, .ref z13, .int 1, .int (-1), .int 0, .int (-1)])), (z5, .inr (0, [.ref z14, .ref z15, .ref z16, .ref z17, .ref z18, .ref z19, .int 0]))] := hD
  refine W.widen (k := 0) (n := 0) (Nat.le_of_ble_eq_true rfl) (Nat.le_of_ble_eq_true rfl) ?_
  refine lv_if_eq (tgt := 29) hx hb dX10_list_16 (by decide) (fun c_1228 => ?_) (fun c_1228 => ?_)
  · skip
    have c_1228 := bi_z c_1228
    refine lv_ldc2 hx hb hown (hT _ mw_571) dX10_list_29 ?_
    exact r_lret () C0 hr hlocks hS (Nat.le_of_ble_eq_true rfl) (Nat.le_of_ble_eq_true rfl) dX10_list_32 (by first | rfl | decide +kernel | simp [bi, FO, TS, c_1228]) P_nil D_nil
  · skip
    have c_1228 := bi_nz c_1228
    exact absurd c_1228 (wi_empty (by decide +kernel))
set_option maxHeartbeats 4000000 in
set_option maxRecDepth 100000 in
theorem c_X10_until_1234 (l : Launch) (D : va_G) (T : Nat → ClassId) (sz : Nat) (z1 : Nat) (z2 : Int64) (z3 : Nat) (z4 : Nat) (z5 : Nat) (z6 : Nat) (z7 : Nat) (z8 : Nat) (z9 : Nat) (z10 : Nat) (z11 : Nat) (z12 : Nat) (z13 : Nat) (z14 : Nat) (z15 : Nat) (z16 : Nat) (z17 : Nat) (z18 : Nat) (z19 : Nat) (z20 : Nat) (z21 : Nat) (z22 : Nat) (z23 : Nat) (z24 : Nat) (z25 : Nat) (z26 : Nat) (z27 : Nat) : Met l yX10_until (.code yX10_until cX10_until 5 (some .int) :: TB) { frames := 2, cells := 0, slots := 0, locals := 48 } (PC D T [.ref z1, .long z2] [(z1, .inr (10, [.ref z3, .ref z4, .ref z5, .ref z6, .ref z7, .ref z8, .ref z9, .ref z10, .ref z11, .ref z12, .ref z13, .int 1, .int (-1), .int 0, .int (-1)])), (z5, .inr (0, [.ref z14, .ref z15, .ref z16, .ref z17, .ref z18, .ref z19, .int 0])), (z6, .inr (2, [.ref z20, .ref z21, .ref z22, .ref z23, .ref z24, .ref z25, .ref z26, .ref z27, .int 0, .int 1, .int 1, .int 0]))] sz) (Qi (S := Unit) (fun (r : Int32) (_ : Unit) => r = (-1)) (fun (_ : Unit) => [(z6, .inr (2, [.ref z20, .ref z21, .ref z22, .ref z23, .ref z24, .ref z25, .ref z26, .ref z27, .int 0, .int 1, .int 1, .int 0])), (z1, .inr (10, [.ref z3, .ref z4, .ref z5, .ref z6, .ref z7, .ref z8, .ref z9, .ref z10, .ref z11, .ref z12, .ref z13, .int 1, .int (-1), .int 0, .int (-1)])), (z5, .inr (0, [.ref z14, .ref z15, .ref z16, .ref z17, .ref z18, .ref z19, .int 0]))]) D (va_A [(z1, .inr (10, [.ref z3, .ref z4, .ref z5, .ref z6, .ref z7, .ref z8, .ref z9, .ref z10, .ref z11, .ref z12, .ref z13, .int 1, .int (-1), .int 0, .int (-1)])), (z5, .inr (0, [.ref z14, .ref z15, .ref z16, .ref z17, .ref z18, .ref z19, .int 0])), (z6, .inr (2, [.ref z20, .ref z21, .ref z22, .ref z23, .ref z24, .ref z25, .ref z26, .ref z27, .int 0, .int 1, .int 1, .int 0]))] sz)) 0 0 (va_A [(z1, .inr (10, [.ref z3, .ref z4, .ref z5, .ref z6, .ref z7, .ref z8, .ref z9, .ref z10, .ref z11, .ref z12, .ref z13, .int 1, .int (-1), .int 0, .int (-1)])), (z5, .inr (0, [.ref z14, .ref z15, .ref z16, .ref z17, .ref z18, .ref z19, .int 0])), (z6, .inr (2, [.ref z20, .ref z21, .ref z22, .ref z23, .ref z24, .ref z25, .ref z26, .ref z27, .int 0, .int 1, .int 1, .int 0]))] sz) := by
  refine ct_begin (Qc := Qi (S := Unit) (fun (r : Int32) (_ : Unit) => r = (-1)) (fun (_ : Unit) => [(z6, .inr (2, [.ref z20, .ref z21, .ref z22, .ref z23, .ref z24, .ref z25, .ref z26, .ref z27, .int 0, .int 1, .int 1, .int 0])), (z1, .inr (10, [.ref z3, .ref z4, .ref z5, .ref z6, .ref z7, .ref z8, .ref z9, .ref z10, .ref z11, .ref z12, .ref z13, .int 1, .int (-1), .int 0, .int (-1)])), (z5, .inr (0, [.ref z14, .ref z15, .ref z16, .ref z17, .ref z18, .ref z19, .int 0]))]) D) (by decide +kernel) (Nat.le_of_ble_eq_true rfl) ?_
  intro p e s m below meth c A ls C0 hr hlocks hnm hE hA hP hD hS hl
  have hx := C0.1
  have hb := C0.2.1
  have hml := C0.2.2.1
  have hown := C0.2.2.2.1
  have hT := C0.2.2.2.2
  have hK := hE.1
  have hl : lv_has ls 5 [(0, .ref z1), (1, .long z2)] := hl
  refine lv_aload_n hx hb dX10_until_0 rfl (lv_at hl 0 rfl) ?_
  refine r_callr (wr := []) (r_runV (As := []) (rest := []) (wc := [(z1, .inr (10, [.ref z3, .ref z4, .ref z5, .ref z6, .ref z7, .ref z8, .ref z9, .ref z10, .ref z11, .ref z12, .ref z13, .int 1, .int (-1), .int 0, .int (-1)])), (z5, .inr (0, [.ref z14, .ref z15, .ref z16, .ref z17, .ref z18, .ref z19, .int 0])), (z6, .inr (2, [.ref z20, .ref z21, .ref z22, .ref z23, .ref z24, .ref z25, .ref z26, .ref z27, .int 0, .int 1, .int 1, .int 0]))]) (ci := 10) C0 hE (c_X10_broughtUp_1188 l D T s.heap.size z1 z3 z4 z5 z6 z7 z8 z9 z10 z11 z12 z13 z14 z15 z16 z17 z18 z19 z20 z21 z22 z23 z24 z25 z26 z27) mw_558 mw_559 mw_560 mw_7 mw_561 dn_557 rfl rfl ⟨Nat.le_of_ble_eq_true rfl, Nat.le_of_ble_eq_true rfl⟩ (hP.sub (ws' := [(z1, .inr (10, [.ref z3, .ref z4, .ref z5, .ref z6, .ref z7, .ref z8, .ref z9, .ref z10, .ref z11, .ref z12, .ref z13, .int 1, .int (-1), .int 0, .int (-1)])), (z5, .inr (0, [.ref z14, .ref z15, .ref z16, .ref z17, .ref z18, .ref z19, .int 0])), (z6, .inr (2, [.ref z20, .ref z21, .ref z22, .ref z23, .ref z24, .ref z25, .ref z26, .ref z27, .int 0, .int 1, .int 1, .int 0]))]) [0, 1, 2] rfl) (hD.sub (ws' := [(z1, .inr (10, [.ref z3, .ref z4, .ref z5, .ref z6, .ref z7, .ref z8, .ref z9, .ref z10, .ref z11, .ref z12, .ref z13, .int 1, .int (-1), .int 0, .int (-1)])), (z5, .inr (0, [.ref z14, .ref z15, .ref z16, .ref z17, .ref z18, .ref z19, .int 0])), (z6, .inr (2, [.ref z20, .ref z21, .ref z22, .ref z23, .ref z24, .ref z25, .ref z26, .ref z27, .int 0, .int 1, .int 1, .int 0]))]) [0, 1, 2] (by decide +kernel) rfl) rfl rfl rfl hl.1 rfl (Nat.le_of_ble_eq_true rfl) dX10_until_1 ⟨Nat.le_of_ble_eq_true rfl, Nat.le_of_ble_eq_true rfl⟩) hP hD hS hA [0, 1, 2] [] rfl rfl (by decide +kernel) (by decide +kernel) (fun  u H locs hP hD hS => ?_)
  have hP : va_P D vwCl [(z6, .inr (2, [.ref z20, .ref z21, .ref z22, .ref z23, .ref z24, .ref z25, .ref z26, .ref z27, .int 0, .int 1, .int 1, .int 0])), (z1, .inr (10, [.ref z3, .ref z4, .ref z5, .ref z6, .ref z7, .ref z8, .ref z9, .ref z10, .ref z11, .ref z12, .ref z13, .int 1, .int (-1), .int 0, .int (-1)])), (z5, .inr (0, [.ref z14, .ref z15, .ref z16, .ref z17, .ref z18, .ref z19, .int 0]))] H := hP
  have hD : va_D A [(z6, .inr (2, [.ref z20, .ref z21, .ref z22, .ref z23, .ref z24, .ref z25, .ref z26, .ref z27, .int 0, .int 1, .int 1, .int 0])), (z1, .inr (10, [.ref z3, .ref z4, .ref z5, .ref z6, .ref z7, .ref z8, .ref z9, .ref z10, .ref z11, .ref z12, .ref z13, .int 1, .int (-1), .int 0, .int (-1)])), (z5, .inr (0, [.ref z14, .ref z15, .ref z16, .ref z17, .ref z18, .ref z19, .int 0]))] := hD
  refine W.eq (g2 := F0 m 4 ls [.ref z6]) rfl ?_
  refine W.widen (k := 0) (n := 0) (Nat.le_of_ble_eq_true rfl) (Nat.le_of_ble_eq_true rfl) ?_
  refine lv_astore_n (lv' := [(3, .ref z6), (0, .ref z1), (1, .long z2)]) hx hb dX10_until_4 rfl hl (by decide) rfl (fun ls hl => ?_)
  refine lv_iconst (v := 0) hx hb dX10_until_5 (by decide) ?_
  refine lv_istore (lv' := [(4, .int 0), (3, .ref z6), (0, .ref z1), (1, .long z2)]) hx hb dX10_until_6 hl (by decide) rfl (fun ls hl => ?_)
  refine lv_iload hx hb dX10_until_8 (lv_at hl 0 rfl) ?_
  refine lv_aload_n hx hb dX10_until_10 rfl (lv_at hl 1 rfl) ?_
  refine r_get (v := .int 0) C0 hE ffX2_8 mw_570 hP 0 rfl rfl dX10_until_11 ?_
  refine lv_icmp_ge (tgt := 39) hx hb dX10_until_14 (by decide) (fun _ => ?_) (fun hc => absurd (by decide +kernel) hc)
  refine lv_iconst (v := (-1)) hx hb dX10_until_39 (by decide) ?_
  exact r_iret () C0 hr hlocks hS (Nat.le_of_ble_eq_true rfl) (Nat.le_of_ble_eq_true rfl) dX10_until_40 rfl hP hD
set_option maxHeartbeats 4000000 in
set_option maxRecDepth 100000 in
theorem c_X10_chance_1271 (l : Launch) (D : va_G) (T : Nat → ClassId) (sz : Nat) (z1 : Nat) (z2 : Int32) (z3 : Int32) (z4 : Int32) (z5 : Nat) (z6 : Nat) (z7 : Nat) (z8 : Nat) (z9 : Nat) (z10 : Nat) (z11 : Nat) (z12 : Nat) (z13 : Nat) (z14 : Nat) (z15 : Nat) (z16 : Nat) (z17 : Nat) (z18 : Nat) (z19 : Nat) (z20 : Nat) (z21 : Nat) (z22 : Nat) (z23 : Nat) (z24 : Nat) (z25 : Nat) (z26 : Nat) (z27 : Nat) (z28 : Nat) (z29 : Nat) : Met l yX10_chance (.code yX10_chance cX10_chance 5 (some .int) :: TB) { frames := 2, cells := 0, slots := 0, locals := 48 } (PC D T [.ref z1, .int z2, .int z3, .int z4] [(z1, .inr (10, [.ref z5, .ref z6, .ref z7, .ref z8, .ref z9, .ref z10, .ref z11, .ref z12, .ref z13, .ref z14, .ref z15, .int 1, .int (-1), .int 0, .int (-1)])), (z7, .inr (0, [.ref z16, .ref z17, .ref z18, .ref z19, .ref z20, .ref z21, .int 0])), (z8, .inr (2, [.ref z22, .ref z23, .ref z24, .ref z25, .ref z26, .ref z27, .ref z28, .ref z29, .int 0, .int 1, .int 1, .int 0])), (z22, .inl (T 0, 64, .inl (fl (-1) 64 (fun _ => 0))))] sz) (Qi (S := Unit) (fun (r : Int32) (_ : Unit) => r = (-1)) (fun (_ : Unit) => []) D (va_A [(z1, .inr (10, [.ref z5, .ref z6, .ref z7, .ref z8, .ref z9, .ref z10, .ref z11, .ref z12, .ref z13, .ref z14, .ref z15, .int 1, .int (-1), .int 0, .int (-1)])), (z7, .inr (0, [.ref z16, .ref z17, .ref z18, .ref z19, .ref z20, .ref z21, .int 0])), (z8, .inr (2, [.ref z22, .ref z23, .ref z24, .ref z25, .ref z26, .ref z27, .ref z28, .ref z29, .int 0, .int 1, .int 1, .int 0])), (z22, .inl (T 0, 64, .inl (fl (-1) 64 (fun _ => 0))))] sz)) 0 0 (va_A [(z1, .inr (10, [.ref z5, .ref z6, .ref z7, .ref z8, .ref z9, .ref z10, .ref z11, .ref z12, .ref z13, .ref z14, .ref z15, .int 1, .int (-1), .int 0, .int (-1)])), (z7, .inr (0, [.ref z16, .ref z17, .ref z18, .ref z19, .ref z20, .ref z21, .int 0])), (z8, .inr (2, [.ref z22, .ref z23, .ref z24, .ref z25, .ref z26, .ref z27, .ref z28, .ref z29, .int 0, .int 1, .int 1, .int 0])), (z22, .inl (T 0, 64, .inl (fl (-1) 64 (fun _ => 0))))] sz) := by
  refine ct_begin (Qc := Qi (S := Unit) (fun (r : Int32) (_ : Unit) => r = (-1)) (fun (_ : Unit) => []) D) (by decide +kernel) (Nat.le_of_ble_eq_true rfl) ?_
  intro p e s m below meth c A ls C0 hr hlocks hnm hE hA hP hD hS hl
  have hx := C0.1
  have hb := C0.2.1
  have hml := C0.2.2.1
  have hown := C0.2.2.2.1
  have hT := C0.2.2.2.2
  have hK := hE.1
  have hl : lv_has ls 5 [(0, .ref z1), (1, .int z2), (2, .int z3), (3, .int z4)] := hl
  refine lv_aload_n hx hb dX10_chance_0 rfl (lv_at hl 0 rfl) ?_
  refine lv_iload_n hx hb dX10_chance_1 rfl (lv_at hl 1 rfl) ?_
  refine r_calli (wr := [(z7, .inr (0, [.ref z16, .ref z17, .ref z18, .ref z19, .ref z20, .ref z21, .int 0])), (z8, .inr (2, [.ref z22, .ref z23, .ref z24, .ref z25, .ref z26, .ref z27, .ref z28, .ref z29, .int 0, .int 1, .int 1, .int 0])), (z22, .inl (T 0, 64, .inl (fl (-1) 64 (fun _ => 0))))]) (r_runV (As := [.int z2]) (rest := []) (wc := [(z1, .inr (10, [.ref z5, .ref z6, .ref z7, .ref z8, .ref z9, .ref z10, .ref z11, .ref z12, .ref z13, .ref z14, .ref z15, .int 1, .int (-1), .int 0, .int (-1)]))]) (ci := 10) C0 hE (c_X10_isCell_961 l D T s.heap.size z1 z2 z5 z6 z7 z8 z9 z10 z11 z12 z13 z14 z15) mw_528 mw_529 mw_530 mw_7 mw_531 dn_527 rfl rfl ⟨Nat.le_of_ble_eq_true rfl, Nat.le_of_ble_eq_true rfl⟩ (hP.sub (ws' := [(z1, .inr (10, [.ref z5, .ref z6, .ref z7, .ref z8, .ref z9, .ref z10, .ref z11, .ref z12, .ref z13, .ref z14, .ref z15, .int 1, .int (-1), .int 0, .int (-1)]))]) [0] rfl) (hD.sub (ws' := [(z1, .inr (10, [.ref z5, .ref z6, .ref z7, .ref z8, .ref z9, .ref z10, .ref z11, .ref z12, .ref z13, .ref z14, .ref z15, .int 1, .int (-1), .int 0, .int (-1)]))]) [0] (by decide +kernel) rfl) rfl rfl rfl hl.1 rfl (Nat.le_of_ble_eq_true rfl) dX10_chance_2 ⟨Nat.le_of_ble_eq_true rfl, Nat.le_of_ble_eq_true rfl⟩) hP hD hS hA [0] [1, 2, 3] rfl rfl (by decide +kernel) (by decide +kernel) (fun r1256 u H locs hq hP hD hS => ?_)
  have hq : r1256 = (bi (wi z2 0 0)) := hq
  subst hq
  have hP : va_P D vwCl [(z7, .inr (0, [.ref z16, .ref z17, .ref z18, .ref z19, .ref z20, .ref z21, .int 0])), (z8, .inr (2, [.ref z22, .ref z23, .ref z24, .ref z25, .ref z26, .ref z27, .ref z28, .ref z29, .int 0, .int 1, .int 1, .int 0])), (z22, .inl (T 0, 64, .inl (fl (-1) 64 (fun _ => 0)))), (z1, .inr (10, [.ref z5, .ref z6, .ref z7, .ref z8, .ref z9, .ref z10, .ref z11, .ref z12, .ref z13, .ref z14, .ref z15, .int 1, .int (-1), .int 0, .int (-1)]))] H := hP
  have hD : va_D A [(z7, .inr (0, [.ref z16, .ref z17, .ref z18, .ref z19, .ref z20, .ref z21, .int 0])), (z8, .inr (2, [.ref z22, .ref z23, .ref z24, .ref z25, .ref z26, .ref z27, .ref z28, .ref z29, .int 0, .int 1, .int 1, .int 0])), (z22, .inl (T 0, 64, .inl (fl (-1) 64 (fun _ => 0)))), (z1, .inr (10, [.ref z5, .ref z6, .ref z7, .ref z8, .ref z9, .ref z10, .ref z11, .ref z12, .ref z13, .ref z14, .ref z15, .int 1, .int (-1), .int 0, .int (-1)]))] := hD
  refine W.widen (k := 0) (n := 0) (Nat.le_of_ble_eq_true rfl) (Nat.le_of_ble_eq_true rfl) ?_
  refine lv_if_eq (tgt := 16) hx hb dX10_chance_5 (by decide) (fun c_1257 => ?_) (fun c_1257 => ?_)
  · skip
    have c_1257 := bi_z c_1257
    refine lv_iconst (v := (-1)) hx hb dX10_chance_16 (by decide) ?_
    exact r_iret () C0 hr hlocks hS (Nat.le_of_ble_eq_true rfl) (Nat.le_of_ble_eq_true rfl) dX10_chance_17 (by first | rfl | decide +kernel | simp [bi, FO, TS, c_1257]) P_nil D_nil
  · skip
    have c_1257 := bi_nz c_1257
    obtain rfl := wi_one c_1257
    refine lv_iload_n hx hb dX10_chance_8 rfl (lv_at hl 2 rfl) ?_
    refine lv_iload_n hx hb dX10_chance_9 rfl (lv_at hl 3 rfl) ?_
    refine r_calli (wr := [(z7, .inr (0, [.ref z16, .ref z17, .ref z18, .ref z19, .ref z20, .ref z21, .int 0])), (z8, .inr (2, [.ref z22, .ref z23, .ref z24, .ref z25, .ref z26, .ref z27, .ref z28, .ref z29, .int 0, .int 1, .int 1, .int 0])), (z22, .inl (T 0, 64, .inl (fl (-1) 64 (fun _ => 0)))), (z1, .inr (10, [.ref z5, .ref z6, .ref z7, .ref z8, .ref z9, .ref z10, .ref z11, .ref z12, .ref z13, .ref z14, .ref z15, .int 1, .int (-1), .int 0, .int (-1)]))]) (r_runS (As := [.int z3, .int z4]) (rest := []) (wc := []) C0 hE (c_X10_canPress_1062 l D T H.size z3 z4) mw_538 mw_539 mw_7 mw_540 dn_537 rfl rfl ⟨Nat.le_of_ble_eq_true rfl, Nat.le_of_ble_eq_true rfl⟩ (hP.sub (ws' := []) [] rfl) (hD.sub (ws' := []) [] (by decide +kernel) rfl) hl.1 rfl (Nat.le_of_ble_eq_true rfl) dX10_chance_10 ⟨Nat.le_of_ble_eq_true rfl, Nat.le_of_ble_eq_true rfl⟩) hP hD hS hA [] [0, 1, 2, 3] rfl rfl (by decide +kernel) (by decide +kernel) (fun r1266 u H locs hq hP hD hS => ?_)
    have hq : r1266 = (bi (wi z3 0 99 && wi z4 0 99)) := hq
    subst hq
    have hP : va_P D vwCl [(z7, .inr (0, [.ref z16, .ref z17, .ref z18, .ref z19, .ref z20, .ref z21, .int 0])), (z8, .inr (2, [.ref z22, .ref z23, .ref z24, .ref z25, .ref z26, .ref z27, .ref z28, .ref z29, .int 0, .int 1, .int 1, .int 0])), (z22, .inl (T 0, 64, .inl (fl (-1) 64 (fun _ => 0)))), (z1, .inr (10, [.ref z5, .ref z6, .ref z7, .ref z8, .ref z9, .ref z10, .ref z11, .ref z12, .ref z13, .ref z14, .ref z15, .int 1, .int (-1), .int 0, .int (-1)]))] H := hP
    have hD : va_D A [(z7, .inr (0, [.ref z16, .ref z17, .ref z18, .ref z19, .ref z20, .ref z21, .int 0])), (z8, .inr (2, [.ref z22, .ref z23, .ref z24, .ref z25, .ref z26, .ref z27, .ref z28, .ref z29, .int 0, .int 1, .int 1, .int 0])), (z22, .inl (T 0, 64, .inl (fl (-1) 64 (fun _ => 0)))), (z1, .inr (10, [.ref z5, .ref z6, .ref z7, .ref z8, .ref z9, .ref z10, .ref z11, .ref z12, .ref z13, .ref z14, .ref z15, .int 1, .int (-1), .int 0, .int (-1)]))] := hD
    refine W.widen (k := 0) (n := 0) (Nat.le_of_ble_eq_true rfl) (Nat.le_of_ble_eq_true rfl) ?_
    refine lv_if_ne (tgt := 18) hx hb dX10_chance_13 (by decide) (fun c_1267 => ?_) (fun c_1267 => ?_)
    · skip
      have c_1267 := bi_nz c_1267
      refine lv_aload_n hx hb dX10_chance_18 rfl (lv_at hl 0 rfl) ?_
      refine r_callr (wr := [(z22, .inl (T 0, 64, .inl (fl (-1) 64 (fun _ => 0))))]) (r_runV (As := []) (rest := []) (wc := [(z1, .inr (10, [.ref z5, .ref z6, .ref z7, .ref z8, .ref z9, .ref z10, .ref z11, .ref z12, .ref z13, .ref z14, .ref z15, .int 1, .int (-1), .int 0, .int (-1)])), (z7, .inr (0, [.ref z16, .ref z17, .ref z18, .ref z19, .ref z20, .ref z21, .int 0])), (z8, .inr (2, [.ref z22, .ref z23, .ref z24, .ref z25, .ref z26, .ref z27, .ref z28, .ref z29, .int 0, .int 1, .int 1, .int 0]))]) (ci := 10) C0 hE (c_X10_broughtUp_1188 l D T H.size z1 z5 z6 z7 z8 z9 z10 z11 z12 z13 z14 z15 z16 z17 z18 z19 z20 z21 z22 z23 z24 z25 z26 z27 z28 z29) mw_558 mw_559 mw_560 mw_7 mw_561 dn_557 rfl rfl ⟨Nat.le_of_ble_eq_true rfl, Nat.le_of_ble_eq_true rfl⟩ (hP.sub (ws' := [(z1, .inr (10, [.ref z5, .ref z6, .ref z7, .ref z8, .ref z9, .ref z10, .ref z11, .ref z12, .ref z13, .ref z14, .ref z15, .int 1, .int (-1), .int 0, .int (-1)])), (z7, .inr (0, [.ref z16, .ref z17, .ref z18, .ref z19, .ref z20, .ref z21, .int 0])), (z8, .inr (2, [.ref z22, .ref z23, .ref z24, .ref z25, .ref z26, .ref z27, .ref z28, .ref z29, .int 0, .int 1, .int 1, .int 0]))]) [3, 0, 1] rfl) (hD.sub (ws' := [(z1, .inr (10, [.ref z5, .ref z6, .ref z7, .ref z8, .ref z9, .ref z10, .ref z11, .ref z12, .ref z13, .ref z14, .ref z15, .int 1, .int (-1), .int 0, .int (-1)])), (z7, .inr (0, [.ref z16, .ref z17, .ref z18, .ref z19, .ref z20, .ref z21, .int 0])), (z8, .inr (2, [.ref z22, .ref z23, .ref z24, .ref z25, .ref z26, .ref z27, .ref z28, .ref z29, .int 0, .int 1, .int 1, .int 0]))]) [3, 0, 1] (by decide +kernel) rfl) rfl rfl rfl hl.1 rfl (Nat.le_of_ble_eq_true rfl) dX10_chance_19 ⟨Nat.le_of_ble_eq_true rfl, Nat.le_of_ble_eq_true rfl⟩) hP hD hS hA [3, 0, 1] [2] rfl rfl (by decide +kernel) (by decide +kernel) (fun  u H locs hP hD hS => ?_)
      have hP : va_P D vwCl [(z22, .inl (T 0, 64, .inl (fl (-1) 64 (fun _ => 0)))), (z8, .inr (2, [.ref z22, .ref z23, .ref z24, .ref z25, .ref z26, .ref z27, .ref z28, .ref z29, .int 0, .int 1, .int 1, .int 0])), (z1, .inr (10, [.ref z5, .ref z6, .ref z7, .ref z8, .ref z9, .ref z10, .ref z11, .ref z12, .ref z13, .ref z14, .ref z15, .int 1, .int (-1), .int 0, .int (-1)])), (z7, .inr (0, [.ref z16, .ref z17, .ref z18, .ref z19, .ref z20, .ref z21, .int 0]))] H := hP
      have hD : va_D A [(z22, .inl (T 0, 64, .inl (fl (-1) 64 (fun _ => 0)))), (z8, .inr (2, [.ref z22, .ref z23, .ref z24, .ref z25, .ref z26, .ref z27, .ref z28, .ref z29, .int 0, .int 1, .int 1, .int 0])), (z1, .inr (10, [.ref z5, .ref z6, .ref z7, .ref z8, .ref z9, .ref z10, .ref z11, .ref z12, .ref z13, .ref z14, .ref z15, .int 1, .int (-1), .int 0, .int (-1)])), (z7, .inr (0, [.ref z16, .ref z17, .ref z18, .ref z19, .ref z20, .ref z21, .int 0]))] := hD
      refine W.eq (g2 := F0 m 22 ls [.ref z8]) rfl ?_
      refine W.widen (k := 0) (n := 0) (Nat.le_of_ble_eq_true rfl) (Nat.le_of_ble_eq_true rfl) ?_
      refine lv_astore (lv' := [(4, .ref z8), (0, .ref z1), (1, .int 0), (2, .int z3), (3, .int z4)]) hx hb dX10_chance_22 hl (by decide) rfl (fun ls hl => ?_)
      refine lv_aload hx hb dX10_chance_24 (lv_at hl 0 rfl) ?_
      refine lv_iload_n hx hb dX10_chance_26 rfl (lv_at hl 2 rfl) ?_
      refine r_calli (wr := [(z1, .inr (10, [.ref z5, .ref z6, .ref z7, .ref z8, .ref z9, .ref z10, .ref z11, .ref z12, .ref z13, .ref z14, .ref z15, .int 1, .int (-1), .int 0, .int (-1)])), (z7, .inr (0, [.ref z16, .ref z17, .ref z18, .ref z19, .ref z20, .ref z21, .int 0]))]) (r_runV (As := [.int 0]) (rest := []) (wc := [(z8, .inr (2, [.ref z22, .ref z23, .ref z24, .ref z25, .ref z26, .ref z27, .ref z28, .ref z29, .int 0, .int 1, .int 1, .int 0])), (z22, .inl (T 0, 64, .inl (fl (-1) 64 (fun _ => 0))))]) (ci := 2) C0 hE (c_X2_hasHook_1189 l D T H.size z8 z22 z23 z24 z25 z26 z27 z28 z29) mw_563 mw_564 mw_565 mw_64 mw_566 dn_562 rfl rfl ⟨Nat.le_of_ble_eq_true rfl, Nat.le_of_ble_eq_true rfl⟩ (hP.sub (ws' := [(z8, .inr (2, [.ref z22, .ref z23, .ref z24, .ref z25, .ref z26, .ref z27, .ref z28, .ref z29, .int 0, .int 1, .int 1, .int 0])), (z22, .inl (T 0, 64, .inl (fl (-1) 64 (fun _ => 0))))]) [1, 0] rfl) (hD.sub (ws' := [(z8, .inr (2, [.ref z22, .ref z23, .ref z24, .ref z25, .ref z26, .ref z27, .ref z28, .ref z29, .int 0, .int 1, .int 1, .int 0])), (z22, .inl (T 0, 64, .inl (fl (-1) 64 (fun _ => 0))))]) [1, 0] (by decide +kernel) rfl) rfl rfl rfl hl.1 rfl (Nat.le_of_ble_eq_true rfl) dX10_chance_27 ⟨Nat.le_of_ble_eq_true rfl, Nat.le_of_ble_eq_true rfl⟩) hP hD hS hA [1, 0] [2, 3] rfl rfl (by decide +kernel) (by decide +kernel) (fun r1270 u H locs hq hP hD hS => ?_)
      have hq : r1270 = 0 := hq
      subst hq
      have hP : va_P D vwCl [(z1, .inr (10, [.ref z5, .ref z6, .ref z7, .ref z8, .ref z9, .ref z10, .ref z11, .ref z12, .ref z13, .ref z14, .ref z15, .int 1, .int (-1), .int 0, .int (-1)])), (z7, .inr (0, [.ref z16, .ref z17, .ref z18, .ref z19, .ref z20, .ref z21, .int 0])), (z8, .inr (2, [.ref z22, .ref z23, .ref z24, .ref z25, .ref z26, .ref z27, .ref z28, .ref z29, .int 0, .int 1, .int 1, .int 0])), (z22, .inl (T 0, 64, .inl (fl (-1) 64 (fun _ => 0))))] H := hP
      have hD : va_D A [(z1, .inr (10, [.ref z5, .ref z6, .ref z7, .ref z8, .ref z9, .ref z10, .ref z11, .ref z12, .ref z13, .ref z14, .ref z15, .int 1, .int (-1), .int 0, .int (-1)])), (z7, .inr (0, [.ref z16, .ref z17, .ref z18, .ref z19, .ref z20, .ref z21, .int 0])), (z8, .inr (2, [.ref z22, .ref z23, .ref z24, .ref z25, .ref z26, .ref z27, .ref z28, .ref z29, .int 0, .int 1, .int 1, .int 0])), (z22, .inl (T 0, 64, .inl (fl (-1) 64 (fun _ => 0))))] := hD
      refine W.widen (k := 0) (n := 0) (Nat.le_of_ble_eq_true rfl) (Nat.le_of_ble_eq_true rfl) ?_
      refine lv_if_eq (tgt := 48) hx hb dX10_chance_30 (by decide) (fun _ => ?_) (fun hc => absurd (by decide +kernel) hc)
      refine lv_iconst (v := (-1)) hx hb dX10_chance_48 (by decide) ?_
      exact r_iret () C0 hr hlocks hS (Nat.le_of_ble_eq_true rfl) (Nat.le_of_ble_eq_true rfl) dX10_chance_49 (by first | rfl | decide +kernel | simp [bi, FO, TS, c_1257, c_1267]) P_nil D_nil
    · skip
      have c_1267 := bi_z c_1267
      refine lv_iconst (v := (-1)) hx hb dX10_chance_16 (by decide) ?_
      exact r_iret () C0 hr hlocks hS (Nat.le_of_ble_eq_true rfl) (Nat.le_of_ble_eq_true rfl) dX10_chance_17 (by first | rfl | decide +kernel | simp [bi, FO, TS, c_1257, c_1267]) P_nil D_nil
