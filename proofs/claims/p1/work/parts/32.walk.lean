set_option maxHeartbeats 4000000 in
set_option maxRecDepth 100000 in
theorem c_X10_clear_1442 (l : Launch) (D : va_G) (T : Nat → ClassId) (sz : Nat) (z1 : Nat) (z2 : Nat) (z3 : Nat) (z4 : Nat) (z5 : Nat) (z6 : Nat) (z7 : Nat) (z8 : Nat) (z9 : Nat) (z10 : Nat) (z11 : Nat) (z12 : Nat) (z13 : Nat) (z14 : Nat) (z15 : Nat) (z16 : Nat) (z17 : Nat) : Met l yX10_clear (.code yX10_clear cX10_clear 2 (some .int) :: TB) { frames := 0, cells := 0, slots := 0, locals := 0 } (PC D T [.ref z1] [(z1, .inr (10, [.ref z2, .ref z3, .ref z4, .ref z5, .ref z6, .ref z7, .ref z8, .ref z9, .ref z10, .ref z11, .ref z12, .int 1, .int (-1), .int 0, .int (-1)])), (z10, .inr (4, [.ref z13, .ref z14, .ref z15, .ref z16, .ref z17, .int 0, .int 0, .int 0, .int 0, .int 0, .int 0, .int 0, .int 0, .int 0]))] sz) (Qi (S := Unit) (fun (r : Int32) (_ : Unit) => r = 0) (fun (_ : Unit) => [(z1, .inr (10, [.ref z2, .ref z3, .ref z4, .ref z5, .ref z6, .ref z7, .ref z8, .ref z9, .ref z10, .ref z11, .ref z12, .int 1, .int (-1), .int 0, .int (-1)])), (z10, .inr (4, [.ref z13, .ref z14, .ref z15, .ref z16, .ref z17, .int 0, .int 0, .int 0, .int 0, .int 0, .int 0, .int 0, .int 0, .int 0]))]) D (va_A [(z1, .inr (10, [.ref z2, .ref z3, .ref z4, .ref z5, .ref z6, .ref z7, .ref z8, .ref z9, .ref z10, .ref z11, .ref z12, .int 1, .int (-1), .int 0, .int (-1)])), (z10, .inr (4, [.ref z13, .ref z14, .ref z15, .ref z16, .ref z17, .int 0, .int 0, .int 0, .int 0, .int 0, .int 0, .int 0, .int 0, .int 0]))] sz)) 0 0 (va_A [(z1, .inr (10, [.ref z2, .ref z3, .ref z4, .ref z5, .ref z6, .ref z7, .ref z8, .ref z9, .ref z10, .ref z11, .ref z12, .int 1, .int (-1), .int 0, .int (-1)])), (z10, .inr (4, [.ref z13, .ref z14, .ref z15, .ref z16, .ref z17, .int 0, .int 0, .int 0, .int 0, .int 0, .int 0, .int 0, .int 0, .int 0]))] sz) := by
  refine ct_begin (Qc := Qi (S := Unit) (fun (r : Int32) (_ : Unit) => r = 0) (fun (_ : Unit) => [(z1, .inr (10, [.ref z2, .ref z3, .ref z4, .ref z5, .ref z6, .ref z7, .ref z8, .ref z9, .ref z10, .ref z11, .ref z12, .int 1, .int (-1), .int 0, .int (-1)])), (z10, .inr (4, [.ref z13, .ref z14, .ref z15, .ref z16, .ref z17, .int 0, .int 0, .int 0, .int 0, .int 0, .int 0, .int 0, .int 0, .int 0]))]) D) (by decide +kernel) (Nat.le_of_ble_eq_true rfl) ?_
  intro p e s m below meth c A ls C0 hr hlocks hnm hE hA hP hD hS hl
  have hx := C0.1
  have hb := C0.2.1
  have hml := C0.2.2.1
  have hown := C0.2.2.2.1
  have hT := C0.2.2.2.2
  have hK := hE.1
  have hl : lv_has ls 2 [(0, .ref z1)] := hl
  refine lv_aload_n hx hb dX10_clear_0 rfl (lv_at hl 0 rfl) ?_
  refine r_get (v := .ref z10) C0 hE ffX10_8 mw_219 hP 0 rfl rfl dX10_clear_1 ?_
  refine r_get (v := .int 0) C0 hE ffX4_5 mw_603 hP 1 rfl rfl dX10_clear_4 ?_
  refine lv_istore_n (lv' := [(1, .int 0), (0, .ref z1)]) hx hb dX10_clear_7 rfl hl (by decide) rfl (fun ls hl => ?_)
  refine lv_aload_n hx hb dX10_clear_8 rfl (lv_at hl 1 rfl) ?_
  refine r_get (v := .ref z10) C0 hE ffX10_8 mw_219 hP 0 rfl rfl dX10_clear_9 ?_
  refine lv_iconst (v := 0) hx hb dX10_clear_12 (by decide) ?_
  refine r_put (v := .int 0) (ty := .int) (fs1 := [.ref z13, .ref z14, .ref z15, .ref z16, .ref z17, .int 0, .int 0, .int 0, .int 0, .int 0, .int 0, .int 0, .int 0, .int 0]) (ws1 := [(z1, .inr (10, [.ref z2, .ref z3, .ref z4, .ref z5, .ref z6, .ref z7, .ref z8, .ref z9, .ref z10, .ref z11, .ref z12, .int 1, .int (-1), .int 0, .int (-1)])), (z10, .inr (4, [.ref z13, .ref z14, .ref z15, .ref z16, .ref z17, .int 0, .int 0, .int 0, .int 0, .int 0, .int 0, .int 0, .int 0, .int 0]))]) C0 hE ffX4_5 tyX4 tyX4_ok nmX4 mw_603 pf_29 hP hD hS 1 rfl rfl rfl (Nat.le_of_ble_eq_true rfl) rfl rfl dX10_clear_13 (fun H locs hP hD hS => ?_)
  refine lv_aload_n hx hb dX10_clear_16 rfl (lv_at hl 1 rfl) ?_
  refine r_get (v := .ref z10) C0 hE ffX10_8 mw_219 hP 0 rfl rfl dX10_clear_17 ?_
  refine lv_iconst (v := 0) hx hb dX10_clear_20 (by decide) ?_
  refine r_put (v := .int 0) (ty := .int) (fs1 := [.ref z13, .ref z14, .ref z15, .ref z16, .ref z17, .int 0, .int 0, .int 0, .int 0, .int 0, .int 0, .int 0, .int 0, .int 0]) (ws1 := [(z1, .inr (10, [.ref z2, .ref z3, .ref z4, .ref z5, .ref z6, .ref z7, .ref z8, .ref z9, .ref z10, .ref z11, .ref z12, .int 1, .int (-1), .int 0, .int (-1)])), (z10, .inr (4, [.ref z13, .ref z14, .ref z15, .ref z16, .ref z17, .int 0, .int 0, .int 0, .int 0, .int 0, .int 0, .int 0, .int 0, .int 0]))]) C0 hE ffX4_6 tyX4 tyX4_ok nmX4 mw_604 pf_29 hP hD hS 1 rfl rfl rfl (Nat.le_of_ble_eq_true rfl) rfl rfl dX10_clear_21 (fun H locs hP hD hS => ?_)
  refine lv_iload_n hx hb dX10_clear_24 rfl (lv_at hl 0 rfl) ?_
  exact r_iret () C0 hr hlocks hS (Nat.le_of_ble_eq_true rfl) (Nat.le_of_ble_eq_true rfl) dX10_clear_25 rfl hP hD
set_option maxHeartbeats 4000000 in
set_option maxRecDepth 100000 in
theorem c_X10_within_1451 (l : Launch) (D : va_G) (T : Nat → ClassId) (sz : Nat) (z1 : Int32) : Met l yX10_within (.code yX10_within cX10_within 3 (some .boolean) :: TB) { frames := 0, cells := 0, slots := 0, locals := 0 } (PC D T [.int z1, .int 0, .int 20000] [] sz) (Qi (S := Unit) (fun (r : Int32) (_ : Unit) => r = (bi (wi z1 0 20000))) (fun (_ : Unit) => []) D (va_A [] sz)) 0 0 (va_A [] sz) := by
  refine ct_begin (Qc := Qi (S := Unit) (fun (r : Int32) (_ : Unit) => r = (bi (wi z1 0 20000))) (fun (_ : Unit) => []) D) (by decide +kernel) (Nat.le_of_ble_eq_true rfl) ?_
  intro p e s m below meth c A ls C0 hr hlocks hnm hE hA hP hD hS hl
  have hx := C0.1
  have hb := C0.2.1
  have hml := C0.2.2.1
  have hown := C0.2.2.2.1
  have hT := C0.2.2.2.2
  have hK := hE.1
  have hl : lv_has ls 3 [(0, .int z1), (1, .int 0), (2, .int 20000)] := hl
  refine lv_iload_n hx hb dX10_within_0 rfl (lv_at hl 0 rfl) ?_
  refine lv_iload_n hx hb dX10_within_1 rfl (lv_at hl 1 rfl) ?_
  refine lv_icmp_lt (tgt := 14) hx hb dX10_within_2 (by decide) (fun c_1449 => ?_) (fun c_1449 => ?_)
  · skip
    refine lv_iconst (v := 0) hx hb dX10_within_14 (by decide) ?_
    exact r_zret () C0 hr (by decide +kernel) hlocks hS (Nat.le_of_ble_eq_true rfl) (Nat.le_of_ble_eq_true rfl) dX10_within_15 (wi_a c_1449) P_nil D_nil
  · skip
    refine lv_iload_n hx hb dX10_within_5 rfl (lv_at hl 0 rfl) ?_
    refine lv_iload_n hx hb dX10_within_6 rfl (lv_at hl 2 rfl) ?_
    refine lv_icmp_gt (tgt := 14) hx hb dX10_within_7 (by decide) (fun c_1450 => ?_) (fun c_1450 => ?_)
    · skip
      refine lv_iconst (v := 0) hx hb dX10_within_14 (by decide) ?_
      exact r_zret () C0 hr (by decide +kernel) hlocks hS (Nat.le_of_ble_eq_true rfl) (Nat.le_of_ble_eq_true rfl) dX10_within_15 (wi_b c_1450) P_nil D_nil
    · skip
      refine lv_iconst (v := 1) hx hb dX10_within_10 (by decide) ?_
      refine lv_goto (tgt := 15) hx hb dX10_within_11 (by decide) ?_
      exact r_zret () C0 hr (by decide +kernel) hlocks hS (Nat.le_of_ble_eq_true rfl) (Nat.le_of_ble_eq_true rfl) dX10_within_15 (wi_c c_1449 c_1450) P_nil D_nil
set_option maxHeartbeats 4000000 in
set_option maxRecDepth 100000 in
theorem c_X4_holdsAll_1454 (l : Launch) (D : va_G) (T : Nat → ClassId) (sz : Nat) (z1 : Nat) (z2 : Nat) (z3 : Nat) (z4 : Nat) (z5 : Nat) (z6 : Nat) (z7 : Int32) (z8 : Int32) : Met l yX4_holdsAll (.code yX4_holdsAll cX4_holdsAll 3 (some .boolean) :: TB) { frames := 0, cells := 0, slots := 0, locals := 0 } (PC D T [.ref z1, .int 0] [(z1, .inr (4, [.ref z2, .ref z3, .ref z4, .ref z5, .ref z6, .int 0, .int 0, .int 0, .int 0, .int z7, .int z8, .int 1000000, .int 0, .int (-1)]))] sz) (Qi (S := Unit) (fun (r : Int32) (_ : Unit) => r = 1) (fun (_ : Unit) => [(z1, .inr (4, [.ref z2, .ref z3, .ref z4, .ref z5, .ref z6, .int 0, .int 0, .int 0, .int 0, .int z7, .int z8, .int 1000000, .int 0, .int (-1)]))]) D (va_A [(z1, .inr (4, [.ref z2, .ref z3, .ref z4, .ref z5, .ref z6, .int 0, .int 0, .int 0, .int 0, .int z7, .int z8, .int 1000000, .int 0, .int (-1)]))] sz)) 0 0 (va_A [(z1, .inr (4, [.ref z2, .ref z3, .ref z4, .ref z5, .ref z6, .int 0, .int 0, .int 0, .int 0, .int z7, .int z8, .int 1000000, .int 0, .int (-1)]))] sz) := by
  refine ct_begin (Qc := Qi (S := Unit) (fun (r : Int32) (_ : Unit) => r = 1) (fun (_ : Unit) => [(z1, .inr (4, [.ref z2, .ref z3, .ref z4, .ref z5, .ref z6, .int 0, .int 0, .int 0, .int 0, .int z7, .int z8, .int 1000000, .int 0, .int (-1)]))]) D) (by decide +kernel) (Nat.le_of_ble_eq_true rfl) ?_
  intro p e s m below meth c A ls C0 hr hlocks hnm hE hA hP hD hS hl
  have hx := C0.1
  have hb := C0.2.1
  have hml := C0.2.2.1
  have hown := C0.2.2.2.1
  have hT := C0.2.2.2.2
  have hK := hE.1
  have hl : lv_has ls 3 [(0, .ref z1), (1, .int 0)] := hl
  refine lv_iconst (v := 0) hx hb dX4_holdsAll_0 (by decide) ?_
  refine lv_istore_n (lv' := [(2, .int 0), (0, .ref z1), (1, .int 0)]) hx hb dX4_holdsAll_1 rfl hl (by decide) rfl (fun ls hl => ?_)
  refine lv_iload_n hx hb dX4_holdsAll_2 rfl (lv_at hl 0 rfl) ?_
  refine lv_aload_n hx hb dX4_holdsAll_3 rfl (lv_at hl 1 rfl) ?_
  refine r_get (v := .int 0) C0 hE ffX4_6 mw_210 hP 0 rfl rfl dX4_holdsAll_4 ?_
  refine lv_icmp_ge (tgt := 27) hx hb dX4_holdsAll_7 (by decide) (fun _ => ?_) (fun hc => absurd (by decide +kernel) hc)
  refine lv_iconst (v := 1) hx hb dX4_holdsAll_27 (by decide) ?_
  exact r_zret () C0 hr (by decide +kernel) hlocks hS (Nat.le_of_ble_eq_true rfl) (Nat.le_of_ble_eq_true rfl) dX4_holdsAll_28 rfl hP hD
set_option maxHeartbeats 4000000 in
set_option maxRecDepth 100000 in
theorem c_X4_search_1456 (l : Launch) (D : va_G) (T : Nat → ClassId) (sz : Nat) (z1 : Nat) (z2 : Nat) (z3 : Nat) (z4 : Nat) (z5 : Nat) (z6 : Nat) (z7 : Int32) (z8 : Int32) (ho : ¬ z8 < 0) : Met l yX4_search (.code yX4_search cX4_search 7 none :: TB) { frames := 0, cells := 0, slots := 0, locals := 0 } (PC D T [.ref z1, .int 0, .int 0, .int 0, .int 0, .int 0] [(z1, .inr (4, [.ref z2, .ref z3, .ref z4, .ref z5, .ref z6, .int 0, .int 0, .int 0, .int 0, .int z7, .int z8, .int 1000000, .int 0, .int (-1)]))] sz) (Qv (S := Unit) (fun (_ : Unit) => [(z1, .inr (4, [.ref z2, .ref z3, .ref z4, .ref z5, .ref z6, .int 0, .int 0, .int 0, .int 0, .int z7, .int z8, .int 0, .int 0, .int 0]))]) D (va_A [(z1, .inr (4, [.ref z2, .ref z3, .ref z4, .ref z5, .ref z6, .int 0, .int 0, .int 0, .int 0, .int z7, .int z8, .int 1000000, .int 0, .int (-1)]))] sz)) 0 0 (va_A [(z1, .inr (4, [.ref z2, .ref z3, .ref z4, .ref z5, .ref z6, .int 0, .int 0, .int 0, .int 0, .int z7, .int z8, .int 1000000, .int 0, .int (-1)]))] sz) := by
  refine ct_begin (Qc := Qv (S := Unit) (fun (_ : Unit) => [(z1, .inr (4, [.ref z2, .ref z3, .ref z4, .ref z5, .ref z6, .int 0, .int 0, .int 0, .int 0, .int z7, .int z8, .int 0, .int 0, .int 0]))]) D) (by decide +kernel) (Nat.le_of_ble_eq_true rfl) ?_
  intro p e s m below meth c A ls C0 hr hlocks hnm hE hA hP hD hS hl
  have hx := C0.1
  have hb := C0.2.1
  have hml := C0.2.2.1
  have hown := C0.2.2.2.1
  have hT := C0.2.2.2.2
  have hK := hE.1
  have hl : lv_has ls 7 [(0, .ref z1), (1, .int 0), (2, .int 0), (3, .int 0), (4, .int 0), (5, .int 0)] := hl
  refine lv_iload hx hb dX4_search_0 (lv_at hl 5 rfl) ?_
  refine lv_aload_n hx hb dX4_search_2 rfl (lv_at hl 0 rfl) ?_
  refine r_get (v := .int z8) C0 hE ffX4_10 mw_607 hP 0 rfl rfl dX4_search_3 ?_
  refine lv_icmp_gt (tgt := 34) hx hb dX4_search_6 (by decide) (fun hc => absurd hc ho) (fun _ => ?_)
  refine lv_iload_n hx hb dX4_search_9 rfl (lv_at hl 3 rfl) ?_
  refine lv_aload_n hx hb dX4_search_10 rfl (lv_at hl 0 rfl) ?_
  refine r_get (v := .int 1000000) C0 hE ffX4_11 mw_610 hP 0 rfl rfl dX4_search_11 ?_
  refine lv_icmp_gt (tgt := 34) hx hb dX4_search_14 (by decide) (fun hc => absurd hc (by decide +kernel)) (fun _ => ?_)
  refine lv_iload_n hx hb dX4_search_17 rfl (lv_at hl 3 rfl) ?_
  refine lv_aload_n hx hb dX4_search_18 rfl (lv_at hl 0 rfl) ?_
  refine r_get (v := .int 1000000) C0 hE ffX4_11 mw_610 hP 0 rfl rfl dX4_search_19 ?_
  refine lv_icmp_ne (tgt := 35) hx hb dX4_search_22 (by decide) (fun _ => ?_) (fun hc => absurd hc (by decide +kernel))
  refine lv_iload_n hx hb dX4_search_35 rfl (lv_at hl 1 rfl) ?_
  refine lv_aload_n hx hb dX4_search_36 rfl (lv_at hl 0 rfl) ?_
  refine r_get (v := .int 0) C0 hE ffX4_5 mw_208 hP 0 rfl rfl dX4_search_37 ?_
  refine lv_icmp_lt (tgt := 60) hx hb dX4_search_40 (by decide) (fun hc => absurd hc (by decide +kernel)) (fun _ => ?_)
  refine lv_aload_n hx hb dX4_search_43 rfl (lv_at hl 0 rfl) ?_
  refine lv_iload_n hx hb dX4_search_44 rfl (lv_at hl 3 rfl) ?_
  refine r_put (v := .int 0) (ty := .int) (fs1 := [.ref z2, .ref z3, .ref z4, .ref z5, .ref z6, .int 0, .int 0, .int 0, .int 0, .int z7, .int z8, .int 0, .int 0, .int (-1)]) (ws1 := [(z1, .inr (4, [.ref z2, .ref z3, .ref z4, .ref z5, .ref z6, .int 0, .int 0, .int 0, .int 0, .int z7, .int z8, .int 0, .int 0, .int (-1)]))]) C0 hE ffX4_11 tyX4 tyX4_ok nmX4 mw_610 pf_29 hP hD hS 0 rfl rfl rfl (Nat.le_of_ble_eq_true rfl) rfl rfl dX4_search_45 (fun H locs hP hD hS => ?_)
  refine lv_aload_n hx hb dX4_search_48 rfl (lv_at hl 0 rfl) ?_
  refine lv_iload hx hb dX4_search_49 (lv_at hl 4 rfl) ?_
  refine r_put (v := .int 0) (ty := .int) (fs1 := [.ref z2, .ref z3, .ref z4, .ref z5, .ref z6, .int 0, .int 0, .int 0, .int 0, .int z7, .int z8, .int 0, .int 0, .int (-1)]) (ws1 := [(z1, .inr (4, [.ref z2, .ref z3, .ref z4, .ref z5, .ref z6, .int 0, .int 0, .int 0, .int 0, .int z7, .int z8, .int 0, .int 0, .int (-1)]))]) C0 hE ffX4_12 tyX4 tyX4_ok nmX4 mw_612 pf_29 hP hD hS 0 rfl rfl rfl (Nat.le_of_ble_eq_true rfl) rfl rfl dX4_search_51 (fun H locs hP hD hS => ?_)
  refine lv_aload_n hx hb dX4_search_54 rfl (lv_at hl 0 rfl) ?_
  refine lv_iload_n hx hb dX4_search_55 rfl (lv_at hl 2 rfl) ?_
  refine r_put (v := .int 0) (ty := .int) (fs1 := [.ref z2, .ref z3, .ref z4, .ref z5, .ref z6, .int 0, .int 0, .int 0, .int 0, .int z7, .int z8, .int 0, .int 0, .int 0]) (ws1 := [(z1, .inr (4, [.ref z2, .ref z3, .ref z4, .ref z5, .ref z6, .int 0, .int 0, .int 0, .int 0, .int z7, .int z8, .int 0, .int 0, .int 0]))]) C0 hE ffX4_13 tyX4 tyX4_ok nmX4 mw_614 pf_29 hP hD hS 0 rfl rfl rfl (Nat.le_of_ble_eq_true rfl) rfl rfl dX4_search_56 (fun H locs hP hD hS => ?_)
  exact r_vret () C0 hr hlocks hS (Nat.le_of_ble_eq_true rfl) (Nat.le_of_ble_eq_true rfl) dX4_search_59 hP hD
set_option maxHeartbeats 4000000 in
set_option maxRecDepth 100000 in
theorem c_X4_pick_1458 (l : Launch) (D : va_G) (T : Nat → ClassId) (sz : Nat) (z1 : Nat) (z2 : Int32) (z3 : Int32) (z4 : Nat) (z5 : Nat) (z6 : Nat) (z7 : Nat) (z8 : Nat) (ho : ¬ z3 < 0) : Met l yX4_pick (.code yX4_pick cX4_pick 4 (some .int) :: TB) { frames := 1, cells := 0, slots := 0, locals := 26 } (PC D T [.ref z1, .int z2, .int z3] [(z1, .inr (4, [.ref z4, .ref z5, .ref z6, .ref z7, .ref z8, .int 0, .int 0, .int 0, .int 0, .int 0, .int 0, .int 0, .int 0, .int 0]))] sz) (Qi (S := Unit) (fun (r : Int32) (_ : Unit) => r = 0) (fun (_ : Unit) => [(z1, .inr (4, [.ref z4, .ref z5, .ref z6, .ref z7, .ref z8, .int 0, .int 0, .int 0, .int 0, .int z2, .int z3, .int 0, .int 0, .int 0]))]) D (va_A [(z1, .inr (4, [.ref z4, .ref z5, .ref z6, .ref z7, .ref z8, .int 0, .int 0, .int 0, .int 0, .int 0, .int 0, .int 0, .int 0, .int 0]))] sz)) 0 0 (va_A [(z1, .inr (4, [.ref z4, .ref z5, .ref z6, .ref z7, .ref z8, .int 0, .int 0, .int 0, .int 0, .int 0, .int 0, .int 0, .int 0, .int 0]))] sz) := by
  refine ct_begin (Qc := Qi (S := Unit) (fun (r : Int32) (_ : Unit) => r = 0) (fun (_ : Unit) => [(z1, .inr (4, [.ref z4, .ref z5, .ref z6, .ref z7, .ref z8, .int 0, .int 0, .int 0, .int 0, .int z2, .int z3, .int 0, .int 0, .int 0]))]) D) (by decide +kernel) (Nat.le_of_ble_eq_true rfl) ?_
  intro p e s m below meth c A ls C0 hr hlocks hnm hE hA hP hD hS hl
  have hx := C0.1
  have hb := C0.2.1
  have hml := C0.2.2.1
  have hown := C0.2.2.2.1
  have hT := C0.2.2.2.2
  have hK := hE.1
  have hl : lv_has ls 4 [(0, .ref z1), (1, .int z2), (2, .int z3)] := hl
  refine lv_aload_n hx hb dX4_pick_0 rfl (lv_at hl 0 rfl) ?_
  refine lv_iload_n hx hb dX4_pick_1 rfl (lv_at hl 1 rfl) ?_
  refine r_put (v := .int z2) (ty := .int) (fs1 := [.ref z4, .ref z5, .ref z6, .ref z7, .ref z8, .int 0, .int 0, .int 0, .int 0, .int z2, .int 0, .int 0, .int 0, .int 0]) (ws1 := [(z1, .inr (4, [.ref z4, .ref z5, .ref z6, .ref z7, .ref z8, .int 0, .int 0, .int 0, .int 0, .int z2, .int 0, .int 0, .int 0, .int 0]))]) C0 hE ffX4_9 tyX4 tyX4_ok nmX4 mw_605 pf_29 hP hD hS 0 rfl rfl rfl (Nat.le_of_ble_eq_true rfl) rfl rfl dX4_pick_2 (fun H locs hP hD hS => ?_)
  refine lv_aload_n hx hb dX4_pick_5 rfl (lv_at hl 0 rfl) ?_
  refine lv_iload_n hx hb dX4_pick_6 rfl (lv_at hl 2 rfl) ?_
  refine r_put (v := .int z3) (ty := .int) (fs1 := [.ref z4, .ref z5, .ref z6, .ref z7, .ref z8, .int 0, .int 0, .int 0, .int 0, .int z2, .int z3, .int 0, .int 0, .int 0]) (ws1 := [(z1, .inr (4, [.ref z4, .ref z5, .ref z6, .ref z7, .ref z8, .int 0, .int 0, .int 0, .int 0, .int z2, .int z3, .int 0, .int 0, .int 0]))]) C0 hE ffX4_10 tyX4 tyX4_ok nmX4 mw_607 pf_29 hP hD hS 0 rfl rfl rfl (Nat.le_of_ble_eq_true rfl) rfl rfl dX4_pick_7 (fun H locs hP hD hS => ?_)
  refine lv_aload_n hx hb dX4_pick_10 rfl (lv_at hl 0 rfl) ?_
  refine lv_ldc hx hb hown (hT _ mw_609) dX4_pick_11 ?_
  refine r_put (v := .int 1000000) (ty := .int) (fs1 := [.ref z4, .ref z5, .ref z6, .ref z7, .ref z8, .int 0, .int 0, .int 0, .int 0, .int z2, .int z3, .int 1000000, .int 0, .int 0]) (ws1 := [(z1, .inr (4, [.ref z4, .ref z5, .ref z6, .ref z7, .ref z8, .int 0, .int 0, .int 0, .int 0, .int z2, .int z3, .int 1000000, .int 0, .int 0]))]) C0 hE ffX4_11 tyX4 tyX4_ok nmX4 mw_610 pf_29 hP hD hS 0 rfl rfl rfl (Nat.le_of_ble_eq_true rfl) rfl rfl dX4_pick_13 (fun H locs hP hD hS => ?_)
  refine lv_aload_n hx hb dX4_pick_16 rfl (lv_at hl 0 rfl) ?_
  refine lv_iconst (v := 0) hx hb dX4_pick_17 (by decide) ?_
  refine r_put (v := .int 0) (ty := .int) (fs1 := [.ref z4, .ref z5, .ref z6, .ref z7, .ref z8, .int 0, .int 0, .int 0, .int 0, .int z2, .int z3, .int 1000000, .int 0, .int 0]) (ws1 := [(z1, .inr (4, [.ref z4, .ref z5, .ref z6, .ref z7, .ref z8, .int 0, .int 0, .int 0, .int 0, .int z2, .int z3, .int 1000000, .int 0, .int 0]))]) C0 hE ffX4_12 tyX4 tyX4_ok nmX4 mw_612 pf_29 hP hD hS 0 rfl rfl rfl (Nat.le_of_ble_eq_true rfl) rfl rfl dX4_pick_18 (fun H locs hP hD hS => ?_)
  refine lv_aload_n hx hb dX4_pick_21 rfl (lv_at hl 0 rfl) ?_
  refine lv_iconst (v := (-1)) hx hb dX4_pick_22 (by decide) ?_
  refine r_put (v := .int (-1)) (ty := .int) (fs1 := [.ref z4, .ref z5, .ref z6, .ref z7, .ref z8, .int 0, .int 0, .int 0, .int 0, .int z2, .int z3, .int 1000000, .int 0, .int (-1)]) (ws1 := [(z1, .inr (4, [.ref z4, .ref z5, .ref z6, .ref z7, .ref z8, .int 0, .int 0, .int 0, .int 0, .int z2, .int z3, .int 1000000, .int 0, .int (-1)]))]) C0 hE ffX4_13 tyX4 tyX4_ok nmX4 mw_614 pf_29 hP hD hS 0 rfl rfl rfl (Nat.le_of_ble_eq_true rfl) rfl rfl dX4_pick_23 (fun H locs hP hD hS => ?_)
  refine lv_iconst (v := 1) hx hb dX4_pick_26 (by decide) ?_
  refine lv_aload_n hx hb dX4_pick_27 rfl (lv_at hl 0 rfl) ?_
  refine r_get (v := .int 0) C0 hE ffX4_5 mw_208 hP 0 rfl rfl dX4_pick_28 ?_
  refine lv_ishl hx hb dX4_pick_31 ?_
  refine r_ci (v := 1) (by decide +kernel) ?_
  refine lv_iconst (v := 1) hx hb dX4_pick_32 (by decide) ?_
  refine lv_isub hx hb dX4_pick_33 ?_
  refine r_ci (v := 0) (by decide +kernel) ?_
  refine lv_istore_n (lv' := [(3, .int 0), (0, .ref z1), (1, .int z2), (2, .int z3)]) hx hb dX4_pick_34 rfl hl (by decide) rfl (fun ls hl => ?_)
  refine lv_aload_n hx hb dX4_pick_35 rfl (lv_at hl 1 rfl) ?_
  refine lv_iload_n hx hb dX4_pick_36 rfl (lv_at hl 0 rfl) ?_
  refine r_calli (wr := []) (r_runV (As := [.int 0]) (rest := []) (wc := [(z1, .inr (4, [.ref z4, .ref z5, .ref z6, .ref z7, .ref z8, .int 0, .int 0, .int 0, .int 0, .int z2, .int z3, .int 1000000, .int 0, .int (-1)]))]) (ci := 4) C0 hE (c_X4_holdsAll_1454 l D T H.size z1 z4 z5 z6 z7 z8 z2 z3) mw_617 mw_618 mw_619 mw_196 mw_620 dn_616 rfl rfl ⟨Nat.le_of_ble_eq_true rfl, Nat.le_of_ble_eq_true rfl⟩ (hP.sub (ws' := [(z1, .inr (4, [.ref z4, .ref z5, .ref z6, .ref z7, .ref z8, .int 0, .int 0, .int 0, .int 0, .int z2, .int z3, .int 1000000, .int 0, .int (-1)]))]) [0] rfl) (hD.sub (ws' := [(z1, .inr (4, [.ref z4, .ref z5, .ref z6, .ref z7, .ref z8, .int 0, .int 0, .int 0, .int 0, .int z2, .int z3, .int 1000000, .int 0, .int (-1)]))]) [0] (by decide +kernel) rfl) rfl rfl rfl hl.1 rfl (Nat.le_of_ble_eq_true rfl) dX4_pick_37 ⟨Nat.le_of_ble_eq_true rfl, Nat.le_of_ble_eq_true rfl⟩) hP hD hS hA [0] [] rfl rfl (by decide +kernel) (by decide +kernel) (fun r1457 u H locs hq hP hD hS => ?_)
  have hq : r1457 = 1 := hq
  subst hq
  have hP : va_P D vwCl [(z1, .inr (4, [.ref z4, .ref z5, .ref z6, .ref z7, .ref z8, .int 0, .int 0, .int 0, .int 0, .int z2, .int z3, .int 1000000, .int 0, .int (-1)]))] H := hP
  have hD : va_D A [(z1, .inr (4, [.ref z4, .ref z5, .ref z6, .ref z7, .ref z8, .int 0, .int 0, .int 0, .int 0, .int z2, .int z3, .int 1000000, .int 0, .int (-1)]))] := hD
  refine W.widen (k := 0) (n := 0) (Nat.le_of_ble_eq_true rfl) (Nat.le_of_ble_eq_true rfl) ?_
  refine lv_if_eq (tgt := 52) hx hb dX4_pick_40 (by decide) (fun hc => absurd hc (by decide +kernel)) (fun _ => ?_)
  refine lv_aload_n hx hb dX4_pick_43 rfl (lv_at hl 1 rfl) ?_
  refine lv_iconst (v := 0) hx hb dX4_pick_44 (by decide) ?_
  refine lv_iload_n hx hb dX4_pick_45 rfl (lv_at hl 0 rfl) ?_
  refine lv_iconst (v := 0) hx hb dX4_pick_46 (by decide) ?_
  refine lv_iconst (v := 0) hx hb dX4_pick_47 (by decide) ?_
  refine lv_iconst (v := 0) hx hb dX4_pick_48 (by decide) ?_
  refine r_callv (wr := []) (r_runV (As := [.int 0, .int 0, .int 0, .int 0, .int 0]) (rest := []) (wc := [(z1, .inr (4, [.ref z4, .ref z5, .ref z6, .ref z7, .ref z8, .int 0, .int 0, .int 0, .int 0, .int z2, .int z3, .int 1000000, .int 0, .int (-1)]))]) (ci := 4) C0 hE (c_X4_search_1456 l D T H.size z1 z4 z5 z6 z7 z8 z2 z3 ho) mw_622 mw_623 mw_624 mw_196 mw_625 dn_621 rfl rfl ⟨Nat.le_of_ble_eq_true rfl, Nat.le_of_ble_eq_true rfl⟩ (hP.sub (ws' := [(z1, .inr (4, [.ref z4, .ref z5, .ref z6, .ref z7, .ref z8, .int 0, .int 0, .int 0, .int 0, .int z2, .int z3, .int 1000000, .int 0, .int (-1)]))]) [0] rfl) (hD.sub (ws' := [(z1, .inr (4, [.ref z4, .ref z5, .ref z6, .ref z7, .ref z8, .int 0, .int 0, .int 0, .int 0, .int z2, .int z3, .int 1000000, .int 0, .int (-1)]))]) [0] (by decide +kernel) rfl) rfl rfl rfl hl.1 rfl (Nat.le_of_ble_eq_true rfl) dX4_pick_49 ⟨Nat.le_of_ble_eq_true rfl, Nat.le_of_ble_eq_true rfl⟩) hP hD hS hA [0] [] rfl rfl (by decide +kernel) (by decide +kernel) (fun  u H locs hP hD hS => ?_)
  have hP : va_P D vwCl [(z1, .inr (4, [.ref z4, .ref z5, .ref z6, .ref z7, .ref z8, .int 0, .int 0, .int 0, .int 0, .int z2, .int z3, .int 0, .int 0, .int 0]))] H := hP
  have hD : va_D A [(z1, .inr (4, [.ref z4, .ref z5, .ref z6, .ref z7, .ref z8, .int 0, .int 0, .int 0, .int 0, .int z2, .int z3, .int 0, .int 0, .int 0]))] := hD
  refine W.widen (k := 0) (n := 0) (Nat.le_of_ble_eq_true rfl) (Nat.le_of_ble_eq_true rfl) ?_
  refine lv_aload_n hx hb dX4_pick_52 rfl (lv_at hl 1 rfl) ?_
  refine r_get (v := .int 0) C0 hE ffX4_13 mw_614 hP 0 rfl rfl dX4_pick_53 ?_
  refine lv_iconst (v := (-1)) hx hb dX4_pick_56 (by decide) ?_
  refine lv_icmp_ne (tgt := 62) hx hb dX4_pick_57 (by decide) (fun _ => ?_) (fun hc => absurd hc (by decide +kernel))
  refine lv_aload_n hx hb dX4_pick_62 rfl (lv_at hl 1 rfl) ?_
  refine lv_aload_n hx hb dX4_pick_63 rfl (lv_at hl 1 rfl) ?_
  refine r_get (v := .int 0) C0 hE ffX4_13 mw_614 hP 0 rfl rfl dX4_pick_64 ?_
  refine r_put (v := .int 0) (ty := .int) (fs1 := [.ref z4, .ref z5, .ref z6, .ref z7, .ref z8, .int 0, .int 0, .int 0, .int 0, .int z2, .int z3, .int 0, .int 0, .int 0]) (ws1 := [(z1, .inr (4, [.ref z4, .ref z5, .ref z6, .ref z7, .ref z8, .int 0, .int 0, .int 0, .int 0, .int z2, .int z3, .int 0, .int 0, .int 0]))]) C0 hE ffX4_7 tyX4 tyX4_ok nmX4 mw_212 pf_29 hP hD hS 0 rfl rfl rfl (Nat.le_of_ble_eq_true rfl) rfl rfl dX4_pick_67 (fun H locs hP hD hS => ?_)
  refine lv_aload_n hx hb dX4_pick_70 rfl (lv_at hl 1 rfl) ?_
  refine lv_aload_n hx hb dX4_pick_71 rfl (lv_at hl 1 rfl) ?_
  refine r_get (v := .int 0) C0 hE ffX4_5 mw_208 hP 0 rfl rfl dX4_pick_72 ?_
  refine r_put (v := .int 0) (ty := .int) (fs1 := [.ref z4, .ref z5, .ref z6, .ref z7, .ref z8, .int 0, .int 0, .int 0, .int 0, .int z2, .int z3, .int 0, .int 0, .int 0]) (ws1 := [(z1, .inr (4, [.ref z4, .ref z5, .ref z6, .ref z7, .ref z8, .int 0, .int 0, .int 0, .int 0, .int z2, .int z3, .int 0, .int 0, .int 0]))]) C0 hE ffX4_8 tyX4 tyX4_ok nmX4 mw_214 pf_29 hP hD hS 0 rfl rfl rfl (Nat.le_of_ble_eq_true rfl) rfl rfl dX4_pick_75 (fun H locs hP hD hS => ?_)
  refine lv_aload_n hx hb dX4_pick_78 rfl (lv_at hl 1 rfl) ?_
  refine r_get (v := .int 0) C0 hE ffX4_11 mw_610 hP 0 rfl rfl dX4_pick_79 ?_
  exact r_iret () C0 hr hlocks hS (Nat.le_of_ble_eq_true rfl) (Nat.le_of_ble_eq_true rfl) dX4_pick_82 rfl hP hD
set_option maxHeartbeats 4000000 in
set_option maxRecDepth 100000 in
theorem c_X10_choose_1470 (l : Launch) (D : va_G) (T : Nat → ClassId) (sz : Nat) (z1 : Nat) (z2 : Int32) (z3 : Int32) (z4 : Nat) (z5 : Nat) (z6 : Nat) (z7 : Nat) (z8 : Nat) (z9 : Nat) (z10 : Nat) (z11 : Nat) (z12 : Nat) (z13 : Nat) (z14 : Nat) (z15 : Nat) (z16 : Nat) (z17 : Nat) (z18 : Nat) (z19 : Nat) : Met l yX10_choose (.code yX10_choose cX10_choose 3 (some .int) :: TB) { frames := 2, cells := 0, slots := 0, locals := 49 } (PC D T [.ref z1, .int z2, .int z3] [(z1, .inr (10, [.ref z4, .ref z5, .ref z6, .ref z7, .ref z8, .ref z9, .ref z10, .ref z11, .ref z12, .ref z13, .ref z14, .int 1, .int (-1), .int 0, .int (-1)])), (z12, .inr (4, [.ref z15, .ref z16, .ref z17, .ref z18, .ref z19, .int 0, .int 0, .int 0, .int 0, .int 0, .int 0, .int 0, .int 0, .int 0]))] sz) (Qi (S := Unit) (fun (r : Int32) (_ : Unit) => r = (if (wi z2 0 99 && wi z3 0 20000) = true then 0 else (-1))) (fun (_ : Unit) => []) D (va_A [(z1, .inr (10, [.ref z4, .ref z5, .ref z6, .ref z7, .ref z8, .ref z9, .ref z10, .ref z11, .ref z12, .ref z13, .ref z14, .int 1, .int (-1), .int 0, .int (-1)])), (z12, .inr (4, [.ref z15, .ref z16, .ref z17, .ref z18, .ref z19, .int 0, .int 0, .int 0, .int 0, .int 0, .int 0, .int 0, .int 0, .int 0]))] sz)) 0 0 (va_A [(z1, .inr (10, [.ref z4, .ref z5, .ref z6, .ref z7, .ref z8, .ref z9, .ref z10, .ref z11, .ref z12, .ref z13, .ref z14, .int 1, .int (-1), .int 0, .int (-1)])), (z12, .inr (4, [.ref z15, .ref z16, .ref z17, .ref z18, .ref z19, .int 0, .int 0, .int 0, .int 0, .int 0, .int 0, .int 0, .int 0, .int 0]))] sz) := by
  refine ct_begin (Qc := Qi (S := Unit) (fun (r : Int32) (_ : Unit) => r = (if (wi z2 0 99 && wi z3 0 20000) = true then 0 else (-1))) (fun (_ : Unit) => []) D) (by decide +kernel) (Nat.le_of_ble_eq_true rfl) ?_
  intro p e s m below meth c A ls C0 hr hlocks hnm hE hA hP hD hS hl
  have hx := C0.1
  have hb := C0.2.1
  have hml := C0.2.2.1
  have hown := C0.2.2.2.1
  have hT := C0.2.2.2.2
  have hK := hE.1
  have hl : lv_has ls 3 [(0, .ref z1), (1, .int z2), (2, .int z3)] := hl
  refine lv_iload_n hx hb dX10_choose_0 rfl (lv_at hl 1 rfl) ?_
  refine lv_iconst (v := 0) hx hb dX10_choose_1 (by decide) ?_
  refine lv_bipush (v := 99) hx hb dX10_choose_2 (by decide) ?_
  refine r_calli (wr := [(z1, .inr (10, [.ref z4, .ref z5, .ref z6, .ref z7, .ref z8, .ref z9, .ref z10, .ref z11, .ref z12, .ref z13, .ref z14, .int 1, .int (-1), .int 0, .int (-1)])), (z12, .inr (4, [.ref z15, .ref z16, .ref z17, .ref z18, .ref z19, .int 0, .int 0, .int 0, .int 0, .int 0, .int 0, .int 0, .int 0, .int 0]))]) (r_runS (As := [.int z2, .int 0, .int 99]) (rest := []) (wc := []) C0 hE (c_X10_within_1047 l D T s.heap.size z2) mw_483 mw_484 mw_7 mw_485 dn_482 rfl rfl ⟨Nat.le_of_ble_eq_true rfl, Nat.le_of_ble_eq_true rfl⟩ (hP.sub (ws' := []) [] rfl) (hD.sub (ws' := []) [] (by decide +kernel) rfl) hl.1 rfl (Nat.le_of_ble_eq_true rfl) dX10_choose_4 ⟨Nat.le_of_ble_eq_true rfl, Nat.le_of_ble_eq_true rfl⟩) hP hD hS hA [] [0, 1] rfl rfl (by decide +kernel) (by decide +kernel) (fun r1462 u H locs hq hP hD hS => ?_)
  have hq : r1462 = (bi (wi z2 0 99)) := hq
  subst hq
  have hP : va_P D vwCl [(z1, .inr (10, [.ref z4, .ref z5, .ref z6, .ref z7, .ref z8, .ref z9, .ref z10, .ref z11, .ref z12, .ref z13, .ref z14, .int 1, .int (-1), .int 0, .int (-1)])), (z12, .inr (4, [.ref z15, .ref z16, .ref z17, .ref z18, .ref z19, .int 0, .int 0, .int 0, .int 0, .int 0, .int 0, .int 0, .int 0, .int 0]))] H := hP
  have hD : va_D A [(z1, .inr (10, [.ref z4, .ref z5, .ref z6, .ref z7, .ref z8, .ref z9, .ref z10, .ref z11, .ref z12, .ref z13, .ref z14, .int 1, .int (-1), .int 0, .int (-1)])), (z12, .inr (4, [.ref z15, .ref z16, .ref z17, .ref z18, .ref z19, .int 0, .int 0, .int 0, .int 0, .int 0, .int 0, .int 0, .int 0, .int 0]))] := hD
  refine W.widen (k := 0) (n := 0) (Nat.le_of_ble_eq_true rfl) (Nat.le_of_ble_eq_true rfl) ?_
  refine lv_if_eq (tgt := 21) hx hb dX10_choose_7 (by decide) (fun c_1463 => ?_) (fun c_1463 => ?_)
  · skip
    have c_1463 := bi_z c_1463
    refine lv_iconst (v := (-1)) hx hb dX10_choose_21 (by decide) ?_
    exact r_iret () C0 hr hlocks hS (Nat.le_of_ble_eq_true rfl) (Nat.le_of_ble_eq_true rfl) dX10_choose_22 (by first | rfl | decide +kernel | simp [bi, FO, TS, c_1463]) P_nil D_nil
  · skip
    have c_1463 := bi_nz c_1463
    refine lv_iload_n hx hb dX10_choose_10 rfl (lv_at hl 2 rfl) ?_
    refine lv_iconst (v := 0) hx hb dX10_choose_11 (by decide) ?_
    refine lv_sipush (v := 20000) hx hb dX10_choose_12 (by decide) ?_
    refine r_calli (wr := [(z1, .inr (10, [.ref z4, .ref z5, .ref z6, .ref z7, .ref z8, .ref z9, .ref z10, .ref z11, .ref z12, .ref z13, .ref z14, .int 1, .int (-1), .int 0, .int (-1)])), (z12, .inr (4, [.ref z15, .ref z16, .ref z17, .ref z18, .ref z19, .int 0, .int 0, .int 0, .int 0, .int 0, .int 0, .int 0, .int 0, .int 0]))]) (r_runS (As := [.int z3, .int 0, .int 20000]) (rest := []) (wc := []) C0 hE (c_X10_within_1451 l D T H.size z3) mw_483 mw_484 mw_7 mw_485 dn_482 rfl rfl ⟨Nat.le_of_ble_eq_true rfl, Nat.le_of_ble_eq_true rfl⟩ (hP.sub (ws' := []) [] rfl) (hD.sub (ws' := []) [] (by decide +kernel) rfl) hl.1 rfl (Nat.le_of_ble_eq_true rfl) dX10_choose_15 ⟨Nat.le_of_ble_eq_true rfl, Nat.le_of_ble_eq_true rfl⟩) hP hD hS hA [] [0, 1] rfl rfl (by decide +kernel) (by decide +kernel) (fun r1466 u H locs hq hP hD hS => ?_)
    have hq : r1466 = (bi (wi z3 0 20000)) := hq
    subst hq
    have hP : va_P D vwCl [(z1, .inr (10, [.ref z4, .ref z5, .ref z6, .ref z7, .ref z8, .ref z9, .ref z10, .ref z11, .ref z12, .ref z13, .ref z14, .int 1, .int (-1), .int 0, .int (-1)])), (z12, .inr (4, [.ref z15, .ref z16, .ref z17, .ref z18, .ref z19, .int 0, .int 0, .int 0, .int 0, .int 0, .int 0, .int 0, .int 0, .int 0]))] H := hP
    have hD : va_D A [(z1, .inr (10, [.ref z4, .ref z5, .ref z6, .ref z7, .ref z8, .ref z9, .ref z10, .ref z11, .ref z12, .ref z13, .ref z14, .int 1, .int (-1), .int 0, .int (-1)])), (z12, .inr (4, [.ref z15, .ref z16, .ref z17, .ref z18, .ref z19, .int 0, .int 0, .int 0, .int 0, .int 0, .int 0, .int 0, .int 0, .int 0]))] := hD
    refine W.widen (k := 0) (n := 0) (Nat.le_of_ble_eq_true rfl) (Nat.le_of_ble_eq_true rfl) ?_
    refine lv_if_ne (tgt := 23) hx hb dX10_choose_18 (by decide) (fun c_1467 => ?_) (fun c_1467 => ?_)
    · skip
      have c_1467 := bi_nz c_1467
      refine lv_aload_n hx hb dX10_choose_23 rfl (lv_at hl 0 rfl) ?_
      refine r_get (v := .ref z12) C0 hE ffX10_8 mw_219 hP 0 rfl rfl dX10_choose_24 ?_
      refine lv_iload_n hx hb dX10_choose_27 rfl (lv_at hl 1 rfl) ?_
      refine lv_iload_n hx hb dX10_choose_28 rfl (lv_at hl 2 rfl) ?_
      refine r_calli (wr := [(z1, .inr (10, [.ref z4, .ref z5, .ref z6, .ref z7, .ref z8, .ref z9, .ref z10, .ref z11, .ref z12, .ref z13, .ref z14, .int 1, .int (-1), .int 0, .int (-1)]))]) (r_runV (As := [.int z2, .int z3]) (rest := []) (wc := [(z12, .inr (4, [.ref z15, .ref z16, .ref z17, .ref z18, .ref z19, .int 0, .int 0, .int 0, .int 0, .int 0, .int 0, .int 0, .int 0, .int 0]))]) (ci := 4) C0 hE (c_X4_pick_1458 l D T H.size z12 z2 z3 z15 z16 z17 z18 z19 (wi_ge c_1467)) mw_627 mw_628 mw_629 mw_196 mw_630 dn_626 rfl rfl ⟨Nat.le_of_ble_eq_true rfl, Nat.le_of_ble_eq_true rfl⟩ (hP.sub (ws' := [(z12, .inr (4, [.ref z15, .ref z16, .ref z17, .ref z18, .ref z19, .int 0, .int 0, .int 0, .int 0, .int 0, .int 0, .int 0, .int 0, .int 0]))]) [1] rfl) (hD.sub (ws' := [(z12, .inr (4, [.ref z15, .ref z16, .ref z17, .ref z18, .ref z19, .int 0, .int 0, .int 0, .int 0, .int 0, .int 0, .int 0, .int 0, .int 0]))]) [1] (by decide +kernel) rfl) rfl rfl rfl hl.1 rfl (Nat.le_of_ble_eq_true rfl) dX10_choose_29 ⟨Nat.le_of_ble_eq_true rfl, Nat.le_of_ble_eq_true rfl⟩) hP hD hS hA [1] [0] rfl rfl (by decide +kernel) (by decide +kernel) (fun r1469 u H locs hq hP hD hS => ?_)
      have hq : r1469 = 0 := hq
      subst hq
      have hP : va_P D vwCl [(z1, .inr (10, [.ref z4, .ref z5, .ref z6, .ref z7, .ref z8, .ref z9, .ref z10, .ref z11, .ref z12, .ref z13, .ref z14, .int 1, .int (-1), .int 0, .int (-1)])), (z12, .inr (4, [.ref z15, .ref z16, .ref z17, .ref z18, .ref z19, .int 0, .int 0, .int 0, .int 0, .int z2, .int z3, .int 0, .int 0, .int 0]))] H := hP
      have hD : va_D A [(z1, .inr (10, [.ref z4, .ref z5, .ref z6, .ref z7, .ref z8, .ref z9, .ref z10, .ref z11, .ref z12, .ref z13, .ref z14, .int 1, .int (-1), .int 0, .int (-1)])), (z12, .inr (4, [.ref z15, .ref z16, .ref z17, .ref z18, .ref z19, .int 0, .int 0, .int 0, .int 0, .int z2, .int z3, .int 0, .int 0, .int 0]))] := hD
      refine W.widen (k := 0) (n := 0) (Nat.le_of_ble_eq_true rfl) (Nat.le_of_ble_eq_true rfl) ?_
      exact r_iret () C0 hr hlocks hS (Nat.le_of_ble_eq_true rfl) (Nat.le_of_ble_eq_true rfl) dX10_choose_32 (by first | rfl | decide +kernel | simp [bi, FO, TS, c_1463, c_1467]) P_nil D_nil
    · skip
      have c_1467 := bi_z c_1467
      refine lv_iconst (v := (-1)) hx hb dX10_choose_21 (by decide) ?_
      exact r_iret () C0 hr hlocks hS (Nat.le_of_ble_eq_true rfl) (Nat.le_of_ble_eq_true rfl) dX10_choose_22 (by first | rfl | decide +kernel | simp [bi, FO, TS, c_1463, c_1467]) P_nil D_nil
set_option maxHeartbeats 4000000 in
set_option maxRecDepth 100000 in
theorem c_X10_chosen_1479 (l : Launch) (D : va_G) (T : Nat → ClassId) (sz : Nat) (z1 : Nat) (z2 : Int32) (z3 : Nat) (z4 : Nat) (z5 : Nat) (z6 : Nat) (z7 : Nat) (z8 : Nat) (z9 : Nat) (z10 : Nat) (z11 : Nat) (z12 : Nat) (z13 : Nat) (z14 : Nat) (z15 : Nat) (z16 : Nat) (z17 : Nat) (z18 : Nat) : Met l yX10_chosen (.code yX10_chosen cX10_chosen 2 (some .int) :: TB) { frames := 1, cells := 0, slots := 0, locals := 22 } (PC D T [.ref z1, .int z2] [(z1, .inr (10, [.ref z3, .ref z4, .ref z5, .ref z6, .ref z7, .ref z8, .ref z9, .ref z10, .ref z11, .ref z12, .ref z13, .int 1, .int (-1), .int 0, .int (-1)])), (z11, .inr (4, [.ref z14, .ref z15, .ref z16, .ref z17, .ref z18, .int 0, .int 0, .int 0, .int 0, .int 0, .int 0, .int 0, .int 0, .int 0]))] sz) (Qi (S := Unit) (fun (r : Int32) (_ : Unit) => r = (-1)) (fun (_ : Unit) => []) D (va_A [(z1, .inr (10, [.ref z3, .ref z4, .ref z5, .ref z6, .ref z7, .ref z8, .ref z9, .ref z10, .ref z11, .ref z12, .ref z13, .int 1, .int (-1), .int 0, .int (-1)])), (z11, .inr (4, [.ref z14, .ref z15, .ref z16, .ref z17, .ref z18, .int 0, .int 0, .int 0, .int 0, .int 0, .int 0, .int 0, .int 0, .int 0]))] sz)) 0 0 (va_A [(z1, .inr (10, [.ref z3, .ref z4, .ref z5, .ref z6, .ref z7, .ref z8, .ref z9, .ref z10, .ref z11, .ref z12, .ref z13, .int 1, .int (-1), .int 0, .int (-1)])), (z11, .inr (4, [.ref z14, .ref z15, .ref z16, .ref z17, .ref z18, .int 0, .int 0, .int 0, .int 0, .int 0, .int 0, .int 0, .int 0, .int 0]))] sz) := by
  refine ct_begin (Qc := Qi (S := Unit) (fun (r : Int32) (_ : Unit) => r = (-1)) (fun (_ : Unit) => []) D) (by decide +kernel) (Nat.le_of_ble_eq_true rfl) ?_
  intro p e s m below meth c A ls C0 hr hlocks hnm hE hA hP hD hS hl
  have hx := C0.1
  have hb := C0.2.1
  have hml := C0.2.2.1
  have hown := C0.2.2.2.1
  have hT := C0.2.2.2.2
  have hK := hE.1
  have hl : lv_has ls 2 [(0, .ref z1), (1, .int z2)] := hl
  refine lv_iload_n hx hb dX10_chosen_0 rfl (lv_at hl 1 rfl) ?_
  refine lv_iconst (v := 0) hx hb dX10_chosen_1 (by decide) ?_
  refine lv_aload_n hx hb dX10_chosen_2 rfl (lv_at hl 0 rfl) ?_
  refine r_get (v := .ref z11) C0 hE ffX10_8 mw_219 hP 0 rfl rfl dX10_chosen_3 ?_
  refine r_get (v := .int 0) C0 hE ffX4_8 mw_631 hP 1 rfl rfl dX10_chosen_6 ?_
  refine lv_iconst (v := 1) hx hb dX10_chosen_9 (by decide) ?_
  refine lv_isub hx hb dX10_chosen_10 ?_
  refine r_ci (v := (-1)) (by decide +kernel) ?_
  refine r_calli (wr := [(z1, .inr (10, [.ref z3, .ref z4, .ref z5, .ref z6, .ref z7, .ref z8, .ref z9, .ref z10, .ref z11, .ref z12, .ref z13, .int 1, .int (-1), .int 0, .int (-1)])), (z11, .inr (4, [.ref z14, .ref z15, .ref z16, .ref z17, .ref z18, .int 0, .int 0, .int 0, .int 0, .int 0, .int 0, .int 0, .int 0, .int 0]))]) (r_runS (As := [.int z2, .int 0, .int (-1)]) (rest := []) (wc := []) C0 hE (c_X10_within_944 l D T s.heap.size z2) mw_483 mw_484 mw_7 mw_485 dn_482 rfl rfl ⟨Nat.le_of_ble_eq_true rfl, Nat.le_of_ble_eq_true rfl⟩ (hP.sub (ws' := []) [] rfl) (hD.sub (ws' := []) [] (by decide +kernel) rfl) hl.1 rfl (Nat.le_of_ble_eq_true rfl) dX10_chosen_11 ⟨Nat.le_of_ble_eq_true rfl, Nat.le_of_ble_eq_true rfl⟩) hP hD hS hA [] [0, 1] rfl rfl (by decide +kernel) (by decide +kernel) (fun r1477 u H locs hq hP hD hS => ?_)
  have hq : r1477 = (bi (wi z2 0 (-1))) := hq
  subst hq
  have hP : va_P D vwCl [(z1, .inr (10, [.ref z3, .ref z4, .ref z5, .ref z6, .ref z7, .ref z8, .ref z9, .ref z10, .ref z11, .ref z12, .ref z13, .int 1, .int (-1), .int 0, .int (-1)])), (z11, .inr (4, [.ref z14, .ref z15, .ref z16, .ref z17, .ref z18, .int 0, .int 0, .int 0, .int 0, .int 0, .int 0, .int 0, .int 0, .int 0]))] H := hP
  have hD : va_D A [(z1, .inr (10, [.ref z3, .ref z4, .ref z5, .ref z6, .ref z7, .ref z8, .ref z9, .ref z10, .ref z11, .ref z12, .ref z13, .int 1, .int (-1), .int 0, .int (-1)])), (z11, .inr (4, [.ref z14, .ref z15, .ref z16, .ref z17, .ref z18, .int 0, .int 0, .int 0, .int 0, .int 0, .int 0, .int 0, .int 0, .int 0]))] := hD
  refine W.widen (k := 0) (n := 0) (Nat.le_of_ble_eq_true rfl) (Nat.le_of_ble_eq_true rfl) ?_
  refine lv_if_ne (tgt := 19) hx hb dX10_chosen_14 (by decide) (fun c_1478 => ?_) (fun c_1478 => ?_)
  · skip
    have c_1478 := bi_nz c_1478
    exact absurd c_1478 (wi_empty (by decide +kernel))
  · skip
    have c_1478 := bi_z c_1478
    refine lv_iconst (v := (-1)) hx hb dX10_chosen_17 (by decide) ?_
    exact r_iret () C0 hr hlocks hS (Nat.le_of_ble_eq_true rfl) (Nat.le_of_ble_eq_true rfl) dX10_chosen_18 (by first | rfl | decide +kernel | simp [bi, FO, TS, c_1478]) P_nil D_nil
set_option maxHeartbeats 4000000 in
set_option maxRecDepth 100000 in
theorem c_X10_within_1484 (l : Launch) (D : va_G) (T : Nat → ClassId) (sz : Nat) (z1 : Int32) : Met l yX10_within (.code yX10_within cX10_within 3 (some .boolean) :: TB) { frames := 0, cells := 0, slots := 0, locals := 0 } (PC D T [.int z1, .int 1, .int 50] [] sz) (Qi (S := Unit) (fun (r : Int32) (_ : Unit) => r = (bi (wi z1 1 50))) (fun (_ : Unit) => []) D (va_A [] sz)) 0 0 (va_A [] sz) := by
  refine ct_begin (Qc := Qi (S := Unit) (fun (r : Int32) (_ : Unit) => r = (bi (wi z1 1 50))) (fun (_ : Unit) => []) D) (by decide +kernel) (Nat.le_of_ble_eq_true rfl) ?_
  intro p e s m below meth c A ls C0 hr hlocks hnm hE hA hP hD hS hl
  have hx := C0.1
  have hb := C0.2.1
  have hml := C0.2.2.1
  have hown := C0.2.2.2.1
  have hT := C0.2.2.2.2
  have hK := hE.1
  have hl : lv_has ls 3 [(0, .int z1), (1, .int 1), (2, .int 50)] := hl
  refine lv_iload_n hx hb dX10_within_0 rfl (lv_at hl 0 rfl) ?_
  refine lv_iload_n hx hb dX10_within_1 rfl (lv_at hl 1 rfl) ?_
  refine lv_icmp_lt (tgt := 14) hx hb dX10_within_2 (by decide) (fun c_1482 => ?_) (fun c_1482 => ?_)
  · skip
    refine lv_iconst (v := 0) hx hb dX10_within_14 (by decide) ?_
    exact r_zret () C0 hr (by decide +kernel) hlocks hS (Nat.le_of_ble_eq_true rfl) (Nat.le_of_ble_eq_true rfl) dX10_within_15 (wi_a c_1482) P_nil D_nil
  · skip
    refine lv_iload_n hx hb dX10_within_5 rfl (lv_at hl 0 rfl) ?_
    refine lv_iload_n hx hb dX10_within_6 rfl (lv_at hl 2 rfl) ?_
    refine lv_icmp_gt (tgt := 14) hx hb dX10_within_7 (by decide) (fun c_1483 => ?_) (fun c_1483 => ?_)
    · skip
      refine lv_iconst (v := 0) hx hb dX10_within_14 (by decide) ?_
      exact r_zret () C0 hr (by decide +kernel) hlocks hS (Nat.le_of_ble_eq_true rfl) (Nat.le_of_ble_eq_true rfl) dX10_within_15 (wi_b c_1483) P_nil D_nil
    · skip
      refine lv_iconst (v := 1) hx hb dX10_within_10 (by decide) ?_
      refine lv_goto (tgt := 15) hx hb dX10_within_11 (by decide) ?_
      exact r_zret () C0 hr (by decide +kernel) hlocks hS (Nat.le_of_ble_eq_true rfl) (Nat.le_of_ble_eq_true rfl) dX10_within_15 (wi_c c_1482 c_1483) P_nil D_nil
set_option maxHeartbeats 4000000 in
set_option maxRecDepth 100000 in
theorem c_X10_within_1491 (l : Launch) (D : va_G) (T : Nat → ClassId) (sz : Nat) (z1 : Int32) (z2 : Int32) : Met l yX10_within (.code yX10_within cX10_within 3 (some .boolean) :: TB) { frames := 0, cells := 0, slots := 0, locals := 0 } (PC D T [.int z1, .int 0, .int z2] [] sz) (Qi (S := Unit) (fun (r : Int32) (_ : Unit) => r = (bi (wi z1 0 z2))) (fun (_ : Unit) => []) D (va_A [] sz)) 0 0 (va_A [] sz) := by
  refine ct_begin (Qc := Qi (S := Unit) (fun (r : Int32) (_ : Unit) => r = (bi (wi z1 0 z2))) (fun (_ : Unit) => []) D) (by decide +kernel) (Nat.le_of_ble_eq_true rfl) ?_
  intro p e s m below meth c A ls C0 hr hlocks hnm hE hA hP hD hS hl
  have hx := C0.1
  have hb := C0.2.1
  have hml := C0.2.2.1
  have hown := C0.2.2.2.1
  have hT := C0.2.2.2.2
  have hK := hE.1
  have hl : lv_has ls 3 [(0, .int z1), (1, .int 0), (2, .int z2)] := hl
  refine lv_iload_n hx hb dX10_within_0 rfl (lv_at hl 0 rfl) ?_
  refine lv_iload_n hx hb dX10_within_1 rfl (lv_at hl 1 rfl) ?_
  refine lv_icmp_lt (tgt := 14) hx hb dX10_within_2 (by decide) (fun c_1489 => ?_) (fun c_1489 => ?_)
  · skip
    refine lv_iconst (v := 0) hx hb dX10_within_14 (by decide) ?_
    exact r_zret () C0 hr (by decide +kernel) hlocks hS (Nat.le_of_ble_eq_true rfl) (Nat.le_of_ble_eq_true rfl) dX10_within_15 (wi_a c_1489) P_nil D_nil
  · skip
    refine lv_iload_n hx hb dX10_within_5 rfl (lv_at hl 0 rfl) ?_
    refine lv_iload_n hx hb dX10_within_6 rfl (lv_at hl 2 rfl) ?_
    refine lv_icmp_gt (tgt := 14) hx hb dX10_within_7 (by decide) (fun c_1490 => ?_) (fun c_1490 => ?_)
    · skip
      refine lv_iconst (v := 0) hx hb dX10_within_14 (by decide) ?_
      exact r_zret () C0 hr (by decide +kernel) hlocks hS (Nat.le_of_ble_eq_true rfl) (Nat.le_of_ble_eq_true rfl) dX10_within_15 (wi_b c_1490) P_nil D_nil
    · skip
      refine lv_iconst (v := 1) hx hb dX10_within_10 (by decide) ?_
      refine lv_goto (tgt := 15) hx hb dX10_within_11 (by decide) ?_
      exact r_zret () C0 hr (by decide +kernel) hlocks hS (Nat.le_of_ble_eq_true rfl) (Nat.le_of_ble_eq_true rfl) dX10_within_15 (wi_c c_1489 c_1490) P_nil D_nil
set_option maxHeartbeats 4000000 in
set_option maxRecDepth 100000 in
theorem c_X10_isBatch_1502 (l : Launch) (D : va_G) (T : Nat → ClassId) (sz : Nat) (z1 : Int32) (z2 : Int32) : Met l yX10_isBatch (.code yX10_isBatch cX10_isBatch 2 (some .boolean) :: TB) { frames := 1, cells := 0, slots := 0, locals := 22 } (PC D T [.int z1, .int z2] [] sz) (Qi (S := Unit) (fun (r : Int32) (_ : Unit) => r = (bi (wi z1 1 50 && wi z2 0 z1))) (fun (_ : Unit) => []) D (va_A [] sz)) 0 0 (va_A [] sz) := by
  refine ct_begin (Qc := Qi (S := Unit) (fun (r : Int32) (_ : Unit) => r = (bi (wi z1 1 50 && wi z2 0 z1))) (fun (_ : Unit) => []) D) (by decide +kernel) (Nat.le_of_ble_eq_true rfl) ?_
  intro p e s m below meth c A ls C0 hr hlocks hnm hE hA hP hD hS hl
  have hx := C0.1
  have hb := C0.2.1
  have hml := C0.2.2.1
  have hown := C0.2.2.2.1
  have hT := C0.2.2.2.2
  have hK := hE.1
  have hl : lv_has ls 2 [(0, .int z1), (1, .int z2)] := hl
  refine lv_iload_n hx hb dX10_isBatch_0 rfl (lv_at hl 0 rfl) ?_
  refine lv_iconst (v := 1) hx hb dX10_isBatch_1 (by decide) ?_
  refine lv_bipush (v := 50) hx hb dX10_isBatch_2 (by decide) ?_
  refine r_calli (wr := []) (r_runS (As := [.int z1, .int 1, .int 50]) (rest := []) (wc := []) C0 hE (c_X10_within_1484 l D T s.heap.size z1) mw_483 mw_484 mw_7 mw_485 dn_482 rfl rfl ⟨Nat.le_of_ble_eq_true rfl, Nat.le_of_ble_eq_true rfl⟩ (hP.sub (ws' := []) [] rfl) (hD.sub (ws' := []) [] (by decide +kernel) rfl) hl.1 rfl (Nat.le_of_ble_eq_true rfl) dX10_isBatch_4 ⟨Nat.le_of_ble_eq_true rfl, Nat.le_of_ble_eq_true rfl⟩) hP hD hS hA [] [] rfl rfl (by decide +kernel) (by decide +kernel) (fun r1496 u H locs hq hP hD hS => ?_)
  have hq : r1496 = (bi (wi z1 1 50)) := hq
  subst hq
  have hP : va_P D vwCl [] H := hP
  have hD : va_D A [] := hD
  refine W.widen (k := 0) (n := 0) (Nat.le_of_ble_eq_true rfl) (Nat.le_of_ble_eq_true rfl) ?_
  refine lv_if_eq (tgt := 23) hx hb dX10_isBatch_7 (by decide) (fun c_1497 => ?_) (fun c_1497 => ?_)
  · skip
    have c_1497 := bi_z c_1497
    refine lv_iconst (v := 0) hx hb dX10_isBatch_23 (by decide) ?_
    exact r_zret () C0 hr (by decide +kernel) hlocks hS (Nat.le_of_ble_eq_true rfl) (Nat.le_of_ble_eq_true rfl) dX10_isBatch_24 (by first | rfl | decide +kernel | simp [bi, FO, TS, c_1497]) P_nil D_nil
  · skip
    have c_1497 := bi_nz c_1497
    refine lv_iload_n hx hb dX10_isBatch_10 rfl (lv_at hl 1 rfl) ?_
    refine lv_iconst (v := 0) hx hb dX10_isBatch_11 (by decide) ?_
    refine lv_iload_n hx hb dX10_isBatch_12 rfl (lv_at hl 0 rfl) ?_
    refine r_calli (wr := []) (r_runS (As := [.int z2, .int 0, .int z1]) (rest := []) (wc := []) C0 hE (c_X10_within_1491 l D T H.size z2 z1) mw_483 mw_484 mw_7 mw_485 dn_482 rfl rfl ⟨Nat.le_of_ble_eq_true rfl, Nat.le_of_ble_eq_true rfl⟩ (hP.sub (ws' := []) [] rfl) (hD.sub (ws' := []) [] (by decide +kernel) rfl) hl.1 rfl (Nat.le_of_ble_eq_true rfl) dX10_isBatch_13 ⟨Nat.le_of_ble_eq_true rfl, Nat.le_of_ble_eq_true rfl⟩) hP hD hS hA [] [] rfl rfl (by decide +kernel) (by decide +kernel) (fun r1500 u H locs hq hP hD hS => ?_)
    have hq : r1500 = (bi (wi z2 0 z1)) := hq
    subst hq
    have hP : va_P D vwCl [] H := hP
    have hD : va_D A [] := hD
    refine W.widen (k := 0) (n := 0) (Nat.le_of_ble_eq_true rfl) (Nat.le_of_ble_eq_true rfl) ?_
    refine lv_if_eq (tgt := 23) hx hb dX10_isBatch_16 (by decide) (fun c_1501 => ?_) (fun c_1501 => ?_)
    · skip
      have c_1501 := bi_z c_1501
      refine lv_iconst (v := 0) hx hb dX10_isBatch_23 (by decide) ?_
      exact r_zret () C0 hr (by decide +kernel) hlocks hS (Nat.le_of_ble_eq_true rfl) (Nat.le_of_ble_eq_true rfl) dX10_isBatch_24 (by first | rfl | decide +kernel | simp [bi, FO, TS, c_1497, c_1501]) P_nil D_nil
    · skip
      have c_1501 := bi_nz c_1501
      refine lv_iconst (v := 1) hx hb dX10_isBatch_19 (by decide) ?_
      refine lv_goto (tgt := 24) hx hb dX10_isBatch_20 (by decide) ?_
      exact r_zret () C0 hr (by decide +kernel) hlocks hS (Nat.le_of_ble_eq_true rfl) (Nat.le_of_ble_eq_true rfl) dX10_isBatch_24 (by first | rfl | decide +kernel | simp [bi, FO, TS, c_1497, c_1501]) P_nil D_nil
set_option maxHeartbeats 4000000 in
set_option maxRecDepth 100000 in
theorem c_X10_found_1531 (l : Launch) (D : va_G) (T : Nat → ClassId) (sz : Nat) (z1 : Nat) (z2 : Int32) (z3 : Int32) (z4 : Int32) (z5 : Int32) (z6 : Nat) (z7 : Nat) (z8 : Nat) (z9 : Nat) (z10 : Nat) (z11 : Nat) (z12 : Nat) (z13 : Nat) (z14 : Nat) (z15 : Nat) (z16 : Nat) : Met l yX10_found (.code yX10_found cX10_found 9 (some .long) :: TB) { frames := 2, cells := 0, slots := 0, locals := 43 } (PC D T [.ref z1, .int z2, .int z3, .int z4, .int z5, .int 0] [(z1, .inr (10, [.ref z6, .ref z7, .ref z8, .ref z9, .ref z10, .ref z11, .ref z12, .ref z13, .ref z14, .ref z15, .ref z16, .int 1, .int (-1), .int 0, .int (-1)]))] sz) (Ql (S := Unit) (fun (r : Int64) (_ : Unit) => r = (FO z2 z3 z4 z5 0)) (fun (_ : Unit) => []) D (va_A [(z1, .inr (10, [.ref z6, .ref z7, .ref z8, .ref z9, .ref z10, .ref z11, .ref z12, .ref z13, .ref z14, .ref z15, .ref z16, .int 1, .int (-1), .int 0, .int (-1)]))] sz)) 0 0 (va_A [(z1, .inr (10, [.ref z6, .ref z7, .ref z8, .ref z9, .ref z10, .ref z11, .ref z12, .ref z13, .ref z14, .ref z15, .ref z16, .int 1, .int (-1), .int 0, .int (-1)]))] sz) := by
  refine ct_begin (Qc := Ql (S := Unit) (fun (r : Int64) (_ : Unit) => r = (FO z2 z3 z4 z5 0)) (fun (_ : Unit) => []) D) (by decide +kernel) (Nat.le_of_ble_eq_true rfl) ?_
  intro p e s m below meth c A ls C0 hr hlocks hnm hE hA hP hD hS hl
  have hx := C0.1
  have hb := C0.2.1
  have hml := C0.2.2.1
  have hown := C0.2.2.2.1
  have hT := C0.2.2.2.2
  have hK := hE.1
  have hl : lv_has ls 9 [(0, .ref z1), (1, .int z2), (2, .int z3), (3, .int z4), (4, .int z5), (5, .int 0)] := hl
  refine lv_iload_n hx hb dX10_found_0 rfl (lv_at hl 1 rfl) ?_
  refine lv_iload_n hx hb dX10_found_1 rfl (lv_at hl 2 rfl) ?_
  refine r_calli (wr := [(z1, .inr (10, [.ref z6, .ref z7, .ref z8, .ref z9, .ref z10, .ref z11, .ref z12, .ref z13, .ref z14, .ref z15, .ref z16, .int 1, .int (-1), .int 0, .int (-1)]))]) (r_runS (As := [.int z2, .int z3]) (rest := []) (wc := []) C0 hE (c_X10_isBatch_1502 l D T s.heap.size z2 z3) mw_633 mw_634 mw_7 mw_635 dn_632 rfl rfl ⟨Nat.le_of_ble_eq_true rfl, Nat.le_of_ble_eq_true rfl⟩ (hP.sub (ws' := []) [] rfl) (hD.sub (ws' := []) [] (by decide +kernel) rfl) hl.1 rfl (Nat.le_of_ble_eq_true rfl) dX10_found_2 ⟨Nat.le_of_ble_eq_true rfl, Nat.le_of_ble_eq_true rfl⟩) hP hD hS hA [] [0] rfl rfl (by decide +kernel) (by decide +kernel) (fun r1521 u H locs hq hP hD hS => ?_)
  have hq : r1521 = (bi (wi z2 1 50 && wi z3 0 z2)) := hq
  subst hq
  have hP : va_P D vwCl [(z1, .inr (10, [.ref z6, .ref z7, .ref z8, .ref z9, .ref z10, .ref z11, .ref z12, .ref z13, .ref z14, .ref z15, .ref z16, .int 1, .int (-1), .int 0, .int (-1)]))] H := hP
  have hD : va_D A [(z1, .inr (10, [.ref z6, .ref z7, .ref z8, .ref z9, .ref z10, .ref z11, .ref z12, .ref z13, .ref z14, .ref z15, .ref z16, .int 1, .int (-1), .int 0, .int (-1)]))] := hD
  refine W.widen (k := 0) (n := 0) (Nat.le_of_ble_eq_true rfl) (Nat.le_of_ble_eq_true rfl) ?_
  refine lv_if_eq (tgt := 27) hx hb dX10_found_5 (by decide) (fun c_1522 => ?_) (fun c_1522 => ?_)
  · skip
    have c_1522 := bi_z c_1522
    refine lv_ldc2 hx hb hown (hT _ mw_571) dX10_found_27 ?_
    exact r_lret () C0 hr hlocks hS (Nat.le_of_ble_eq_true rfl) (Nat.le_of_ble_eq_true rfl) dX10_found_30 (by first | rfl | decide +kernel | simp [bi, FO, TS, c_1522]) P_nil D_nil
  · skip
    have c_1522 := bi_nz c_1522
    refine lv_iload_n hx hb dX10_found_8 rfl (lv_at hl 3 rfl) ?_
    refine lv_iconst (v := 0) hx hb dX10_found_9 (by decide) ?_
    refine lv_iload_n hx hb dX10_found_10 rfl (lv_at hl 1 rfl) ?_
    refine r_calli (wr := [(z1, .inr (10, [.ref z6, .ref z7, .ref z8, .ref z9, .ref z10, .ref z11, .ref z12, .ref z13, .ref z14, .ref z15, .ref z16, .int 1, .int (-1), .int 0, .int (-1)]))]) (r_runS (As := [.int z4, .int 0, .int z2]) (rest := []) (wc := []) C0 hE (c_X10_within_1491 l D T H.size z4 z2) mw_483 mw_484 mw_7 mw_485 dn_482 rfl rfl ⟨Nat.le_of_ble_eq_true rfl, Nat.le_of_ble_eq_true rfl⟩ (hP.sub (ws' := []) [] rfl) (hD.sub (ws' := []) [] (by decide +kernel) rfl) hl.1 rfl (Nat.le_of_ble_eq_true rfl) dX10_found_11 ⟨Nat.le_of_ble_eq_true rfl, Nat.le_of_ble_eq_true rfl⟩) hP hD hS hA [] [0] rfl rfl (by decide +kernel) (by decide +kernel) (fun r1525 u H locs hq hP hD hS => ?_)
    have hq : r1525 = (bi (wi z4 0 z2)) := hq
    subst hq
    have hP : va_P D vwCl [(z1, .inr (10, [.ref z6, .ref z7, .ref z8, .ref z9, .ref z10, .ref z11, .ref z12, .ref z13, .ref z14, .ref z15, .ref z16, .int 1, .int (-1), .int 0, .int (-1)]))] H := hP
    have hD : va_D A [(z1, .inr (10, [.ref z6, .ref z7, .ref z8, .ref z9, .ref z10, .ref z11, .ref z12, .ref z13, .ref z14, .ref z15, .ref z16, .int 1, .int (-1), .int 0, .int (-1)]))] := hD
    refine W.widen (k := 0) (n := 0) (Nat.le_of_ble_eq_true rfl) (Nat.le_of_ble_eq_true rfl) ?_
    refine lv_if_eq (tgt := 27) hx hb dX10_found_14 (by decide) (fun c_1526 => ?_) (fun c_1526 => ?_)
    · skip
      have c_1526 := bi_z c_1526
      refine lv_ldc2 hx hb hown (hT _ mw_571) dX10_found_27 ?_
      exact r_lret () C0 hr hlocks hS (Nat.le_of_ble_eq_true rfl) (Nat.le_of_ble_eq_true rfl) dX10_found_30 (by first | rfl | decide +kernel | simp [bi, FO, TS, c_1522, c_1526]) P_nil D_nil
    · skip
      have c_1526 := bi_nz c_1526
      refine lv_iload hx hb dX10_found_17 (lv_at hl 4 rfl) ?_
      refine lv_iconst (v := 0) hx hb dX10_found_19 (by decide) ?_
      refine lv_iload_n hx hb dX10_found_20 rfl (lv_at hl 3 rfl) ?_
      refine r_calli (wr := [(z1, .inr (10, [.ref z6, .ref z7, .ref z8, .ref z9, .ref z10, .ref z11, .ref z12, .ref z13, .ref z14, .ref z15, .ref z16, .int 1, .int (-1), .int 0, .int (-1)]))]) (r_runS (As := [.int z5, .int 0, .int z4]) (rest := []) (wc := []) C0 hE (c_X10_within_1491 l D T H.size z5 z4) mw_483 mw_484 mw_7 mw_485 dn_482 rfl rfl ⟨Nat.le_of_ble_eq_true rfl, Nat.le_of_ble_eq_true rfl⟩ (hP.sub (ws' := []) [] rfl) (hD.sub (ws' := []) [] (by decide +kernel) rfl) hl.1 rfl (Nat.le_of_ble_eq_true rfl) dX10_found_21 ⟨Nat.le_of_ble_eq_true rfl, Nat.le_of_ble_eq_true rfl⟩) hP hD hS hA [] [0] rfl rfl (by decide +kernel) (by decide +kernel) (fun r1529 u H locs hq hP hD hS => ?_)
      have hq : r1529 = (bi (wi z5 0 z4)) := hq
      subst hq
      have hP : va_P D vwCl [(z1, .inr (10, [.ref z6, .ref z7, .ref z8, .ref z9, .ref z10, .ref z11, .ref z12, .ref z13, .ref z14, .ref z15, .ref z16, .int 1, .int (-1), .int 0, .int (-1)]))] H := hP
      have hD : va_D A [(z1, .inr (10, [.ref z6, .ref z7, .ref z8, .ref z9, .ref z10, .ref z11, .ref z12, .ref z13, .ref z14, .ref z15, .ref z16, .int 1, .int (-1), .int 0, .int (-1)]))] := hD
      refine W.widen (k := 0) (n := 0) (Nat.le_of_ble_eq_true rfl) (Nat.le_of_ble_eq_true rfl) ?_
      refine lv_if_ne (tgt := 31) hx hb dX10_found_24 (by decide) (fun c_1530 => ?_) (fun c_1530 => ?_)
      · skip
        have c_1530 := bi_nz c_1530
        have g1 := (Bool.and_eq_true _ _).mp c_1522
        have k1 := g1.1
        have k2 := g1.2
        have k3 := c_1526
        have k4 := c_1530
        obtain ⟨Na, hNa, rfl⟩ := wi_nat (L := 50) (by decide) (by decide) (by decide) k1
        obtain ⟨Nb, hNb, rfl⟩ := wi_nat (L := Na) (Int32.le_refl _) (by omega) (by decide) k2
        obtain ⟨Nn, hNn, rfl⟩ := wi_nat (L := Na) (Int32.le_refl _) (by omega) (by decide) k3
        obtain ⟨Nk, hNk, rfl⟩ := wi_nat (L := Nn) (Int32.le_refl _) (by omega) (by decide) k4
        exact found10_tail hNa hNb hNn hNk (Nat.le_of_ble_eq_true rfl) (Nat.le_of_ble_eq_true rfl) C0 hE hA hr hlocks (by simp only [FO, k1, k2, k3, k4, Bool.and_self, if_true, nI_clamp (show Na < 2 ^ 31 by omega), nI_clamp (show Nb < 2 ^ 31 by omega), nI_clamp (show Nn < 2 ^ 31 by omega), nI_clamp (show Nk < 2 ^ 31 by omega)]) hS hl
      · skip
        have c_1530 := bi_z c_1530
        refine lv_ldc2 hx hb hown (hT _ mw_571) dX10_found_27 ?_
        exact r_lret () C0 hr hlocks hS (Nat.le_of_ble_eq_true rfl) (Nat.le_of_ble_eq_true rfl) dX10_found_30 (by first | rfl | decide +kernel | simp [bi, FO, TS, c_1522, c_1526, c_1530]) P_nil D_nil
set_option maxHeartbeats 4000000 in
set_option maxRecDepth 100000 in
theorem c_X10_found_1568 (l : Launch) (D : va_G) (T : Nat → ClassId) (sz : Nat) (z1 : Nat) (z2 : Int32) (z3 : Int32) (z4 : Int32) (z5 : Int32) (z6 : Nat) (z7 : Nat) (z8 : Nat) (z9 : Nat) (z10 : Nat) (z11 : Nat) (z12 : Nat) (z13 : Nat) (z14 : Nat) (z15 : Nat) (z16 : Nat) : Met l yX10_found (.code yX10_found cX10_found 9 (some .long) :: TB) { frames := 2, cells := 0, slots := 0, locals := 43 } (PC D T [.ref z1, .int z2, .int z3, .int z4, .int z5, .int 1] [(z1, .inr (10, [.ref z6, .ref z7, .ref z8, .ref z9, .ref z10, .ref z11, .ref z12, .ref z13, .ref z14, .ref z15, .ref z16, .int 1, .int (-1), .int 0, .int (-1)]))] sz) (Ql (S := Unit) (fun (r : Int64) (_ : Unit) => r = (FO z2 z3 z4 z5 1)) (fun (_ : Unit) => []) D (va_A [(z1, .inr (10, [.ref z6, .ref z7, .ref z8, .ref z9, .ref z10, .ref z11, .ref z12, .ref z13, .ref z14, .ref z15, .ref z16, .int 1, .int (-1), .int 0, .int (-1)]))] sz)) 0 0 (va_A [(z1, .inr (10, [.ref z6, .ref z7, .ref z8, .ref z9, .ref z10, .ref z11, .ref z12, .ref z13, .ref z14, .ref z15, .ref z16, .int 1, .int (-1), .int 0, .int (-1)]))] sz) := by
  refine ct_begin (Qc := Ql (S := Unit) (fun (r : Int64) (_ : Unit) => r = (FO z2 z3 z4 z5 1)) (fun (_ : Unit) => []) D) (by decide +kernel) (Nat.le_of_ble_eq_true rfl) ?_
  intro p e s m below meth c A ls C0 hr hlocks hnm hE hA hP hD hS hl
  have hx := C0.1
  have hb := C0.2.1
  have hml := C0.2.2.1
  have hown := C0.2.2.2.1
  have hT := C0.2.2.2.2
  have hK := hE.1
  have hl : lv_has ls 9 [(0, .ref z1), (1, .int z2), (2, .int z3), (3, .int z4), (4, .int z5), (5, .int 1)] := hl
  refine lv_iload_n hx hb dX10_found_0 rfl (lv_at hl 1 rfl) ?_
  refine lv_iload_n hx hb dX10_found_1 rfl (lv_at hl 2 rfl) ?_
  refine r_calli (wr := [(z1, .inr (10, [.ref z6, .ref z7, .ref z8, .ref z9, .ref z10, .ref z11, .ref z12, .ref z13, .ref z14, .ref z15, .ref z16, .int 1, .int (-1), .int 0, .int (-1)]))]) (r_runS (As := [.int z2, .int z3]) (rest := []) (wc := []) C0 hE (c_X10_isBatch_1502 l D T s.heap.size z2 z3) mw_633 mw_634 mw_7 mw_635 dn_632 rfl rfl ⟨Nat.le_of_ble_eq_true rfl, Nat.le_of_ble_eq_true rfl⟩ (hP.sub (ws' := []) [] rfl) (hD.sub (ws' := []) [] (by decide +kernel) rfl) hl.1 rfl (Nat.le_of_ble_eq_true rfl) dX10_found_2 ⟨Nat.le_of_ble_eq_true rfl, Nat.le_of_ble_eq_true rfl⟩) hP hD hS hA [] [0] rfl rfl (by decide +kernel) (by decide +kernel) (fun r1558 u H locs hq hP hD hS => ?_)
  have hq : r1558 = (bi (wi z2 1 50 && wi z3 0 z2)) := hq
  subst hq
  have hP : va_P D vwCl [(z1, .inr (10, [.ref z6, .ref z7, .ref z8, .ref z9, .ref z10, .ref z11, .ref z12, .ref z13, .ref z14, .ref z15, .ref z16, .int 1, .int (-1), .int 0, .int (-1)]))] H := hP
  have hD : va_D A [(z1, .inr (10, [.ref z6, .ref z7, .ref z8, .ref z9, .ref z10, .ref z11, .ref z12, .ref z13, .ref z14, .ref z15, .ref z16, .int 1, .int (-1), .int 0, .int (-1)]))] := hD
  refine W.widen (k := 0) (n := 0) (Nat.le_of_ble_eq_true rfl) (Nat.le_of_ble_eq_true rfl) ?_
  refine lv_if_eq (tgt := 27) hx hb dX10_found_5 (by decide) (fun c_1559 => ?_) (fun c_1559 => ?_)
  · skip
    have c_1559 := bi_z c_1559
    refine lv_ldc2 hx hb hown (hT _ mw_571) dX10_found_27 ?_
    exact r_lret () C0 hr hlocks hS (Nat.le_of_ble_eq_true rfl) (Nat.le_of_ble_eq_true rfl) dX10_found_30 (by first | rfl | decide +kernel | simp [bi, FO, TS, c_1559]) P_nil D_nil
  · skip
    have c_1559 := bi_nz c_1559
    refine lv_iload_n hx hb dX10_found_8 rfl (lv_at hl 3 rfl) ?_
    refine lv_iconst (v := 0) hx hb dX10_found_9 (by decide) ?_
    refine lv_iload_n hx hb dX10_found_10 rfl (lv_at hl 1 rfl) ?_
    refine r_calli (wr := [(z1, .inr (10, [.ref z6, .ref z7, .ref z8, .ref z9, .ref z10, .ref z11, .ref z12, .ref z13, .ref z14, .ref z15, .ref z16, .int 1, .int (-1), .int 0, .int (-1)]))]) (r_runS (As := [.int z4, .int 0, .int z2]) (rest := []) (wc := []) C0 hE (c_X10_within_1491 l D T H.size z4 z2) mw_483 mw_484 mw_7 mw_485 dn_482 rfl rfl ⟨Nat.le_of_ble_eq_true rfl, Nat.le_of_ble_eq_true rfl⟩ (hP.sub (ws' := []) [] rfl) (hD.sub (ws' := []) [] (by decide +kernel) rfl) hl.1 rfl (Nat.le_of_ble_eq_true rfl) dX10_found_11 ⟨Nat.le_of_ble_eq_true rfl, Nat.le_of_ble_eq_true rfl⟩) hP hD hS hA [] [0] rfl rfl (by decide +kernel) (by decide +kernel) (fun r1562 u H locs hq hP hD hS => ?_)
    have hq : r1562 = (bi (wi z4 0 z2)) := hq
    subst hq
    have hP : va_P D vwCl [(z1, .inr (10, [.ref z6, .ref z7, .ref z8, .ref z9, .ref z10, .ref z11, .ref z12, .ref z13, .ref z14, .ref z15, .ref z16, .int 1, .int (-1), .int 0, .int (-1)]))] H := hP
    have hD : va_D A [(z1, .inr (10, [.ref z6, .ref z7, .ref z8, .ref z9, .ref z10, .ref z11, .ref z12, .ref z13, .ref z14, .ref z15, .ref z16, .int 1, .int (-1), .int 0, .int (-1)]))] := hD
    refine W.widen (k := 0) (n := 0) (Nat.le_of_ble_eq_true rfl) (Nat.le_of_ble_eq_true rfl) ?_
    refine lv_if_eq (tgt := 27) hx hb dX10_found_14 (by decide) (fun c_1563 => ?_) (fun c_1563 => ?_)
    · skip
      have c_1563 := bi_z c_1563
      refine lv_ldc2 hx hb hown (hT _ mw_571) dX10_found_27 ?_
      exact r_lret () C0 hr hlocks hS (Nat.le_of_ble_eq_true rfl) (Nat.le_of_ble_eq_true rfl) dX10_found_30 (by first | rfl | decide +kernel | simp [bi, FO, TS, c_1559, c_1563]) P_nil D_nil
    · skip
      have c_1563 := bi_nz c_1563
      refine lv_iload hx hb dX10_found_17 (lv_at hl 4 rfl) ?_
      refine lv_iconst (v := 0) hx hb dX10_found_19 (by decide) ?_
      refine lv_iload_n hx hb dX10_found_20 rfl (lv_at hl 3 rfl) ?_
      refine r_calli (wr := [(z1, .inr (10, [.ref z6, .ref z7, .ref z8, .ref z9, .ref z10, .ref z11, .ref z12, .ref z13, .ref z14, .ref z15, .ref z16, .int 1, .int (-1), .int 0, .int (-1)]))]) (r_runS (As := [.int z5, .int 0, .int z4]) (rest := []) (wc := []) C0 hE (c_X10_within_1491 l D T H.size z5 z4) mw_483 mw_484 mw_7 mw_485 dn_482 rfl rfl ⟨Nat.le_of_ble_eq_true rfl, Nat.le_of_ble_eq_true rfl⟩ (hP.sub (ws' := []) [] rfl) (hD.sub (ws' := []) [] (by decide +kernel) rfl) hl.1 rfl (Nat.le_of_ble_eq_true rfl) dX10_found_21 ⟨Nat.le_of_ble_eq_true rfl, Nat.le_of_ble_eq_true rfl⟩) hP hD hS hA [] [0] rfl rfl (by decide +kernel) (by decide +kernel) (fun r1566 u H locs hq hP hD hS => ?_)
      have hq : r1566 = (bi (wi z5 0 z4)) := hq
      subst hq
      have hP : va_P D vwCl [(z1, .inr (10, [.ref z6, .ref z7, .ref z8, .ref z9, .ref z10, .ref z11, .ref z12, .ref z13, .ref z14, .ref z15, .ref z16, .int 1, .int (-1), .int 0, .int (-1)]))] H := hP
      have hD : va_D A [(z1, .inr (10, [.ref z6, .ref z7, .ref z8, .ref z9, .ref z10, .ref z11, .ref z12, .ref z13, .ref z14, .ref z15, .ref z16, .int 1, .int (-1), .int 0, .int (-1)]))] := hD
      refine W.widen (k := 0) (n := 0) (Nat.le_of_ble_eq_true rfl) (Nat.le_of_ble_eq_true rfl) ?_
      refine lv_if_ne (tgt := 31) hx hb dX10_found_24 (by decide) (fun c_1567 => ?_) (fun c_1567 => ?_)
      · skip
        have c_1567 := bi_nz c_1567
        have g1 := (Bool.and_eq_true _ _).mp c_1559
        have k1 := g1.1
        have k2 := g1.2
        have k3 := c_1563
        have k4 := c_1567
        obtain ⟨Na, hNa, rfl⟩ := wi_nat (L := 50) (by decide) (by decide) (by decide) k1
        obtain ⟨Nb, hNb, rfl⟩ := wi_nat (L := Na) (Int32.le_refl _) (by omega) (by decide) k2
        obtain ⟨Nn, hNn, rfl⟩ := wi_nat (L := Na) (Int32.le_refl _) (by omega) (by decide) k3
        obtain ⟨Nk, hNk, rfl⟩ := wi_nat (L := Nn) (Int32.le_refl _) (by omega) (by decide) k4
        exact found10_tail hNa hNb hNn hNk (Nat.le_of_ble_eq_true rfl) (Nat.le_of_ble_eq_true rfl) C0 hE hA hr hlocks (by simp only [FO, k1, k2, k3, k4, Bool.and_self, if_true, nI_clamp (show Na < 2 ^ 31 by omega), nI_clamp (show Nb < 2 ^ 31 by omega), nI_clamp (show Nn < 2 ^ 31 by omega), nI_clamp (show Nk < 2 ^ 31 by omega)]) hS hl
      · skip
        have c_1567 := bi_z c_1567
        refine lv_ldc2 hx hb hown (hT _ mw_571) dX10_found_27 ?_
        exact r_lret () C0 hr hlocks hS (Nat.le_of_ble_eq_true rfl) (Nat.le_of_ble_eq_true rfl) dX10_found_30 (by first | rfl | decide +kernel | simp [bi, FO, TS, c_1559, c_1563, c_1567]) P_nil D_nil
