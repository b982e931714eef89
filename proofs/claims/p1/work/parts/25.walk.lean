set_option maxHeartbeats 4000000 in
set_option maxRecDepth 100000 in
theorem sg_809 {p : Program} {l : Launch} {e : Env} {s : State} {m : MethodId} {args : Array Value} {below : List Frame} {meth : Method} {c : Code} {H : Heap} {locs : List Loc} {Q : State → Prop} {D : va_G} {T : Nat → ClassId} {A : Nat → Prop} {ls : Array Slot} (z1 : Nat) (z2 : Int32) (z3 : Nat) (f803 : Nat → Int32) (C0 : CallFix p m c cX9_addFour 3 s args TB yX9_addFour.cls) (hE : EV D T s) (hnm : meth.name = yX9_addFour.name) (hA : ∀ q, s.heap.size ≤ q → A q) (hP : va_P D vwCl [(z1, .inr (9, [.ref z3, .int 17])), (z3, .inl (T 2, 700, .inl f803))] H) (hD : va_D A [(z1, .inr (9, [.ref z3, .int 17])), (z3, .inl (T 2, 700, .inl f803))]) (hS : va_S A s.heap H locs) (hl : lv_has ls 3 [(2, .int 16), (0, .ref z1), (1, .int z2)])
    (kk : ∀ (x805 : Int32) (f806 : Nat → Int32) (x807 : Int32) (f808 : Nat → Int32) (H : Heap) (locs : List Loc) (ls : Array Slot), va_P D vwCl [(z1, .inr (9, [.ref z3, .int 19])), (z3, .inl (T 2, 700, .inl f808))] H → va_D A [(z1, .inr (9, [.ref z3, .int 19])), (z3, .inl (T 2, 700, .inl f808))] → va_S A s.heap H locs → lv_has ls 3 [(2, .int 0), (0, .ref z1), (1, .int z2)] → W p l e { frames := 0, cells := 0, slots := 0, locals := 0 } s m args below meth c H locs 0 0 Q (F0 m 36 ls [.int 1, .int 19, .ref z1])) : W p l e { frames := 0, cells := 0, slots := 0, locals := 0 } s m args below meth c H locs 0 0 Q (F0 m 37 ls [.int 18, .ref z1]) := by
  have hx := C0.1
  have hb := C0.2.1
  have hml := C0.2.2.1
  have hown := C0.2.2.2.1
  have hT := C0.2.2.2.2
  have hK := hE.1
  refine r_put (v := .int 18) (ty := .int) (fs1 := [.ref z3, .int 18]) (ws1 := [(z1, .inr (9, [.ref z3, .int 18])), (z3, .inl (T 2, 700, .inl f803))]) C0 hE ffX9_1 tyX9 tyX9_ok nmX9 mw_27 pf_29 hP hD hS 0 rfl rfl rfl (Nat.le_of_ble_eq_true rfl) rfl rfl dX9_addFour_37 (fun H locs hP hD hS => ?_)
  refine lv_iinc (v := 8) (lv' := [(2, .int 8), (0, .ref z1), (1, .int z2)]) hx hb dX9_addFour_40 hl (k := 0) rfl (by decide +kernel) (by decide) rfl (fun ls hl => ?_)
  refine lv_goto (tgt := 3) hx hb dX9_addFour_43 (by decide) ?_
  refine lv_iload_n hx hb dX9_addFour_3 rfl (lv_at hl 0 rfl) ?_
  refine lv_if_lt (tgt := 46) hx hb dX9_addFour_4 (by decide) (fun hc => absurd hc (by decide +kernel)) (fun _ => ?_)
  refine lv_aload_n hx hb dX9_addFour_7 rfl (lv_at hl 1 rfl) ?_
  refine r_get (v := .int 18) C0 hE ffX9_1 mw_27 hP 0 rfl rfl dX9_addFour_8 ?_
  refine lv_sipush (v := 700) hx hb dX9_addFour_11 (by decide) ?_
  refine lv_icmp_ge (tgt := 46) hx hb dX9_addFour_14 (by decide) (fun hc => absurd hc (by decide +kernel)) (fun _ => ?_)
  refine lv_aload_n hx hb dX9_addFour_17 rfl (lv_at hl 1 rfl) ?_
  refine r_get (v := .ref z3) C0 hE ffX9_0 mw_24 hP 0 rfl rfl dX9_addFour_18 ?_
  refine lv_aload_n hx hb dX9_addFour_21 rfl (lv_at hl 1 rfl) ?_
  refine r_get (v := .int 18) C0 hE ffX9_1 mw_27 hP 0 rfl rfl dX9_addFour_22 ?_
  refine lv_iload_n hx hb dX9_addFour_25 rfl (lv_at hl 2 rfl) ?_
  refine lv_iload_n hx hb dX9_addFour_26 rfl (lv_at hl 0 rfl) ?_
  refine lv_iushr hx hb dX9_addFour_27 rfl ?_
  refine lv_topi (fun x805 ex805 => ?_)
  refine lv_i2b hx hb dX9_addFour_28 rfl ?_
  refine r_bastO hx hb hK hP hD hS 1 rfl (vp_lit (by decide +kernel)) dX9_addFour_29 (fun f806 H locs hP hD hS => ?_)
  have hP : va_P D vwCl [(z1, .inr (9, [.ref z3, .int 18])), (z3, .inl (T 2, 700, .inl f806))] H := hP
  have hD : va_D A [(z1, .inr (9, [.ref z3, .int 18])), (z3, .inl (T 2, 700, .inl f806))] := hD
  refine lv_aload_n hx hb dX9_addFour_30 rfl (lv_at hl 1 rfl) ?_
  refine lv_dup hx hb dX9_addFour_31 rfl ?_
  refine r_get (v := .int 18) C0 hE ffX9_1 mw_27 hP 0 rfl rfl dX9_addFour_32 ?_
  refine lv_iconst (v := 1) hx hb dX9_addFour_35 (by decide) ?_
  refine lv_iadd hx hb dX9_addFour_36 ?_
  refine r_ci (v := 19) (by decide +kernel) ?_
  refine r_put (v := .int 19) (ty := .int) (fs1 := [.ref z3, .int 19]) (ws1 := [(z1, .inr (9, [.ref z3, .int 19])), (z3, .inl (T 2, 700, .inl f806))]) C0 hE ffX9_1 tyX9 tyX9_ok nmX9 mw_27 pf_29 hP hD hS 0 rfl rfl rfl (Nat.le_of_ble_eq_true rfl) rfl rfl dX9_addFour_37 (fun H locs hP hD hS => ?_)
  refine lv_iinc (v := 0) (lv' := [(2, .int 0), (0, .ref z1), (1, .int z2)]) hx hb dX9_addFour_40 hl (k := 0) rfl (by decide +kernel) (by decide) rfl (fun ls hl => ?_)
  refine lv_goto (tgt := 3) hx hb dX9_addFour_43 (by decide) ?_
  refine lv_iload_n hx hb dX9_addFour_3 rfl (lv_at hl 0 rfl) ?_
  refine lv_if_lt (tgt := 46) hx hb dX9_addFour_4 (by decide) (fun hc => absurd hc (by decide +kernel)) (fun _ => ?_)
  refine lv_aload_n hx hb dX9_addFour_7 rfl (lv_at hl 1 rfl) ?_
  refine r_get (v := .int 19) C0 hE ffX9_1 mw_27 hP 0 rfl rfl dX9_addFour_8 ?_
  refine lv_sipush (v := 700) hx hb dX9_addFour_11 (by decide) ?_
  refine lv_icmp_ge (tgt := 46) hx hb dX9_addFour_14 (by decide) (fun hc => absurd hc (by decide +kernel)) (fun _ => ?_)
  refine lv_aload_n hx hb dX9_addFour_17 rfl (lv_at hl 1 rfl) ?_
  refine r_get (v := .ref z3) C0 hE ffX9_0 mw_24 hP 0 rfl rfl dX9_addFour_18 ?_
  refine lv_aload_n hx hb dX9_addFour_21 rfl (lv_at hl 1 rfl) ?_
  refine r_get (v := .int 19) C0 hE ffX9_1 mw_27 hP 0 rfl rfl dX9_addFour_22 ?_
  refine lv_iload_n hx hb dX9_addFour_25 rfl (lv_at hl 2 rfl) ?_
  refine lv_iload_n hx hb dX9_addFour_26 rfl (lv_at hl 0 rfl) ?_
  refine lv_iushr hx hb dX9_addFour_27 rfl ?_
  refine lv_topi (fun x807 ex807 => ?_)
  refine lv_i2b hx hb dX9_addFour_28 rfl ?_
  refine r_bastO hx hb hK hP hD hS 1 rfl (vp_lit (by decide +kernel)) dX9_addFour_29 (fun f808 H locs hP hD hS => ?_)
  have hP : va_P D vwCl [(z1, .inr (9, [.ref z3, .int 19])), (z3, .inl (T 2, 700, .inl f808))] H := hP
  have hD : va_D A [(z1, .inr (9, [.ref z3, .int 19])), (z3, .inl (T 2, 700, .inl f808))] := hD
  refine lv_aload_n hx hb dX9_addFour_30 rfl (lv_at hl 1 rfl) ?_
  refine lv_dup hx hb dX9_addFour_31 rfl ?_
  refine r_get (v := .int 19) C0 hE ffX9_1 mw_27 hP 0 rfl rfl dX9_addFour_32 ?_
  refine lv_iconst (v := 1) hx hb dX9_addFour_35 (by decide) ?_
  exact kk x805 f806 x807 f808 H locs ls hP hD hS hl
set_option maxHeartbeats 4000000 in
set_option maxRecDepth 100000 in
theorem c_X9_addFour_810 (l : Launch) (D : va_G) (T : Nat → ClassId) (sz : Nat) (z1 : Nat) (z2 : Int32) (z3 : Nat) (z4 : Nat → Int32) : Met l yX9_addFour (.code yX9_addFour cX9_addFour 3 none :: TB) { frames := 0, cells := 0, slots := 0, locals := 0 } (PC D T [.ref z1, .int z2] [(z1, .inr (9, [.ref z3, .int 16])), (z3, .inl (T 2, 700, .inl z4))] sz) (Qv (S := (Nat → Int32)) (fun (f808 : (Nat → Int32)) => [(z1, .inr (9, [.ref z3, .int 20])), (z3, .inl (T 2, 700, .inl f808))]) D (va_A [(z1, .inr (9, [.ref z3, .int 16])), (z3, .inl (T 2, 700, .inl z4))] sz)) 0 0 (va_A [(z1, .inr (9, [.ref z3, .int 16])), (z3, .inl (T 2, 700, .inl z4))] sz) := by
  refine ct_begin (Qc := Qv (S := (Nat → Int32)) (fun (f808 : (Nat → Int32)) => [(z1, .inr (9, [.ref z3, .int 20])), (z3, .inl (T 2, 700, .inl f808))]) D) (by decide +kernel) (Nat.le_of_ble_eq_true rfl) ?_
  intro p e s m below meth c A ls C0 hr hlocks hnm hE hA hP hD hS hl
  have hx := C0.1
  have hb := C0.2.1
  have hml := C0.2.2.1
  have hown := C0.2.2.2.1
  have hT := C0.2.2.2.2
  have hK := hE.1
  have hl : lv_has ls 3 [(0, .ref z1), (1, .int z2)] := hl
  refine sg_804 z1 z2 z3 z4 C0 hE hnm hA hP hD hS hl (fun x800 f801 x802 f803 H locs ls hP hD hS hl => ?_)
  refine sg_809 z1 z2 z3 f803 C0 hE hnm hA hP hD hS hl (fun x805 f806 x807 f808 H locs ls hP hD hS hl => ?_)
  refine lv_iadd hx hb dX9_addFour_36 ?_
  refine r_ci (v := 20) (by decide +kernel) ?_
  refine r_put (v := .int 20) (ty := .int) (fs1 := [.ref z3, .int 20]) (ws1 := [(z1, .inr (9, [.ref z3, .int 20])), (z3, .inl (T 2, 700, .inl f808))]) C0 hE ffX9_1 tyX9 tyX9_ok nmX9 mw_27 pf_29 hP hD hS 0 rfl rfl rfl (Nat.le_of_ble_eq_true rfl) rfl rfl dX9_addFour_37 (fun H locs hP hD hS => ?_)
  refine lv_iinc (v := (-8)) (lv' := [(2, .int (-8)), (0, .ref z1), (1, .int z2)]) hx hb dX9_addFour_40 hl (k := 0) rfl (by decide +kernel) (by decide) rfl (fun ls hl => ?_)
  refine lv_goto (tgt := 3) hx hb dX9_addFour_43 (by decide) ?_
  refine lv_iload_n hx hb dX9_addFour_3 rfl (lv_at hl 0 rfl) ?_
  refine lv_if_lt (tgt := 46) hx hb dX9_addFour_4 (by decide) (fun _ => ?_) (fun hc => absurd (by decide +kernel) hc)
  exact r_vret (f808) C0 hr hlocks hS (Nat.le_of_ble_eq_true rfl) (Nat.le_of_ble_eq_true rfl) dX9_addFour_46 hP hD
set_option maxHeartbeats 4000000 in
set_option maxRecDepth 100000 in
theorem c_X10_feed_867 (l : Launch) (D : va_G) (T : Nat → ClassId) (sz : Nat) (z1 : Nat) (z2 : Int32) (z3 : Int32) (z4 : Int32) (z5 : Int32) (z6 : Int32) (z7 : Nat) (z8 : Nat) (z9 : Nat) (z10 : Nat) (z11 : Nat) (z12 : Nat) (z13 : Nat) (z14 : Nat) (z15 : Nat) (z16 : Nat) (z17 : Nat) (z18 : Nat) : Met l yX10_feed (.code yX10_feed cX10_feed 6 (some .int) :: TB) { frames := 1, cells := 0, slots := 0, locals := 22 } (PC D T [.ref z1, .int z2, .int z3, .int z4, .int z5, .int z6] [(z1, .inr (10, [.ref z7, .ref z8, .ref z9, .ref z10, .ref z11, .ref z12, .ref z13, .ref z14, .ref z15, .ref z16, .ref z17, .int 1, .int (-1), .int 0, .int (-1)])), (z7, .inr (9, [.ref z18, .int 0])), (z18, .inl (T 2, 700, .inl (fun _ => 0)))] sz) (Qi (S := (Nat → Int32)) (fun (r : Int32) (f866 : (Nat → Int32)) => r = 20) (fun (f866 : (Nat → Int32)) => [(z1, .inr (10, [.ref z7, .ref z8, .ref z9, .ref z10, .ref z11, .ref z12, .ref z13, .ref z14, .ref z15, .ref z16, .ref z17, .int 1, .int (-1), .int 0, .int (-1)])), (z7, .inr (9, [.ref z18, .int 20])), (z18, .inl (T 2, 700, .inl f866))]) D (va_A [(z1, .inr (10, [.ref z7, .ref z8, .ref z9, .ref z10, .ref z11, .ref z12, .ref z13, .ref z14, .ref z15, .ref z16, .ref z17, .int 1, .int (-1), .int 0, .int (-1)])), (z7, .inr (9, [.ref z18, .int 0])), (z18, .inl (T 2, 700, .inl (fun _ => 0)))] sz)) 0 0 (va_A [(z1, .inr (10, [.ref z7, .ref z8, .ref z9, .ref z10, .ref z11, .ref z12, .ref z13, .ref z14, .ref z15, .ref z16, .ref z17, .int 1, .int (-1), .int 0, .int (-1)])), (z7, .inr (9, [.ref z18, .int 0])), (z18, .inl (T 2, 700, .inl (fun _ => 0)))] sz) := by
  refine ct_begin (Qc := Qi (S := (Nat → Int32)) (fun (r : Int32) (f866 : (Nat → Int32)) => r = 20) (fun (f866 : (Nat → Int32)) => [(z1, .inr (10, [.ref z7, .ref z8, .ref z9, .ref z10, .ref z11, .ref z12, .ref z13, .ref z14, .ref z15, .ref z16, .ref z17, .int 1, .int (-1), .int 0, .int (-1)])), (z7, .inr (9, [.ref z18, .int 20])), (z18, .inl (T 2, 700, .inl f866))]) D) (by decide +kernel) (Nat.le_of_ble_eq_true rfl) ?_
  intro p e s m below meth c A ls C0 hr hlocks hnm hE hA hP hD hS hl
  have hx := C0.1
  have hb := C0.2.1
  have hml := C0.2.2.1
  have hown := C0.2.2.2.1
  have hT := C0.2.2.2.2
  have hK := hE.1
  have hl : lv_has ls 6 [(0, .ref z1), (1, .int z2), (2, .int z3), (3, .int z4), (4, .int z5), (5, .int z6)] := hl
  refine lv_aload_n hx hb dX10_feed_0 rfl (lv_at hl 0 rfl) ?_
  refine r_get (v := .ref z7) C0 hE ffX10_0 mw_33 hP 0 rfl rfl dX10_feed_1 ?_
  refine r_get (v := .int 0) C0 hE ffX9_1 mw_476 hP 1 rfl rfl dX10_feed_4 ?_
  refine lv_sipush (v := 680) hx hb dX10_feed_7 (by decide) ?_
  refine lv_icmp_le (tgt := 15) hx hb dX10_feed_10 (by decide) (fun _ => ?_) (fun hc => absurd (by decide +kernel) hc)
  refine lv_aload_n hx hb dX10_feed_15 rfl (lv_at hl 0 rfl) ?_
  refine r_get (v := .ref z7) C0 hE ffX10_0 mw_33 hP 0 rfl rfl dX10_feed_16 ?_
  refine lv_iload_n hx hb dX10_feed_19 rfl (lv_at hl 1 rfl) ?_
  refine r_callv (wr := [(z1, .inr (10, [.ref z7, .ref z8, .ref z9, .ref z10, .ref z11, .ref z12, .ref z13, .ref z14, .ref z15, .ref z16, .ref z17, .int 1, .int (-1), .int 0, .int (-1)]))]) (r_runV (As := [.int z2]) (rest := []) (wc := [(z7, .inr (9, [.ref z18, .int 0])), (z18, .inl (T 2, 700, .inl (fun _ => 0)))]) (ci := 9) C0 hE (c_X9_addFour_722 l D T s.heap.size z7 z2 z18) mw_478 mw_479 mw_480 mw_21 mw_481 dn_477 rfl rfl ⟨Nat.le_of_ble_eq_true rfl, Nat.le_of_ble_eq_true rfl⟩ (hP.sub (ws' := [(z7, .inr (9, [.ref z18, .int 0])), (z18, .inl (T 2, 700, .inl (fun _ => 0)))]) [1, 2] rfl) (hD.sub (ws' := [(z7, .inr (9, [.ref z18, .int 0])), (z18, .inl (T 2, 700, .inl (fun _ => 0)))]) [1, 2] (by decide +kernel) rfl) rfl rfl rfl hl.1 rfl (Nat.le_of_ble_eq_true rfl) dX10_feed_20 ⟨Nat.le_of_ble_eq_true rfl, Nat.le_of_ble_eq_true rfl⟩) hP hD hS hA [1, 2] [0] rfl rfl (by decide +kernel) (by decide +kernel) (fun  u H locs hP hD hS => ?_)
  obtain ⟨f822, rfl⟩ : ∃ z, z = u := ⟨_, rfl⟩
  have hP : va_P D vwCl [(z1, .inr (10, [.ref z7, .ref z8, .ref z9, .ref z10, .ref z11, .ref z12, .ref z13, .ref z14, .ref z15, .ref z16, .ref z17, .int 1, .int (-1), .int 0, .int (-1)])), (z7, .inr (9, [.ref z18, .int 4])), (z18, .inl (T 2, 700, .inl f822))] H := hP
  have hD : va_D A [(z1, .inr (10, [.ref z7, .ref z8, .ref z9, .ref z10, .ref z11, .ref z12, .ref z13, .ref z14, .ref z15, .ref z16, .ref z17, .int 1, .int (-1), .int 0, .int (-1)])), (z7, .inr (9, [.ref z18, .int 4])), (z18, .inl (T 2, 700, .inl f822))] := hD
  refine W.widen (k := 0) (n := 0) (Nat.le_of_ble_eq_true rfl) (Nat.le_of_ble_eq_true rfl) ?_
  refine lv_aload_n hx hb dX10_feed_23 rfl (lv_at hl 0 rfl) ?_
  refine r_get (v := .ref z7) C0 hE ffX10_0 mw_33 hP 0 rfl rfl dX10_feed_24 ?_
  refine lv_iload_n hx hb dX10_feed_27 rfl (lv_at hl 2 rfl) ?_
  refine r_callv (wr := [(z1, .inr (10, [.ref z7, .ref z8, .ref z9, .ref z10, .ref z11, .ref z12, .ref z13, .ref z14, .ref z15, .ref z16, .ref z17, .int 1, .int (-1), .int 0, .int (-1)]))]) (r_runV (As := [.int z3]) (rest := []) (wc := [(z7, .inr (9, [.ref z18, .int 4])), (z18, .inl (T 2, 700, .inl f822))]) (ci := 9) C0 hE (c_X9_addFour_744 l D T H.size z7 z3 z18 f822) mw_478 mw_479 mw_480 mw_21 mw_481 dn_477 rfl rfl ⟨Nat.le_of_ble_eq_true rfl, Nat.le_of_ble_eq_true rfl⟩ (hP.sub (ws' := [(z7, .inr (9, [.ref z18, .int 4])), (z18, .inl (T 2, 700, .inl f822))]) [1, 2] rfl) (hD.sub (ws' := [(z7, .inr (9, [.ref z18, .int 4])), (z18, .inl (T 2, 700, .inl f822))]) [1, 2] (by decide +kernel) rfl) rfl rfl rfl hl.1 rfl (Nat.le_of_ble_eq_true rfl) dX10_feed_28 ⟨Nat.le_of_ble_eq_true rfl, Nat.le_of_ble_eq_true rfl⟩) hP hD hS hA [1, 2] [0] rfl rfl (by decide +kernel) (by decide +kernel) (fun  u H locs hP hD hS => ?_)
  obtain ⟨f833, rfl⟩ : ∃ z, z = u := ⟨_, rfl⟩
  have hP : va_P D vwCl [(z1, .inr (10, [.ref z7, .ref z8, .ref z9, .ref z10, .ref z11, .ref z12, .ref z13, .ref z14, .ref z15, .ref z16, .ref z17, .int 1, .int (-1), .int 0, .int (-1)])), (z7, .inr (9, [.ref z18, .int 8])), (z18, .inl (T 2, 700, .inl f833))] H := hP
  have hD : va_D A [(z1, .inr (10, [.ref z7, .ref z8, .ref z9, .ref z10, .ref z11, .ref z12, .ref z13, .ref z14, .ref z15, .ref z16, .ref z17, .int 1, .int (-1), .int 0, .int (-1)])), (z7, .inr (9, [.ref z18, .int 8])), (z18, .inl (T 2, 700, .inl f833))] := hD
  refine W.widen (k := 0) (n := 0) (Nat.le_of_ble_eq_true rfl) (Nat.le_of_ble_eq_true rfl) ?_
  refine lv_aload_n hx hb dX10_feed_31 rfl (lv_at hl 0 rfl) ?_
  refine r_get (v := .ref z7) C0 hE ffX10_0 mw_33 hP 0 rfl rfl dX10_feed_32 ?_
  refine lv_iload_n hx hb dX10_feed_35 rfl (lv_at hl 3 rfl) ?_
  refine r_callv (wr := [(z1, .inr (10, [.ref z7, .ref z8, .ref z9, .ref z10, .ref z11, .ref z12, .ref z13, .ref z14, .ref z15, .ref z16, .ref z17, .int 1, .int (-1), .int 0, .int (-1)]))]) (r_runV (As := [.int z4]) (rest := []) (wc := [(z7, .inr (9, [.ref z18, .int 8])), (z18, .inl (T 2, 700, .inl f833))]) (ci := 9) C0 hE (c_X9_addFour_766 l D T H.size z7 z4 z18 f833) mw_478 mw_479 mw_480 mw_21 mw_481 dn_477 rfl rfl ⟨Nat.le_of_ble_eq_true rfl, Nat.le_of_ble_eq_true rfl⟩ (hP.sub (ws' := [(z7, .inr (9, [.ref z18, .int 8])), (z18, .inl (T 2, 700, .inl f833))]) [1, 2] rfl) (hD.sub (ws' := [(z7, .inr (9, [.ref z18, .int 8])), (z18, .inl (T 2, 700, .inl f833))]) [1, 2] (by decide +kernel) rfl) rfl rfl rfl hl.1 rfl (Nat.le_of_ble_eq_true rfl) dX10_feed_36 ⟨Nat.le_of_ble_eq_true rfl, Nat.le_of_ble_eq_true rfl⟩) hP hD hS hA [1, 2] [0] rfl rfl (by decide +kernel) (by decide +kernel) (fun  u H locs hP hD hS => ?_)
  obtain ⟨f844, rfl⟩ : ∃ z, z = u := ⟨_, rfl⟩
  have hP : va_P D vwCl [(z1, .inr (10, [.ref z7, .ref z8, .ref z9, .ref z10, .ref z11, .ref z12, .ref z13, .ref z14, .ref z15, .ref z16, .ref z17, .int 1, .int (-1), .int 0, .int (-1)])), (z7, .inr (9, [.ref z18, .int 12])), (z18, .inl (T 2, 700, .inl f844))] H := hP
  have hD : va_D A [(z1, .inr (10, [.ref z7, .ref z8, .ref z9, .ref z10, .ref z11, .ref z12, .ref z13, .ref z14, .ref z15, .ref z16, .ref z17, .int 1, .int (-1), .int 0, .int (-1)])), (z7, .inr (9, [.ref z18, .int 12])), (z18, .inl (T 2, 700, .inl f844))] := hD
  refine W.widen (k := 0) (n := 0) (Nat.le_of_ble_eq_true rfl) (Nat.le_of_ble_eq_true rfl) ?_
  refine lv_aload_n hx hb dX10_feed_39 rfl (lv_at hl 0 rfl) ?_
  refine r_get (v := .ref z7) C0 hE ffX10_0 mw_33 hP 0 rfl rfl dX10_feed_40 ?_
  refine lv_iload hx hb dX10_feed_43 (lv_at hl 4 rfl) ?_
  refine r_callv (wr := [(z1, .inr (10, [.ref z7, .ref z8, .ref z9, .ref z10, .ref z11, .ref z12, .ref z13, .ref z14, .ref z15, .ref z16, .ref z17, .int 1, .int (-1), .int 0, .int (-1)]))]) (r_runV (As := [.int z5]) (rest := []) (wc := [(z7, .inr (9, [.ref z18, .int 12])), (z18, .inl (T 2, 700, .inl f844))]) (ci := 9) C0 hE (c_X9_addFour_788 l D T H.size z7 z5 z18 f844) mw_478 mw_479 mw_480 mw_21 mw_481 dn_477 rfl rfl ⟨Nat.le_of_ble_eq_true rfl, Nat.le_of_ble_eq_true rfl⟩ (hP.sub (ws' := [(z7, .inr (9, [.ref z18, .int 12])), (z18, .inl (T 2, 700, .inl f844))]) [1, 2] rfl) (hD.sub (ws' := [(z7, .inr (9, [.ref z18, .int 12])), (z18, .inl (T 2, 700, .inl f844))]) [1, 2] (by decide +kernel) rfl) rfl rfl rfl hl.1 rfl (Nat.le_of_ble_eq_true rfl) dX10_feed_45 ⟨Nat.le_of_ble_eq_true rfl, Nat.le_of_ble_eq_true rfl⟩) hP hD hS hA [1, 2] [0] rfl rfl (by decide +kernel) (by decide +kernel) (fun  u H locs hP hD hS => ?_)
  obtain ⟨f855, rfl⟩ : ∃ z, z = u := ⟨_, rfl⟩
  have hP : va_P D vwCl [(z1, .inr (10, [.ref z7, .ref z8, .ref z9, .ref z10, .ref z11, .ref z12, .ref z13, .ref z14, .ref z15, .ref z16, .ref z17, .int 1, .int (-1), .int 0, .int (-1)])), (z7, .inr (9, [.ref z18, .int 16])), (z18, .inl (T 2, 700, .inl f855))] H := hP
  have hD : va_D A [(z1, .inr (10, [.ref z7, .ref z8, .ref z9, .ref z10, .ref z11, .ref z12, .ref z13, .ref z14, .ref z15, .ref z16, .ref z17, .int 1, .int (-1), .int 0, .int (-1)])), (z7, .inr (9, [.ref z18, .int 16])), (z18, .inl (T 2, 700, .inl f855))] := hD
  refine W.widen (k := 0) (n := 0) (Nat.le_of_ble_eq_true rfl) (Nat.le_of_ble_eq_true rfl) ?_
  refine lv_aload_n hx hb dX10_feed_48 rfl (lv_at hl 0 rfl) ?_
  refine r_get (v := .ref z7) C0 hE ffX10_0 mw_33 hP 0 rfl rfl dX10_feed_49 ?_
  refine lv_iload hx hb dX10_feed_52 (lv_at hl 5 rfl) ?_
  refine r_callv (wr := [(z1, .inr (10, [.ref z7, .ref z8, .ref z9, .ref z10, .ref z11, .ref z12, .ref z13, .ref z14, .ref z15, .ref z16, .ref z17, .int 1, .int (-1), .int 0, .int (-1)]))]) (r_runV (As := [.int z6]) (rest := []) (wc := [(z7, .inr (9, [.ref z18, .int 16])), (z18, .inl (T 2, 700, .inl f855))]) (ci := 9) C0 hE (c_X9_addFour_810 l D T H.size z7 z6 z18 f855) mw_478 mw_479 mw_480 mw_21 mw_481 dn_477 rfl rfl ⟨Nat.le_of_ble_eq_true rfl, Nat.le_of_ble_eq_true rfl⟩ (hP.sub (ws' := [(z7, .inr (9, [.ref z18, .int 16])), (z18, .inl (T 2, 700, .inl f855))]) [1, 2] rfl) (hD.sub (ws' := [(z7, .inr (9, [.ref z18, .int 16])), (z18, .inl (T 2, 700, .inl f855))]) [1, 2] (by decide +kernel) rfl) rfl rfl rfl hl.1 rfl (Nat.le_of_ble_eq_true rfl) dX10_feed_54 ⟨Nat.le_of_ble_eq_true rfl, Nat.le_of_ble_eq_true rfl⟩) hP hD hS hA [1, 2] [0] rfl rfl (by decide +kernel) (by decide +kernel) (fun  u H locs hP hD hS => ?_)
  obtain ⟨f866, rfl⟩ : ∃ z, z = u := ⟨_, rfl⟩
  have hP : va_P D vwCl [(z1, .inr (10, [.ref z7, .ref z8, .ref z9, .ref z10, .ref z11, .ref z12, .ref z13, .ref z14, .ref z15, .ref z16, .ref z17, .int 1, .int (-1), .int 0, .int (-1)])), (z7, .inr (9, [.ref z18, .int 20])), (z18, .inl (T 2, 700, .inl f866))] H := hP
  have hD : va_D A [(z1, .inr (10, [.ref z7, .ref z8, .ref z9, .ref z10, .ref z11, .ref z12, .ref z13, .ref z14, .ref z15, .ref z16, .ref z17, .int 1, .int (-1), .int 0, .int (-1)])), (z7, .inr (9, [.ref z18, .int 20])), (z18, .inl (T 2, 700, .inl f866))] := hD
  refine W.widen (k := 0) (n := 0) (Nat.le_of_ble_eq_true rfl) (Nat.le_of_ble_eq_true rfl) ?_
  refine lv_aload_n hx hb dX10_feed_57 rfl (lv_at hl 0 rfl) ?_
  refine r_get (v := .ref z7) C0 hE ffX10_0 mw_33 hP 0 rfl rfl dX10_feed_58 ?_
  refine r_get (v := .int 20) C0 hE ffX9_1 mw_476 hP 1 rfl rfl dX10_feed_61 ?_
  exact r_iret (f866) C0 hr hlocks hS (Nat.le_of_ble_eq_true rfl) (Nat.le_of_ble_eq_true rfl) dX10_feed_64 rfl hP hD
set_option maxHeartbeats 4000000 in
set_option maxRecDepth 100000 in
theorem c_X10_end_872 (l : Launch) (D : va_G) (T : Nat → ClassId) (sz : Nat) (z1 : Nat) (z2 : Int32) (z3 : Nat) (z4 : Nat) (z5 : Nat) (z6 : Nat) (z7 : Nat) (z8 : Nat) (z9 : Nat) (z10 : Nat) (z11 : Nat) (z12 : Nat) (z13 : Nat) (z14 : Nat) : Met l yX10_end (.code yX10_end cX10_end 2 (some .boolean) :: TB) { frames := 0, cells := 0, slots := 0, locals := 0 } (PC D T [.ref z1, .int z2] [(z1, .inr (10, [.ref z3, .ref z4, .ref z5, .ref z6, .ref z7, .ref z8, .ref z9, .ref z10, .ref z11, .ref z12, .ref z13, .int 1, .int (-1), .int 0, .int (-1)])), (z3, .inr (9, [.ref z14, .int 0]))] sz) (Qi (S := Unit) (fun (r : Int32) (_ : Unit) => r = (if z2 < 0 then 0 else if 0 < z2 then 0 else 1)) (fun (_ : Unit) => []) D (va_A [(z1, .inr (10, [.ref z3, .ref z4, .ref z5, .ref z6, .ref z7, .ref z8, .ref z9, .ref z10, .ref z11, .ref z12, .ref z13, .int 1, .int (-1), .int 0, .int (-1)])), (z3, .inr (9, [.ref z14, .int 0]))] sz)) 0 0 (va_A [(z1, .inr (10, [.ref z3, .ref z4, .ref z5, .ref z6, .ref z7, .ref z8, .ref z9, .ref z10, .ref z11, .ref z12, .ref z13, .int 1, .int (-1), .int 0, .int (-1)])), (z3, .inr (9, [.ref z14, .int 0]))] sz) := by
  refine ct_begin (Qc := Qi (S := Unit) (fun (r : Int32) (_ : Unit) => r = (if z2 < 0 then 0 else if 0 < z2 then 0 else 1)) (fun (_ : Unit) => []) D) (by decide +kernel) (Nat.le_of_ble_eq_true rfl) ?_
  intro p e s m below meth c A ls C0 hr hlocks hnm hE hA hP hD hS hl
  have hx := C0.1
  have hb := C0.2.1
  have hml := C0.2.2.1
  have hown := C0.2.2.2.1
  have hT := C0.2.2.2.2
  have hK := hE.1
  have hl : lv_has ls 2 [(0, .ref z1), (1, .int z2)] := hl
  refine lv_iload_n hx hb dX10_end_0 rfl (lv_at hl 1 rfl) ?_
  refine lv_if_lt (tgt := 15) hx hb dX10_end_1 (by decide) (fun c_870 => ?_) (fun c_870 => ?_)
  · skip
    refine lv_iconst (v := 0) hx hb dX10_end_15 (by decide) ?_
    exact r_zret () C0 hr (by decide +kernel) hlocks hS (Nat.le_of_ble_eq_true rfl) (Nat.le_of_ble_eq_true rfl) dX10_end_16 (by first | rfl | decide +kernel | simp [bi, FO, TS, c_870]) P_nil D_nil
  · skip
    refine lv_iload_n hx hb dX10_end_4 rfl (lv_at hl 1 rfl) ?_
    refine lv_aload_n hx hb dX10_end_5 rfl (lv_at hl 0 rfl) ?_
    refine r_get (v := .ref z3) C0 hE ffX10_0 mw_33 hP 0 rfl rfl dX10_end_6 ?_
    refine r_get (v := .int 0) C0 hE ffX9_1 mw_476 hP 1 rfl rfl dX10_end_9 ?_
    refine lv_icmp_le (tgt := 17) hx hb dX10_end_12 (by decide) (fun c_871 => ?_) (fun c_871 => ?_)
    · skip
      refine lv_aload_n hx hb dX10_end_17 rfl (lv_at hl 0 rfl) ?_
      refine r_get (v := .ref z3) C0 hE ffX10_0 mw_33 hP 0 rfl rfl dX10_end_18 ?_
      refine lv_iload_n hx hb dX10_end_21 rfl (lv_at hl 1 rfl) ?_
      refine r_put (v := .int z2) (ty := .int) (fs1 := [.ref z14, .int z2]) (ws1 := [(z1, .inr (10, [.ref z3, .ref z4, .ref z5, .ref z6, .ref z7, .ref z8, .ref z9, .ref z10, .ref z11, .ref z12, .ref z13, .int 1, .int (-1), .int 0, .int (-1)])), (z3, .inr (9, [.ref z14, .int z2]))]) C0 hE ffX9_1 tyX9 tyX9_ok nmX9 mw_476 pf_29 hP hD hS 1 rfl rfl rfl (Nat.le_of_ble_eq_true rfl) rfl rfl dX10_end_22 (fun H locs hP hD hS => ?_)
      refine lv_iconst (v := 1) hx hb dX10_end_25 (by decide) ?_
      exact r_zret () C0 hr (by decide +kernel) hlocks hS (Nat.le_of_ble_eq_true rfl) (Nat.le_of_ble_eq_true rfl) dX10_end_26 (by first | rfl | decide +kernel | simp [bi, FO, TS, c_870, c_871]) P_nil D_nil
    · skip
      refine lv_iconst (v := 0) hx hb dX10_end_15 (by decide) ?_
      exact r_zret () C0 hr (by decide +kernel) hlocks hS (Nat.le_of_ble_eq_true rfl) (Nat.le_of_ble_eq_true rfl) dX10_end_16 (by first | rfl | decide +kernel | simp [bi, FO, TS, c_870, c_871]) P_nil D_nil
set_option maxHeartbeats 4000000 in
set_option maxRecDepth 100000 in
theorem c_X10_within_877 (l : Launch) (D : va_G) (T : Nat → ClassId) (sz : Nat) (z1 : Int32) : Met l yX10_within (.code yX10_within cX10_within 3 (some .boolean) :: TB) { frames := 0, cells := 0, slots := 0, locals := 0 } (PC D T [.int z1, .int 1, .int 8] [] sz) (Qi (S := Unit) (fun (r : Int32) (_ : Unit) => r = (bi (wi z1 1 8))) (fun (_ : Unit) => []) D (va_A [] sz)) 0 0 (va_A [] sz) := by
  refine ct_begin (Qc := Qi (S := Unit) (fun (r : Int32) (_ : Unit) => r = (bi (wi z1 1 8))) (fun (_ : Unit) => []) D) (by decide +kernel) (Nat.le_of_ble_eq_true rfl) ?_
  intro p e s m below meth c A ls C0 hr hlocks hnm hE hA hP hD hS hl
  have hx := C0.1
  have hb := C0.2.1
  have hml := C0.2.2.1
  have hown := C0.2.2.2.1
  have hT := C0.2.2.2.2
  have hK := hE.1
  have hl : lv_has ls 3 [(0, .int z1), (1, .int 1), (2, .int 8)] := hl
  refine lv_iload_n hx hb dX10_within_0 rfl (lv_at hl 0 rfl) ?_
  refine lv_iload_n hx hb dX10_within_1 rfl (lv_at hl 1 rfl) ?_
  refine lv_icmp_lt (tgt := 14) hx hb dX10_within_2 (by decide) (fun c_875 => ?_) (fun c_875 => ?_)
  · skip
    refine lv_iconst (v := 0) hx hb dX10_within_14 (by decide) ?_
    exact r_zret () C0 hr (by decide +kernel) hlocks hS (Nat.le_of_ble_eq_true rfl) (Nat.le_of_ble_eq_true rfl) dX10_within_15 (wi_a c_875) P_nil D_nil
  · skip
    refine lv_iload_n hx hb dX10_within_5 rfl (lv_at hl 0 rfl) ?_
    refine lv_iload_n hx hb dX10_within_6 rfl (lv_at hl 2 rfl) ?_
    refine lv_icmp_gt (tgt := 14) hx hb dX10_within_7 (by decide) (fun c_876 => ?_) (fun c_876 => ?_)
    · skip
      refine lv_iconst (v := 0) hx hb dX10_within_14 (by decide) ?_
      exact r_zret () C0 hr (by decide +kernel) hlocks hS (Nat.le_of_ble_eq_true rfl) (Nat.le_of_ble_eq_true rfl) dX10_within_15 (wi_b c_876) P_nil D_nil
    · skip
      refine lv_iconst (v := 1) hx hb dX10_within_10 (by decide) ?_
      refine lv_goto (tgt := 15) hx hb dX10_within_11 (by decide) ?_
      exact r_zret () C0 hr (by decide +kernel) hlocks hS (Nat.le_of_ble_eq_true rfl) (Nat.le_of_ble_eq_true rfl) dX10_within_15 (wi_c c_875 c_876) P_nil D_nil
set_option maxHeartbeats 4000000 in
set_option maxRecDepth 100000 in
theorem c_X8_empty_884 (l : Launch) (D : va_G) (T : Nat → ClassId) (sz : Nat) (z1 : Nat) (z2 : Nat) (z3 : Nat) (z4 : Nat) (z5 : Nat) (z6 : Nat) (z7 : Nat) (z8 : Nat) (z9 : Nat) (z10 : Nat) : Met l yX8_empty (.code yX8_empty cX8_empty 1 none :: TB) { frames := 0, cells := 0, slots := 0, locals := 0 } (PC D T [.ref z1] [(z1, .inr (8, [.ref z2, .ref z3, .ref z4, .ref z5, .ref z6, .ref z7, .ref z8, .ref z9, .ref z10, .int 0, .int 0, .int 0, .int 0]))] sz) (Qv (S := Unit) (fun (_ : Unit) => [(z1, .inr (8, [.ref z2, .ref z3, .ref z4, .ref z5, .ref z6, .ref z7, .ref z8, .ref z9, .ref z10, .int 0, .int 0, .int 0, .int 0]))]) D (va_A [(z1, .inr (8, [.ref z2, .ref z3, .ref z4, .ref z5, .ref z6, .ref z7, .ref z8, .ref z9, .ref z10, .int 0, .int 0, .int 0, .int 0]))] sz)) 0 0 (va_A [(z1, .inr (8, [.ref z2, .ref z3, .ref z4, .ref z5, .ref z6, .ref z7, .ref z8, .ref z9, .ref z10, .int 0, .int 0, .int 0, .int 0]))] sz) := by
  refine ct_begin (Qc := Qv (S := Unit) (fun (_ : Unit) => [(z1, .inr (8, [.ref z2, .ref z3, .ref z4, .ref z5, .ref z6, .ref z7, .ref z8, .ref z9, .ref z10, .int 0, .int 0, .int 0, .int 0]))]) D) (by decide +kernel) (Nat.le_of_ble_eq_true rfl) ?_
  intro p e s m below meth c A ls C0 hr hlocks hnm hE hA hP hD hS hl
  have hx := C0.1
  have hb := C0.2.1
  have hml := C0.2.2.1
  have hown := C0.2.2.2.1
  have hT := C0.2.2.2.2
  have hK := hE.1
  have hl : lv_has ls 1 [(0, .ref z1)] := hl
  refine lv_aload_n hx hb dX8_empty_0 rfl (lv_at hl 0 rfl) ?_
  refine lv_iconst (v := 0) hx hb dX8_empty_1 (by decide) ?_
  refine r_put (v := .int 0) (ty := .int) (fs1 := [.ref z2, .ref z3, .ref z4, .ref z5, .ref z6, .ref z7, .ref z8, .ref z9, .ref z10, .int 0, .int 0, .int 0, .int 0]) (ws1 := [(z1, .inr (8, [.ref z2, .ref z3, .ref z4, .ref z5, .ref z6, .ref z7, .ref z8, .ref z9, .ref z10, .int 0, .int 0, .int 0, .int 0]))]) C0 hE ffX8_9 tyX8 tyX8_ok nmX8 mw_244 pf_29 hP hD hS 0 rfl rfl rfl (Nat.le_of_ble_eq_true rfl) rfl rfl dX8_empty_2 (fun H locs hP hD hS => ?_)
  refine lv_aload_n hx hb dX8_empty_5 rfl (lv_at hl 0 rfl) ?_
  refine lv_iconst (v := 0) hx hb dX8_empty_6 (by decide) ?_
  refine r_put (v := .int 0) (ty := .int) (fs1 := [.ref z2, .ref z3, .ref z4, .ref z5, .ref z6, .ref z7, .ref z8, .ref z9, .ref z10, .int 0, .int 0, .int 0, .int 0]) (ws1 := [(z1, .inr (8, [.ref z2, .ref z3, .ref z4, .ref z5, .ref z6, .ref z7, .ref z8, .ref z9, .ref z10, .int 0, .int 0, .int 0, .int 0]))]) C0 hE ffX8_10 tyX8 tyX8_ok nmX8 mw_246 pf_29 hP hD hS 0 rfl rfl rfl (Nat.le_of_ble_eq_true rfl) rfl rfl dX8_empty_7 (fun H locs hP hD hS => ?_)
  refine lv_aload_n hx hb dX8_empty_10 rfl (lv_at hl 0 rfl) ?_
  refine lv_iconst (v := 0) hx hb dX8_empty_11 (by decide) ?_
  refine r_put (v := .int 0) (ty := .int) (fs1 := [.ref z2, .ref z3, .ref z4, .ref z5, .ref z6, .ref z7, .ref z8, .ref z9, .ref z10, .int 0, .int 0, .int 0, .int 0]) (ws1 := [(z1, .inr (8, [.ref z2, .ref z3, .ref z4, .ref z5, .ref z6, .ref z7, .ref z8, .ref z9, .ref z10, .int 0, .int 0, .int 0, .int 0]))]) C0 hE ffX8_11 tyX8 tyX8_ok nmX8 mw_248 pf_29 hP hD hS 0 rfl rfl rfl (Nat.le_of_ble_eq_true rfl) rfl rfl dX8_empty_12 (fun H locs hP hD hS => ?_)
  refine lv_aload_n hx hb dX8_empty_15 rfl (lv_at hl 0 rfl) ?_
  refine lv_iconst (v := 0) hx hb dX8_empty_16 (by decide) ?_
  refine r_put (v := .int 0) (ty := .int) (fs1 := [.ref z2, .ref z3, .ref z4, .ref z5, .ref z6, .ref z7, .ref z8, .ref z9, .ref z10, .int 0, .int 0, .int 0, .int 0]) (ws1 := [(z1, .inr (8, [.ref z2, .ref z3, .ref z4, .ref z5, .ref z6, .ref z7, .ref z8, .ref z9, .ref z10, .int 0, .int 0, .int 0, .int 0]))]) C0 hE ffX8_12 tyX8 tyX8_ok nmX8 mw_250 pf_29 hP hD hS 0 rfl rfl rfl (Nat.le_of_ble_eq_true rfl) rfl rfl dX8_empty_17 (fun H locs hP hD hS => ?_)
  exact r_vret () C0 hr hlocks hS (Nat.le_of_ble_eq_true rfl) (Nat.le_of_ble_eq_true rfl) dX8_empty_20 hP hD
set_option maxHeartbeats 4000000 in
set_option maxRecDepth 100000 in
theorem c_X9_byteAt_885 (l : Launch) (D : va_G) (T : Nat → ClassId) (sz : Nat) (z1 : Nat) (z2 : Nat) : Met l yX9_byteAt (.code yX9_byteAt cX9_byteAt 2 (some .int) :: TB) { frames := 0, cells := 0, slots := 0, locals := 0 } (PC D T [.ref z1, .int 0] [(z1, .inr (9, [.ref z2, .int 0]))] sz) (Qi (S := Unit) (fun (r : Int32) (_ : Unit) => r = (-1)) (fun (_ : Unit) => [(z1, .inr (9, [.ref z2, .int 0]))]) D (va_A [(z1, .inr (9, [.ref z2, .int 0]))] sz)) 0 0 (va_A [(z1, .inr (9, [.ref z2, .int 0]))] sz) := by
  refine ct_begin (Qc := Qi (S := Unit) (fun (r : Int32) (_ : Unit) => r = (-1)) (fun (_ : Unit) => [(z1, .inr (9, [.ref z2, .int 0]))]) D) (by decide +kernel) (Nat.le_of_ble_eq_true rfl) ?_
  intro p e s m below meth c A ls C0 hr hlocks hnm hE hA hP hD hS hl
  have hx := C0.1
  have hb := C0.2.1
  have hml := C0.2.2.1
  have hown := C0.2.2.2.1
  have hT := C0.2.2.2.2
  have hK := hE.1
  have hl : lv_has ls 2 [(0, .ref z1), (1, .int 0)] := hl
  refine lv_iload_n hx hb dX9_byteAt_0 rfl (lv_at hl 1 rfl) ?_
  refine lv_if_lt (tgt := 25) hx hb dX9_byteAt_1 (by decide) (fun hc => absurd hc (by decide +kernel)) (fun _ => ?_)
  refine lv_iload_n hx hb dX9_byteAt_4 rfl (lv_at hl 1 rfl) ?_
  refine lv_aload_n hx hb dX9_byteAt_5 rfl (lv_at hl 0 rfl) ?_
  refine r_get (v := .int 0) C0 hE ffX9_1 mw_27 hP 0 rfl rfl dX9_byteAt_6 ?_
  refine lv_icmp_ge (tgt := 25) hx hb dX9_byteAt_9 (by decide) (fun _ => ?_) (fun hc => absurd (by decide +kernel) hc)
  refine lv_iconst (v := (-1)) hx hb dX9_byteAt_25 (by decide) ?_
  exact r_iret () C0 hr hlocks hS (Nat.le_of_ble_eq_true rfl) (Nat.le_of_ble_eq_true rfl) dX9_byteAt_26 rfl hP hD
set_option maxHeartbeats 4000000 in
set_option maxRecDepth 100000 in
theorem sg_889 {p : Program} {l : Launch} {e : Env} {s : State} {m : MethodId} {args : Array Value} {below : List Frame} {meth : Method} {c : Code} {H : Heap} {locs : List Loc} {Q : State → Prop} {D : va_G} {T : Nat → ClassId} {A : Nat → Prop} {ls : Array Slot} (z1 : Nat) (z2 : Nat) (z3 : Nat) (z4 : Nat) (C0 : CallFix p m c cX7_next 4 s args TB yX7_next.cls) (hE : EV D T s) (hnm : meth.name = yX7_next.name) (hA : ∀ q, s.heap.size ≤ q → A q) (hP : va_P D vwCl [(z1, .inr (7, [.ref z2, .ref z3, .int 3, .int 0, .int 0, .int 0, .int 0, .int (-1)])), (z2, .inr (9, [.ref z4, .int 0]))] H) (hD : va_D A [(z1, .inr (7, [.ref z2, .ref z3, .int 3, .int 0, .int 0, .int 0, .int 0, .int (-1)])), (z2, .inr (9, [.ref z4, .int 0]))]) (hS : va_S A s.heap H locs) (hl : lv_has ls 4 [(0, .ref z1)])
    (kk : ∀ (H : Heap) (locs : List Loc) (ls : Array Slot), va_P D vwCl [(z1, .inr (7, [.ref z2, .ref z3, .int 0, .int 0, .int 1, .int 0, .int 0, .int (-1)])), (z2, .inr (9, [.ref z4, .int 0]))] H → va_D A [(z1, .inr (7, [.ref z2, .ref z3, .int 0, .int 0, .int 1, .int 0, .int 0, .int (-1)])), (z2, .inr (9, [.ref z4, .int 0]))] → va_S A s.heap H locs → lv_has ls 4 [(3, .int (-1)), (2, .int 0), (1, .int 0), (0, .ref z1)] → W p l e { frames := 1, cells := 0, slots := 0, locals := 21 } s m args below meth c H locs 0 0 Q (F0 m 118 ls [.ref z1, .ref z1])) : W p l e { frames := 1, cells := 0, slots := 0, locals := 21 } s m args below meth c H locs 0 0 Q (F0 m 0 ls []) := by
  have hx := C0.1
  have hb := C0.2.1
  have hml := C0.2.2.1
  have hown := C0.2.2.2.1
  have hT := C0.2.2.2.2
  have hK := hE.1
  refine lv_aload_n hx hb dX7_next_0 rfl (lv_at hl 0 rfl) ?_
  refine r_get (v := .int 0) C0 hE ffX7_6 mw_264 hP 0 rfl rfl dX7_next_1 ?_
  refine lv_if_eq (tgt := 8) hx hb dX7_next_4 (by decide) (fun _ => ?_) (fun hc => absurd (by decide +kernel) hc)
  refine lv_aload_n hx hb dX7_next_8 rfl (lv_at hl 0 rfl) ?_
  refine r_get (v := .int 3) C0 hE ffX7_2 mw_491 hP 0 rfl rfl dX7_next_9 ?_
  refine lv_iconst (v := 1) hx hb dX7_next_12 (by decide) ?_
  refine lv_icmp_eq (tgt := 24) hx hb dX7_next_13 (by decide) (fun hc => absurd hc (by decide +kernel)) (fun _ => ?_)
  refine lv_aload_n hx hb dX7_next_16 rfl (lv_at hl 0 rfl) ?_
  refine r_get (v := .int 3) C0 hE ffX7_2 mw_491 hP 0 rfl rfl dX7_next_17 ?_
  refine lv_iconst (v := 2) hx hb dX7_next_20 (by decide) ?_
  refine lv_icmp_ne (tgt := 28) hx hb dX7_next_21 (by decide) (fun _ => ?_) (fun hc => absurd hc (by decide +kernel))
  refine lv_iconst (v := 0) hx hb dX7_next_28 (by decide) ?_
  refine lv_istore_n (lv' := [(1, .int 0), (0, .ref z1)]) hx hb dX7_next_29 rfl hl (by decide) rfl (fun ls hl => ?_)
  refine lv_aload_n hx hb dX7_next_30 rfl (lv_at hl 1 rfl) ?_
  refine r_get (v := .int 0) C0 hE ffX7_4 mw_493 hP 0 rfl rfl dX7_next_31 ?_
  refine lv_istore_n (lv' := [(2, .int 0), (1, .int 0), (0, .ref z1)]) hx hb dX7_next_34 rfl hl (by decide) rfl (fun ls hl => ?_)
  refine lv_aload_n hx hb dX7_next_35 rfl (lv_at hl 2 rfl) ?_
  refine lv_iload_n hx hb dX7_next_36 rfl (lv_at hl 0 rfl) ?_
  refine r_put (v := .int 0) (ty := .int) (fs1 := [.ref z2, .ref z3, .int 3, .int 0, .int 0, .int 0, .int 0, .int (-1)]) (ws1 := [(z1, .inr (7, [.ref z2, .ref z3, .int 3, .int 0, .int 0, .int 0, .int 0, .int (-1)])), (z2, .inr (9, [.ref z4, .int 0]))]) C0 hE ffX7_3 tyX7 tyX7_ok nmX7 mw_495 pf_29 hP hD hS 0 rfl rfl rfl (Nat.le_of_ble_eq_true rfl) rfl rfl dX7_next_37 (fun H locs hP hD hS => ?_)
  refine lv_aload_n hx hb dX7_next_40 rfl (lv_at hl 2 rfl) ?_
  refine r_get (v := .int 0) C0 hE ffX7_3 mw_495 hP 0 rfl rfl dX7_next_41 ?_
  refine lv_aload_n hx hb dX7_next_44 rfl (lv_at hl 2 rfl) ?_
  refine r_get (v := .ref z2) C0 hE ffX7_0 mw_268 hP 0 rfl rfl dX7_next_45 ?_
  refine r_get (v := .int 0) C0 hE ffX9_1 mw_497 hP 1 rfl rfl dX7_next_48 ?_
  refine lv_icmp_ge (tgt := 84) hx hb dX7_next_51 (by decide) (fun _ => ?_) (fun hc => absurd (by decide +kernel) hc)
  refine lv_aload_n hx hb dX7_next_84 rfl (lv_at hl 2 rfl) ?_
  refine r_get (v := .ref z2) C0 hE ffX7_0 mw_268 hP 0 rfl rfl dX7_next_85 ?_
  refine lv_aload_n hx hb dX7_next_88 rfl (lv_at hl 2 rfl) ?_
  refine r_get (v := .int 0) C0 hE ffX7_3 mw_495 hP 0 rfl rfl dX7_next_89 ?_
  refine r_calli (wr := [(z1, .inr (7, [.ref z2, .ref z3, .int 3, .int 0, .int 0, .int 0, .int 0, .int (-1)]))]) (r_runV (As := [.int 0]) (rest := []) (wc := [(z2, .inr (9, [.ref z4, .int 0]))]) (ci := 9) C0 hE (c_X9_byteAt_885 l D T H.size z2 z4) mw_499 mw_500 mw_501 mw_21 mw_502 dn_498 rfl rfl ⟨Nat.le_of_ble_eq_true rfl, Nat.le_of_ble_eq_true rfl⟩ (hP.sub (ws' := [(z2, .inr (9, [.ref z4, .int 0]))]) [1] rfl) (hD.sub (ws' := [(z2, .inr (9, [.ref z4, .int 0]))]) [1] (by decide +kernel) rfl) rfl rfl rfl hl.1 rfl (Nat.le_of_ble_eq_true rfl) dX7_next_92 ⟨Nat.le_of_ble_eq_true rfl, Nat.le_of_ble_eq_true rfl⟩) hP hD hS hA [1] [0] rfl rfl (by decide +kernel) (by decide +kernel) (fun r888 u H locs hq hP hD hS => ?_)
  have hq : r888 = (-1) := hq
  subst hq
  have hP : va_P D vwCl [(z1, .inr (7, [.ref z2, .ref z3, .int 3, .int 0, .int 0, .int 0, .int 0, .int (-1)])), (z2, .inr (9, [.ref z4, .int 0]))] H := hP
  have hD : va_D A [(z1, .inr (7, [.ref z2, .ref z3, .int 3, .int 0, .int 0, .int 0, .int 0, .int (-1)])), (z2, .inr (9, [.ref z4, .int 0]))] := hD
  refine W.widen (k := 0) (n := 0) (Nat.le_of_ble_eq_true rfl) (Nat.le_of_ble_eq_true rfl) ?_
  refine lv_istore_n (lv' := [(3, .int (-1)), (2, .int 0), (1, .int 0), (0, .ref z1)]) hx hb dX7_next_95 rfl hl (by decide) rfl (fun ls hl => ?_)
  refine lv_aload_n hx hb dX7_next_96 rfl (lv_at hl 3 rfl) ?_
  refine lv_aload_n hx hb dX7_next_97 rfl (lv_at hl 3 rfl) ?_
  refine r_get (v := .int 0) C0 hE ffX7_3 mw_495 hP 0 rfl rfl dX7_next_98 ?_
  refine lv_iconst (v := 1) hx hb dX7_next_101 (by decide) ?_
  refine lv_iadd hx hb dX7_next_102 ?_
  refine r_ci (v := 1) (by decide +kernel) ?_
  refine r_put (v := .int 1) (ty := .int) (fs1 := [.ref z2, .ref z3, .int 3, .int 0, .int 1, .int 0, .int 0, .int (-1)]) (ws1 := [(z1, .inr (7, [.ref z2, .ref z3, .int 3, .int 0, .int 1, .int 0, .int 0, .int (-1)])), (z2, .inr (9, [.ref z4, .int 0]))]) C0 hE ffX7_4 tyX7 tyX7_ok nmX7 mw_493 pf_29 hP hD hS 0 rfl rfl rfl (Nat.le_of_ble_eq_true rfl) rfl rfl dX7_next_103 (fun H locs hP hD hS => ?_)
  refine lv_iload_n hx hb dX7_next_106 rfl (lv_at hl 0 rfl) ?_
  refine lv_iconst (v := (-1)) hx hb dX7_next_107 (by decide) ?_
  refine lv_icmp_ne (tgt := 127) hx hb dX7_next_108 (by decide) (fun hc => absurd (by decide +kernel) hc) (fun _ => ?_)
  refine lv_aload_n hx hb dX7_next_111 rfl (lv_at hl 3 rfl) ?_
  refine lv_iconst (v := 0) hx hb dX7_next_112 (by decide) ?_
  refine r_put (v := .int 0) (ty := .int) (fs1 := [.ref z2, .ref z3, .int 0, .int 0, .int 1, .int 0, .int 0, .int (-1)]) (ws1 := [(z1, .inr (7, [.ref z2, .ref z3, .int 0, .int 0, .int 1, .int 0, .int 0, .int (-1)])), (z2, .inr (9, [.ref z4, .int 0]))]) C0 hE ffX7_2 tyX7 tyX7_ok nmX7 mw_491 pf_29 hP hD hS 0 rfl rfl rfl (Nat.le_of_ble_eq_true rfl) rfl rfl dX7_next_113 (fun H locs hP hD hS => ?_)
  refine lv_aload_n hx hb dX7_next_116 rfl (lv_at hl 3 rfl) ?_
  refine lv_aload_n hx hb dX7_next_117 rfl (lv_at hl 3 rfl) ?_
  exact kk H locs ls hP hD hS hl
set_option maxHeartbeats 4000000 in
set_option maxRecDepth 100000 in
theorem c_X7_next_890 (l : Launch) (D : va_G) (T : Nat → ClassId) (sz : Nat) (z1 : Nat) (z2 : Nat) (z3 : Nat) (z4 : Nat) : Met l yX7_next (.code yX7_next cX7_next 4 none :: TB) { frames := 1, cells := 0, slots := 0, locals := 21 } (PC D T [.ref z1] [(z1, .inr (7, [.ref z2, .ref z3, .int 3, .int 0, .int 0, .int 0, .int 0, .int (-1)])), (z2, .inr (9, [.ref z4, .int 0]))] sz) (Qv (S := Unit) (fun (_ : Unit) => [(z1, .inr (7, [.ref z2, .ref z3, .int 0, .int 0, .int 0, .int 0, .int 0, .int (-1)])), (z2, .inr (9, [.ref z4, .int 0]))]) D (va_A [(z1, .inr (7, [.ref z2, .ref z3, .int 3, .int 0, .int 0, .int 0, .int 0, .int (-1)])), (z2, .inr (9, [.ref z4, .int 0]))] sz)) 0 0 (va_A [(z1, .inr (7, [.ref z2, .ref z3, .int 3, .int 0, .int 0, .int 0, .int 0, .int (-1)])), (z2, .inr (9, [.ref z4, .int 0]))] sz) := by
  refine ct_begin (Qc := Qv (S := Unit) (fun (_ : Unit) => [(z1, .inr (7, [.ref z2, .ref z3, .int 0, .int 0, .int 0, .int 0, .int 0, .int (-1)])), (z2, .inr (9, [.ref z4, .int 0]))]) D) (by decide +kernel) (Nat.le_of_ble_eq_true rfl) ?_
  intro p e s m below meth c A ls C0 hr hlocks hnm hE hA hP hD hS hl
  have hx := C0.1
  have hb := C0.2.1
  have hml := C0.2.2.1
  have hown := C0.2.2.2.1
  have hT := C0.2.2.2.2
  have hK := hE.1
  have hl : lv_has ls 4 [(0, .ref z1)] := hl
  refine sg_889 z1 z2 z3 z4 C0 hE hnm hA hP hD hS hl (fun H locs ls hP hD hS hl => ?_)
  refine r_get (v := .int 0) C0 hE ffX7_3 mw_495 hP 0 rfl rfl dX7_next_118 ?_
  refine r_put (v := .int 0) (ty := .int) (fs1 := [.ref z2, .ref z3, .int 0, .int 0, .int 0, .int 0, .int 0, .int (-1)]) (ws1 := [(z1, .inr (7, [.ref z2, .ref z3, .int 0, .int 0, .int 0, .int 0, .int 0, .int (-1)])), (z2, .inr (9, [.ref z4, .int 0]))]) C0 hE ffX7_4 tyX7 tyX7_ok nmX7 mw_493 pf_29 hP hD hS 0 rfl rfl rfl (Nat.le_of_ble_eq_true rfl) rfl rfl dX7_next_121 (fun H locs hP hD hS => ?_)
  refine lv_goto (tgt := 263) hx hb dX7_next_124 (by decide) ?_
  refine lv_iload_n hx hb dX7_next_263 rfl (lv_at hl 2 rfl) ?_
  refine lv_if_eq (tgt := 296) hx hb dX7_next_264 (by decide) (fun _ => ?_) (fun hc => absurd (by decide +kernel) hc)
  exact r_vret () C0 hr hlocks hS (Nat.le_of_ble_eq_true rfl) (Nat.le_of_ble_eq_true rfl) dX7_next_296 hP hD
set_option maxHeartbeats 4000000 in
set_option maxRecDepth 100000 in
theorem c_X7_read_893 (l : Launch) (D : va_G) (T : Nat → ClassId) (sz : Nat) (z1 : Nat) (z2 : Nat) (z3 : Nat) (z4 : Nat) (z5 : Nat) (z6 : Nat) (z7 : Nat) (z8 : Nat) (z9 : Nat) (z10 : Nat) (z11 : Nat) (z12 : Nat) (z13 : Nat) : Met l yX7_read (.code yX7_read cX7_read 3 none :: TB) { frames := 2, cells := 0, slots := 0, locals := 44 } (PC D T [.ref z1, .ref z2] [(z1, .inr (7, [.ref z3, .ref z2, .int 0, .int 0, .int 0, .int 0, .int 0, .int (-1)])), (z3, .inr (9, [.ref z4, .int 0])), (z2, .inr (8, [.ref z5, .ref z6, .ref z7, .ref z8, .ref z9, .ref z10, .ref z11, .ref z12, .ref z13, .int 0, .int 0, .int 0, .int 0]))] sz) (Qv (S := Unit) (fun (_ : Unit) => [(z2, .inr (8, [.ref z5, .ref z6, .ref z7, .ref z8, .ref z9, .ref z10, .ref z11, .ref z12, .ref z13, .int 0, .int 0, .int 0, .int 0])), (z1, .inr (7, [.ref z3, .ref z2, .int 0, .int 0, .int 0, .int 0, .int 0, .int (-1)])), (z3, .inr (9, [.ref z4, .int 0]))]) D (va_A [(z1, .inr (7, [.ref z3, .ref z2, .int 0, .int 0, .int 0, .int 0, .int 0, .int (-1)])), (z3, .inr (9, [.ref z4, .int 0])), (z2, .inr (8, [.ref z5, .ref z6, .ref z7, .ref z8, .ref z9, .ref z10, .ref z11, .ref z12, .ref z13, .int 0, .int 0, .int 0, .int 0]))] sz)) 0 0 (va_A [(z1, .inr (7, [.ref z3, .ref z2, .int 0, .int 0, .int 0, .int 0, .int 0, .int (-1)])), (z3, .inr (9, [.ref z4, .int 0])), (z2, .inr (8, [.ref z5, .ref z6, .ref z7, .ref z8, .ref z9, .ref z10, .ref z11, .ref z12, .ref z13, .int 0, .int 0, .int 0, .int 0]))] sz) := by
  refine ct_begin (Qc := Qv (S := Unit) (fun (_ : Unit) => [(z2, .inr (8, [.ref z5, .ref z6, .ref z7, .ref z8, .ref z9, .ref z10, .ref z11, .ref z12, .ref z13, .int 0, .int 0, .int 0, .int 0])), (z1, .inr (7, [.ref z3, .ref z2, .int 0, .int 0, .int 0, .int 0, .int 0, .int (-1)])), (z3, .inr (9, [.ref z4, .int 0]))]) D) (by decide +kernel) (Nat.le_of_ble_eq_true rfl) ?_
  intro p e s m below meth c A ls C0 hr hlocks hnm hE hA hP hD hS hl
  have hx := C0.1
  have hb := C0.2.1
  have hml := C0.2.2.1
  have hown := C0.2.2.2.1
  have hT := C0.2.2.2.2
  have hK := hE.1
  have hl : lv_has ls 3 [(0, .ref z1), (1, .ref z2)] := hl
  refine lv_aload_n hx hb dX7_read_0 rfl (lv_at hl 0 rfl) ?_
  refine lv_aload_n hx hb dX7_read_1 rfl (lv_at hl 1 rfl) ?_
  refine r_put (v := .ref z2) (ty := .object "HookBoard$Script") (fs1 := [.ref z3, .ref z2, .int 0, .int 0, .int 0, .int 0, .int 0, .int (-1)]) (ws1 := [(z1, .inr (7, [.ref z3, .ref z2, .int 0, .int 0, .int 0, .int 0, .int 0, .int (-1)])), (z3, .inr (9, [.ref z4, .int 0])), (z2, .inr (8, [.ref z5, .ref z6, .ref z7, .ref z8, .ref z9, .ref z10, .ref z11, .ref z12, .ref z13, .int 0, .int 0, .int 0, .int 0]))]) C0 hE ffX7_1 tyX7 tyX7_ok nmX7 mw_270 pf_257 hP hD hS 0 rfl rfl rfl (Nat.le_of_ble_eq_true rfl) rfl rfl dX7_read_2 (fun H locs hP hD hS => ?_)
  refine lv_aload_n hx hb dX7_read_5 rfl (lv_at hl 0 rfl) ?_
  refine r_get (v := .ref z2) C0 hE ffX7_1 mw_270 hP 0 rfl rfl dX7_read_6 ?_
  refine r_callv (wr := [(z1, .inr (7, [.ref z3, .ref z2, .int 0, .int 0, .int 0, .int 0, .int 0, .int (-1)])), (z3, .inr (9, [.ref z4, .int 0]))]) (r_runV (As := []) (rest := []) (wc := [(z2, .inr (8, [.ref z5, .ref z6, .ref z7, .ref z8, .ref z9, .ref z10, .ref z11, .ref z12, .ref z13, .int 0, .int 0, .int 0, .int 0]))]) (ci := 8) C0 hE (c_X8_empty_884 l D T H.size z2 z5 z6 z7 z8 z9 z10 z11 z12 z13) mw_487 mw_488 mw_489 mw_224 mw_490 dn_486 rfl rfl ⟨Nat.le_of_ble_eq_true rfl, Nat.le_of_ble_eq_true rfl⟩ (hP.sub (ws' := [(z2, .inr (8, [.ref z5, .ref z6, .ref z7, .ref z8, .ref z9, .ref z10, .ref z11, .ref z12, .ref z13, .int 0, .int 0, .int 0, .int 0]))]) [2] rfl) (hD.sub (ws' := [(z2, .inr (8, [.ref z5, .ref z6, .ref z7, .ref z8, .ref z9, .ref z10, .ref z11, .ref z12, .ref z13, .int 0, .int 0, .int 0, .int 0]))]) [2] (by decide +kernel) rfl) rfl rfl rfl hl.1 rfl (Nat.le_of_ble_eq_true rfl) dX7_read_9 ⟨Nat.le_of_ble_eq_true rfl, Nat.le_of_ble_eq_true rfl⟩) hP hD hS hA [2] [0, 1] rfl rfl (by decide +kernel) (by decide +kernel) (fun  u H locs hP hD hS => ?_)
  have hP : va_P D vwCl [(z1, .inr (7, [.ref z3, .ref z2, .int 0, .int 0, .int 0, .int 0, .int 0, .int (-1)])), (z3, .inr (9, [.ref z4, .int 0])), (z2, .inr (8, [.ref z5, .ref z6, .ref z7, .ref z8, .ref z9, .ref z10, .ref z11, .ref z12, .ref z13, .int 0, .int 0, .int 0, .int 0]))] H := hP
  have hD : va_D A [(z1, .inr (7, [.ref z3, .ref z2, .int 0, .int 0, .int 0, .int 0, .int 0, .int (-1)])), (z3, .inr (9, [.ref z4, .int 0])), (z2, .inr (8, [.ref z5, .ref z6, .ref z7, .ref z8, .ref z9, .ref z10, .ref z11, .ref z12, .ref z13, .int 0, .int 0, .int 0, .int 0]))] := hD
  refine W.widen (k := 0) (n := 0) (Nat.le_of_ble_eq_true rfl) (Nat.le_of_ble_eq_true rfl) ?_
  refine lv_aload_n hx hb dX7_read_12 rfl (lv_at hl 0 rfl) ?_
  refine lv_iconst (v := 0) hx hb dX7_read_13 (by decide) ?_
  refine r_put (v := .int 0) (ty := .int) (fs1 := [.ref z3, .ref z2, .int 0, .int 0, .int 0, .int 0, .int 0, .int (-1)]) (ws1 := [(z1, .inr (7, [.ref z3, .ref z2, .int 0, .int 0, .int 0, .int 0, .int 0, .int (-1)])), (z3, .inr (9, [.ref z4, .int 0])), (z2, .inr (8, [.ref z5, .ref z6, .ref z7, .ref z8, .ref z9, .ref z10, .ref z11, .ref z12, .ref z13, .int 0, .int 0, .int 0, .int 0]))]) C0 hE ffX7_6 tyX7 tyX7_ok nmX7 mw_264 pf_29 hP hD hS 0 rfl rfl rfl (Nat.le_of_ble_eq_true rfl) rfl rfl dX7_read_14 (fun H locs hP hD hS => ?_)
  refine lv_aload_n hx hb dX7_read_17 rfl (lv_at hl 0 rfl) ?_
  refine lv_iconst (v := (-1)) hx hb dX7_read_18 (by decide) ?_
  refine r_put (v := .int (-1)) (ty := .int) (fs1 := [.ref z3, .ref z2, .int 0, .int 0, .int 0, .int 0, .int 0, .int (-1)]) (ws1 := [(z1, .inr (7, [.ref z3, .ref z2, .int 0, .int 0, .int 0, .int 0, .int 0, .int (-1)])), (z3, .inr (9, [.ref z4, .int 0])), (z2, .inr (8, [.ref z5, .ref z6, .ref z7, .ref z8, .ref z9, .ref z10, .ref z11, .ref z12, .ref z13, .int 0, .int 0, .int 0, .int 0]))]) C0 hE ffX7_7 tyX7 tyX7_ok nmX7 mw_266 pf_29 hP hD hS 0 rfl rfl rfl (Nat.le_of_ble_eq_true rfl) rfl rfl dX7_read_19 (fun H locs hP hD hS => ?_)
  refine lv_aload_n hx hb dX7_read_22 rfl (lv_at hl 0 rfl) ?_
  refine lv_iconst (v := 3) hx hb dX7_read_23 (by decide) ?_
  refine r_put (v := .int 3) (ty := .int) (fs1 := [.ref z3, .ref z2, .int 3, .int 0, .int 0, .int 0, .int 0, .int (-1)]) (ws1 := [(z1, .inr (7, [.ref z3, .ref z2, .int 3, .int 0, .int 0, .int 0, .int 0, .int (-1)])), (z3, .inr (9, [.ref z4, .int 0])), (z2, .inr (8, [.ref z5, .ref z6, .ref z7, .ref z8, .ref z9, .ref z10, .ref z11, .ref z12, .ref z13, .int 0, .int 0, .int 0, .int 0]))]) C0 hE ffX7_2 tyX7 tyX7_ok nmX7 mw_491 pf_29 hP hD hS 0 rfl rfl rfl (Nat.le_of_ble_eq_true rfl) rfl rfl dX7_read_24 (fun H locs hP hD hS => ?_)
  refine lv_aload_n hx hb dX7_read_27 rfl (lv_at hl 0 rfl) ?_
  refine lv_iconst (v := 0) hx hb dX7_read_28 (by decide) ?_
  refine r_put (v := .int 0) (ty := .int) (fs1 := [.ref z3, .ref z2, .int 3, .int 0, .int 0, .int 0, .int 0, .int (-1)]) (ws1 := [(z1, .inr (7, [.ref z3, .ref z2, .int 3, .int 0, .int 0, .int 0, .int 0, .int (-1)])), (z3, .inr (9, [.ref z4, .int 0])), (z2, .inr (8, [.ref z5, .ref z6, .ref z7, .ref z8, .ref z9, .ref z10, .ref z11, .ref z12, .ref z13, .int 0, .int 0, .int 0, .int 0]))]) C0 hE ffX7_4 tyX7 tyX7_ok nmX7 mw_493 pf_29 hP hD hS 0 rfl rfl rfl (Nat.le_of_ble_eq_true rfl) rfl rfl dX7_read_29 (fun H locs hP hD hS => ?_)
  refine lv_aload_n hx hb dX7_read_32 rfl (lv_at hl 0 rfl) ?_
  refine r_callv (wr := [(z2, .inr (8, [.ref z5, .ref z6, .ref z7, .ref z8, .ref z9, .ref z10, .ref z11, .ref z12, .ref z13, .int 0, .int 0, .int 0, .int 0]))]) (r_runV (As := []) (rest := []) (wc := [(z1, .inr (7, [.ref z3, .ref z2, .int 3, .int 0, .int 0, .int 0, .int 0, .int (-1)])), (z3, .inr (9, [.ref z4, .int 0]))]) (ci := 7) C0 hE (c_X7_next_890 l D T H.size z1 z3 z2 z4) mw_504 mw_505 mw_506 mw_262 mw_507 dn_503 rfl rfl ⟨Nat.le_of_ble_eq_true rfl, Nat.le_of_ble_eq_true rfl⟩ (hP.sub (ws' := [(z1, .inr (7, [.ref z3, .ref z2, .int 3, .int 0, .int 0, .int 0, .int 0, .int (-1)])), (z3, .inr (9, [.ref z4, .int 0]))]) [0, 1] rfl) (hD.sub (ws' := [(z1, .inr (7, [.ref z3, .ref z2, .int 3, .int 0, .int 0, .int 0, .int 0, .int (-1)])), (z3, .inr (9, [.ref z4, .int 0]))]) [0, 1] (by decide +kernel) rfl) rfl rfl rfl hl.1 rfl (Nat.le_of_ble_eq_true rfl) dX7_read_33 ⟨Nat.le_of_ble_eq_true rfl, Nat.le_of_ble_eq_true rfl⟩) hP hD hS hA [0, 1] [2] rfl rfl (by decide +kernel) (by decide +kernel) (fun  u H locs hP hD hS => ?_)
  have hP : va_P D vwCl [(z2, .inr (8, [.ref z5, .ref z6, .ref z7, .ref z8, .ref z9, .ref z10, .ref z11, .ref z12, .ref z13, .int 0, .int 0, .int 0, .int 0])), (z1, .inr (7, [.ref z3, .ref z2, .int 0, .int 0, .int 0, .int 0, .int 0, .int (-1)])), (z3, .inr (9, [.ref z4, .int 0]))] H := hP
  have hD : va_D A [(z2, .inr (8, [.ref z5, .ref z6, .ref z7, .ref z8, .ref z9, .ref z10, .ref z11, .ref z12, .ref z13, .int 0, .int 0, .int 0, .int 0])), (z1, .inr (7, [.ref z3, .ref z2, .int 0, .int 0, .int 0, .int 0, .int 0, .int (-1)])), (z3, .inr (9, [.ref z4, .int 0]))] := hD
  refine W.widen (k := 0) (n := 0) (Nat.le_of_ble_eq_true rfl) (Nat.le_of_ble_eq_true rfl) ?_
  refine lv_iconst (v := 0) hx hb dX7_read_36 (by decide) ?_
  refine lv_istore_n (lv' := [(2, .int 0), (0, .ref z1), (1, .ref z2)]) hx hb dX7_read_37 rfl hl (by decide) rfl (fun ls hl => ?_)
  refine lv_iload_n hx hb dX7_read_38 rfl (lv_at hl 0 rfl) ?_
  refine lv_bipush (v := 24) hx hb dX7_read_39 (by decide) ?_
  refine lv_icmp_gt (tgt := 130) hx hb dX7_read_41 (by decide) (fun hc => absurd hc (by decide +kernel)) (fun _ => ?_)
  refine lv_aload_n hx hb dX7_read_44 rfl (lv_at hl 1 rfl) ?_
  refine r_get (v := .int 0) C0 hE ffX7_6 mw_264 hP 1 rfl rfl dX7_read_45 ?_
  refine lv_if_ne (tgt := 130) hx hb dX7_read_48 (by decide) (fun hc => absurd (by decide +kernel) hc) (fun _ => ?_)
  refine lv_aload_n hx hb dX7_read_51 rfl (lv_at hl 1 rfl) ?_
  refine r_get (v := .int 0) C0 hE ffX7_2 mw_491 hP 1 rfl rfl dX7_read_52 ?_
  refine lv_if_eq (tgt := 130) hx hb dX7_read_55 (by decide) (fun _ => ?_) (fun hc => absurd (by decide +kernel) hc)
  exact r_vret () C0 hr hlocks hS (Nat.le_of_ble_eq_true rfl) (Nat.le_of_ble_eq_true rfl) dX7_read_130 hP hD
set_option maxHeartbeats 4000000 in
set_option maxRecDepth 100000 in
theorem c_X2_forget_898 (l : Launch) (D : va_G) (T : Nat → ClassId) (sz : Nat) (z1 : Nat) (z2 : Nat) (z3 : Nat) (z4 : Nat) (z5 : Nat) (z6 : Nat) (z7 : Nat) (z8 : Nat) (z9 : Nat) (z10 : Int32) (z11 : Int32) : Met l yX2_forget (.code yX2_forget cX2_forget 1 none :: TB) { frames := 1, cells := 0, slots := 0, locals := 23 } (PC D T [.ref z1] [(z1, .inr (2, [.ref z2, .ref z3, .ref z4, .ref z5, .ref z6, .ref z7, .ref z8, .ref z9, .int 0, .int z10, .int z11, .int 0])), (z2, .inl (T 0, 64, .inl (fl (-1) 64 (fun _ => 0)))), (z3, .inl (T 0, 64, .inl (fl 0 64 (fun _ => 0)))), (z4, .inl (T 0, 64, .inl (fl 0 64 (fun _ => 0)))), (z5, .inl (T 0, 64, .inl (fl 0 64 (fun _ => 0)))), (z6, .inl (T 0, 64, .inl (fl 0 64 (fun _ => 0))))] sz) (Qv (S := Unit) (fun (_ : Unit) => [(z1, .inr (2, [.ref z2, .ref z3, .ref z4, .ref z5, .ref z6, .ref z7, .ref z8, .ref z9, .int 0, .int z10, .int z11, .int 0])), (z2, .inl (T 0, 64, .inl (fl (-1) 64 (fl (-1) 64 (fun _ => 0))))), (z3, .inl (T 0, 64, .inl (fl 0 64 (fl 0 64 (fun _ => 0))))), (z4, .inl (T 0, 64, .inl (fl 0 64 (fl 0 64 (fun _ => 0))))), (z5, .inl (T 0, 64, .inl (fl 0 64 (fl 0 64 (fun _ => 0))))), (z6, .inl (T 0, 64, .inl (fl 0 64 (fl 0 64 (fun _ => 0)))))]) D (va_A [(z1, .inr (2, [.ref z2, .ref z3, .ref z4, .ref z5, .ref z6, .ref z7, .ref z8, .ref z9, .int 0, .int z10, .int z11, .int 0])), (z2, .inl (T 0, 64, .inl (fl (-1) 64 (fun _ => 0)))), (z3, .inl (T 0, 64, .inl (fl 0 64 (fun _ => 0)))), (z4, .inl (T 0, 64, .inl (fl 0 64 (fun _ => 0)))), (z5, .inl (T 0, 64, .inl (fl 0 64 (fun _ => 0)))), (z6, .inl (T 0, 64, .inl (fl 0 64 (fun _ => 0))))] sz)) 0 0 (va_A [(z1, .inr (2, [.ref z2, .ref z3, .ref z4, .ref z5, .ref z6, .ref z7, .ref z8, .ref z9, .int 0, .int z10, .int z11, .int 0])), (z2, .inl (T 0, 64, .inl (fl (-1) 64 (fun _ => 0)))), (z3, .inl (T 0, 64, .inl (fl 0 64 (fun _ => 0)))), (z4, .inl (T 0, 64, .inl (fl 0 64 (fun _ => 0)))), (z5, .inl (T 0, 64, .inl (fl 0 64 (fun _ => 0)))), (z6, .inl (T 0, 64, .inl (fl 0 64 (fun _ => 0))))] sz) := by
  refine ct_begin (Qc := Qv (S := Unit) (fun (_ : Unit) => [(z1, .inr (2, [.ref z2, .ref z3, .ref z4, .ref z5, .ref z6, .ref z7, .ref z8, .ref z9, .int 0, .int z10, .int z11, .int 0])), (z2, .inl (T 0, 64, .inl (fl (-1) 64 (fl (-1) 64 (fun _ => 0))))), (z3, .inl (T 0, 64, .inl (fl 0 64 (fl 0 64 (fun _ => 0))))), (z4, .inl (T 0, 64, .inl (fl 0 64 (fl 0 64 (fun _ => 0))))), (z5, .inl (T 0, 64, .inl (fl 0 64 (fl 0 64 (fun _ => 0))))), (z6, .inl (T 0, 64, .inl (fl 0 64 (fl 0 64 (fun _ => 0)))))]) D) (by decide +kernel) (Nat.le_of_ble_eq_true rfl) ?_
  intro p e s m below meth c A ls C0 hr hlocks hnm hE hA hP hD hS hl
  have hx := C0.1
  have hb := C0.2.1
  have hml := C0.2.2.1
  have hown := C0.2.2.2.1
  have hT := C0.2.2.2.2
  have hK := hE.1
  have hl : lv_has ls 1 [(0, .ref z1)] := hl
  refine lv_aload_n hx hb dX2_forget_0 rfl (lv_at hl 0 rfl) ?_
  refine r_get (v := .ref z2) C0 hE ffX2_0 mw_66 hP 0 rfl rfl dX2_forget_1 ?_
  refine lv_iconst (v := (-1)) hx hb dX2_forget_4 (by decide) ?_
  refine r_callv (wr := [(z1, .inr (2, [.ref z2, .ref z3, .ref z4, .ref z5, .ref z6, .ref z7, .ref z8, .ref z9, .int 0, .int z10, .int z11, .int 0])), (z3, .inl (T 0, 64, .inl (fl 0 64 (fun _ => 0)))), (z4, .inl (T 0, 64, .inl (fl 0 64 (fun _ => 0)))), (z5, .inl (T 0, 64, .inl (fl 0 64 (fun _ => 0)))), (z6, .inl (T 0, 64, .inl (fl 0 64 (fun _ => 0))))]) (r_runS (As := [.ref z2, .int (-1)]) (rest := []) (wc := [(z2, .inl (T 0, 64, .inl (fl (-1) 64 (fun _ => 0))))]) C0 hE (c_fill l D T s.heap.size z2 64 (fl (-1) 64 (fun _ => 0)) (-1) (by decide)) mw_295 mw_296 mw_297 mw_298 dn_294 rfl rfl ⟨Nat.le_of_ble_eq_true rfl, Nat.le_of_ble_eq_true rfl⟩ (hP.sub (ws' := [(z2, .inl (T 0, 64, .inl (fl (-1) 64 (fun _ => 0))))]) [1] rfl) (hD.sub (ws' := [(z2, .inl (T 0, 64, .inl (fl (-1) 64 (fun _ => 0))))]) [1] (by decide +kernel) rfl) hl.1 rfl (Nat.le_of_ble_eq_true rfl) dX2_forget_5 ⟨Nat.le_of_ble_eq_true rfl, Nat.le_of_ble_eq_true rfl⟩) hP hD hS hA [1] [0, 2, 3, 4, 5] rfl rfl (by decide +kernel) (by decide +kernel) (fun  u H locs hP hD hS => ?_)
  have hP : va_P D vwCl [(z1, .inr (2, [.ref z2, .ref z3, .ref z4, .ref z5, .ref z6, .ref z7, .ref z8, .ref z9, .int 0, .int z10, .int z11, .int 0])), (z3, .inl (T 0, 64, .inl (fl 0 64 (fun _ => 0)))), (z4, .inl (T 0, 64, .inl (fl 0 64 (fun _ => 0)))), (z5, .inl (T 0, 64, .inl (fl 0 64 (fun _ => 0)))), (z6, .inl (T 0, 64, .inl (fl 0 64 (fun _ => 0)))), (z2, .inl (T 0, 64, .inl (fl (-1) 64 (fl (-1) 64 (fun _ => 0)))))] H := hP
  have hD : va_D A [(z1, .inr (2, [.ref z2, .ref z3, .ref z4, .ref z5, .ref z6, .ref z7, .ref z8, .ref z9, .int 0, .int z10, .int z11, .int 0])), (z3, .inl (T 0, 64, .inl (fl 0 64 (fun _ => 0)))), (z4, .inl (T 0, 64, .inl (fl 0 64 (fun _ => 0)))), (z5, .inl (T 0, 64, .inl (fl 0 64 (fun _ => 0)))), (z6, .inl (T 0, 64, .inl (fl 0 64 (fun _ => 0)))), (z2, .inl (T 0, 64, .inl (fl (-1) 64 (fl (-1) 64 (fun _ => 0)))))] := hD
  refine W.widen (k := 0) (n := 0) (Nat.le_of_ble_eq_true rfl) (Nat.le_of_ble_eq_true rfl) ?_
  refine lv_aload_n hx hb dX2_forget_8 rfl (lv_at hl 0 rfl) ?_
  refine r_get (v := .ref z3) C0 hE ffX2_1 mw_68 hP 0 rfl rfl dX2_forget_9 ?_
  refine lv_iconst (v := 0) hx hb dX2_forget_12 (by decide) ?_
  refine r_callv (wr := [(z1, .inr (2, [.ref z2, .ref z3, .ref z4, .ref z5, .ref z6, .ref z7, .ref z8, .ref z9, .int 0, .int z10, .int z11, .int 0])), (z4, .inl (T 0, 64, .inl (fl 0 64 (fun _ => 0)))), (z5, .inl (T 0, 64, .inl (fl 0 64 (fun _ => 0)))), (z6, .inl (T 0, 64, .inl (fl 0 64 (fun _ => 0)))), (z2, .inl (T 0, 64, .inl (fl (-1) 64 (fl (-1) 64 (fun _ => 0)))))]) (r_runS (As := [.ref z3, .int 0]) (rest := []) (wc := [(z3, .inl (T 0, 64, .inl (fl 0 64 (fun _ => 0))))]) C0 hE (c_fill l D T H.size z3 64 (fl 0 64 (fun _ => 0)) 0 (by decide)) mw_295 mw_296 mw_297 mw_298 dn_294 rfl rfl ⟨Nat.le_of_ble_eq_true rfl, Nat.le_of_ble_eq_true rfl⟩ (hP.sub (ws' := [(z3, .inl (T 0, 64, .inl (fl 0 64 (fun _ => 0))))]) [1] rfl) (hD.sub (ws' := [(z3, .inl (T 0, 64, .inl (fl 0 64 (fun _ => 0))))]) [1] (by decide +kernel) rfl) hl.1 rfl (Nat.le_of_ble_eq_true rfl) dX2_forget_13 ⟨Nat.le_of_ble_eq_true rfl, Nat.le_of_ble_eq_true rfl⟩) hP hD hS hA [1] [0, 2, 3, 4, 5] rfl rfl (by decide +kernel) (by decide +kernel) (fun  u H locs hP hD hS => ?_)
  have hP : va_P D vwCl [(z1, .inr (2, [.ref z2, .ref z3, .ref z4, .ref z5, .ref z6, .ref z7, .ref z8, .ref z9, .int 0, .int z10, .int z11, .int 0])), (z4, .inl (T 0, 64, .inl (fl 0 64 (fun _ => 0)))), (z5, .inl (T 0, 64, .inl (fl 0 64 (fun _ => 0)))), (z6, .inl (T 0, 64, .inl (fl 0 64 (fun _ => 0)))), (z2, .inl (T 0, 64, .inl (fl (-1) 64 (fl (-1) 64 (fun _ => 0))))), (z3, .inl (T 0, 64, .inl (fl 0 64 (fl 0 64 (fun _ => 0)))))] H := hP
  have hD : va_D A [(z1, .inr (2, [.ref z2, .ref z3, .ref z4, .ref z5, .ref z6, .ref z7, .ref z8, .ref z9, .int 0, .int z10, .int z11, .int 0])), (z4, .inl (T 0, 64, .inl (fl 0 64 (fun _ => 0)))), (z5, .inl (T 0, 64, .inl (fl 0 64 (fun _ => 0)))), (z6, .inl (T 0, 64, .inl (fl 0 64 (fun _ => 0)))), (z2, .inl (T 0, 64, .inl (fl (-1) 64 (fl (-1) 64 (fun _ => 0))))), (z3, .inl (T 0, 64, .inl (fl 0 64 (fl 0 64 (fun _ => 0)))))] := hD
  refine W.widen (k := 0) (n := 0) (Nat.le_of_ble_eq_true rfl) (Nat.le_of_ble_eq_true rfl) ?_
  refine lv_aload_n hx hb dX2_forget_16 rfl (lv_at hl 0 rfl) ?_
  refine r_get (v := .ref z4) C0 hE ffX2_2 mw_70 hP 0 rfl rfl dX2_forget_17 ?_
  refine lv_iconst (v := 0) hx hb dX2_forget_20 (by decide) ?_
  refine r_callv (wr := [(z1, .inr (2, [.ref z2, .ref z3, .ref z4, .ref z5, .ref z6, .ref z7, .ref z8, .ref z9, .int 0, .int z10, .int z11, .int 0])), (z5, .inl (T 0, 64, .inl (fl 0 64 (fun _ => 0)))), (z6, .inl (T 0, 64, .inl (fl 0 64 (fun _ => 0)))), (z2, .inl (T 0, 64, .inl (fl (-1) 64 (fl (-1) 64 (fun _ => 0))))), (z3, .inl (T 0, 64, .inl (fl 0 64 (fl 0 64 (fun _ => 0)))))]) (r_runS (As := [.ref z4, .int 0]) (rest := []) (wc := [(z4, .inl (T 0, 64, .inl (fl 0 64 (fun _ => 0))))]) C0 hE (c_fill l D T H.size z4 64 (fl 0 64 (fun _ => 0)) 0 (by decide)) mw_295 mw_296 mw_297 mw_298 dn_294 rfl rfl ⟨Nat.le_of_ble_eq_true rfl, Nat.le_of_ble_eq_true rfl⟩ (hP.sub (ws' := [(z4, .inl (T 0, 64, .inl (fl 0 64 (fun _ => 0))))]) [1] rfl) (hD.sub (ws' := [(z4, .inl (T 0, 64, .inl (fl 0 64 (fun _ => 0))))]) [1] (by decide +kernel) rfl) hl.1 rfl (Nat.le_of_ble_eq_true rfl) dX2_forget_21 ⟨Nat.le_of_ble_eq_true rfl, Nat.le_of_ble_eq_true rfl⟩) hP hD hS hA [1] [0, 2, 3, 4, 5] rfl rfl (by decide +kernel) (by decide +kernel) (fun  u H locs hP hD hS => ?_)
  have hP : va_P D vwCl [(z1, .inr (2, [.ref z2, .ref z3, .ref z4, .ref z5, .ref z6, .ref z7, .ref z8, .ref z9, .int 0, .int z10, .int z11, .int 0])), (z5, .inl (T 0, 64, .inl (fl 0 64 (fun _ => 0)))), (z6, .inl (T 0, 64, .inl (fl 0 64 (fun _ => 0)))), (z2, .inl (T 0, 64, .inl (fl (-1) 64 (fl (-1) 64 (fun _ => 0))))), (z3, .inl (T 0, 64, .inl (fl 0 64 (fl 0 64 (fun _ => 0))))), (z4, .inl (T 0, 64, .inl (fl 0 64 (fl 0 64 (fun _ => 0)))))] H := hP
  have hD : va_D A [(z1, .inr (2, [.ref z2, .ref z3, .ref z4, .ref z5, .ref z6, .ref z7, .ref z8, .ref z9, .int 0, .int z10, .int z11, .int 0])), (z5, .inl (T 0, 64, .inl (fl 0 64 (fun _ => 0)))), (z6, .inl (T 0, 64, .inl (fl 0 64 (fun _ => 0)))), (z2, .inl (T 0, 64, .inl (fl (-1) 64 (fl (-1) 64 (fun _ => 0))))), (z3, .inl (T 0, 64, .inl (fl 0 64 (fl 0 64 (fun _ => 0))))), (z4, .inl (T 0, 64, .inl (fl 0 64 (fl 0 64 (fun _ => 0)))))] := hD
  refine W.widen (k := 0) (n := 0) (Nat.le_of_ble_eq_true rfl) (Nat.le_of_ble_eq_true rfl) ?_
  refine lv_aload_n hx hb dX2_forget_24 rfl (lv_at hl 0 rfl) ?_
  refine r_get (v := .ref z5) C0 hE ffX2_3 mw_72 hP 0 rfl rfl dX2_forget_25 ?_
  refine lv_iconst (v := 0) hx hb dX2_forget_28 (by decide) ?_
  refine r_callv (wr := [(z1, .inr (2, [.ref z2, .ref z3, .ref z4, .ref z5, .ref z6, .ref z7, .ref z8, .ref z9, .int 0, .int z10, .int z11, .int 0])), (z6, .inl (T 0, 64, .inl (fl 0 64 (fun _ => 0)))), (z2, .inl (T 0, 64, .inl (fl (-1) 64 (fl (-1) 64 (fun _ => 0))))), (z3, .inl (T 0, 64, .inl (fl 0 64 (fl 0 64 (fun _ => 0))))), (z4, .inl (T 0, 64, .inl (fl 0 64 (fl 0 64 (fun _ => 0)))))]) (r_runS (As := [.ref z5, .int 0]) (rest := []) (wc := [(z5, .inl (T 0, 64, .inl (fl 0 64 (fun _ => 0))))]) C0 hE (c_fill l D T H.size z5 64 (fl 0 64 (fun _ => 0)) 0 (by decide)) mw_295 mw_296 mw_297 mw_298 dn_294 rfl rfl ⟨Nat.le_of_ble_eq_true rfl, Nat.le_of_ble_eq_true rfl⟩ (hP.sub (ws' := [(z5, .inl (T 0, 64, .inl (fl 0 64 (fun _ => 0))))]) [1] rfl) (hD.sub (ws' := [(z5, .inl (T 0, 64, .inl (fl 0 64 (fun _ => 0))))]) [1] (by decide +kernel) rfl) hl.1 rfl (Nat.le_of_ble_eq_true rfl) dX2_forget_29 ⟨Nat.le_of_ble_eq_true rfl, Nat.le_of_ble_eq_true rfl⟩) hP hD hS hA [1] [0, 2, 3, 4, 5] rfl rfl (by decide +kernel) (by decide +kernel) (fun  u H locs hP hD hS => ?_)
  have hP : va_P D vwCl [(z1, .inr (2, [.ref z2, .ref z3, .ref z4, .ref z5, .ref z6, .ref z7, .ref z8, .ref z9, .int 0, .int z10, .int z11, .int 0])), (z6, .inl (T 0, 64, .inl (fl 0 64 (fun _ => 0)))), (z2, .inl (T 0, 64, .inl (fl (-1) 64 (fl (-1) 64 (fun _ => 0))))), (z3, .inl (T 0, 64, .inl (fl 0 64 (fl 0 64 (fun _ => 0))))), (z4, .inl (T 0, 64, .inl (fl 0 64 (fl 0 64 (fun _ => 0))))), (z5, .inl (T 0, 64, .inl (fl 0 64 (fl 0 64 (fun _ => 0)))))] H := hP
  have hD : va_D A [(z1, .inr (2, [.ref z2, .ref z3, .ref z4, .ref z5, .ref z6, .ref z7, .ref z8, .ref z9, .int 0, .int z10, .int z11, .int 0])), (z6, .inl (T 0, 64, .inl (fl 0 64 (fun _ => 0)))), (z2, .inl (T 0, 64, .inl (fl (-1) 64 (fl (-1) 64 (fun _ => 0))))), (z3, .inl (T 0, 64, .inl (fl 0 64 (fl 0 64 (fun _ => 0))))), (z4, .inl (T 0, 64, .inl (fl 0 64 (fl 0 64 (fun _ => 0))))), (z5, .inl (T 0, 64, .inl (fl 0 64 (fl 0 64 (fun _ => 0)))))] := hD
  refine W.widen (k := 0) (n := 0) (Nat.le_of_ble_eq_true rfl) (Nat.le_of_ble_eq_true rfl) ?_
  refine lv_aload_n hx hb dX2_forget_32 rfl (lv_at hl 0 rfl) ?_
  refine r_get (v := .ref z6) C0 hE ffX2_4 mw_74 hP 0 rfl rfl dX2_forget_33 ?_
  refine lv_iconst (v := 0) hx hb dX2_forget_36 (by decide) ?_
  refine r_callv (wr := [(z1, .inr (2, [.ref z2, .ref z3, .ref z4, .ref z5, .ref z6, .ref z7, .ref z8, .ref z9, .int 0, .int z10, .int z11, .int 0])), (z2, .inl (T 0, 64, .inl (fl (-1) 64 (fl (-1) 64 (fun _ => 0))))), (z3, .inl (T 0, 64, .inl (fl 0 64 (fl 0 64 (fun _ => 0))))), (z4, .inl (T 0, 64, .inl (fl 0 64 (fl 0 64 (fun _ => 0))))), (z5, .inl (T 0, 64, .inl (fl 0 64 (fl 0 64 (fun _ => 0)))))]) (r_runS (As := [.ref z6, .int 0]) (rest := []) (wc := [(z6, .inl (T 0, 64, .inl (fl 0 64 (fun _ => 0))))]) C0 hE (c_fill l D T H.size z6 64 (fl 0 64 (fun _ => 0)) 0 (by decide)) mw_295 mw_296 mw_297 mw_298 dn_294 rfl rfl ⟨Nat.le_of_ble_eq_true rfl, Nat.le_of_ble_eq_true rfl⟩ (hP.sub (ws' := [(z6, .inl (T 0, 64, .inl (fl 0 64 (fun _ => 0))))]) [1] rfl) (hD.sub (ws' := [(z6, .inl (T 0, 64, .inl (fl 0 64 (fun _ => 0))))]) [1] (by decide +kernel) rfl) hl.1 rfl (Nat.le_of_ble_eq_true rfl) dX2_forget_37 ⟨Nat.le_of_ble_eq_true rfl, Nat.le_of_ble_eq_true rfl⟩) hP hD hS hA [1] [0, 2, 3, 4, 5] rfl rfl (by decide +kernel) (by decide +kernel) (fun  u H locs hP hD hS => ?_)
  have hP : va_P D vwCl [(z1, .inr (2, [.ref z2, .ref z3, .ref z4, .ref z5, .ref z6, .ref z7, .ref z8, .ref z9, .int 0, .int z10, .int z11, .int 0])), (z2, .inl (T 0, 64, .inl (fl (-1) 64 (fl (-1) 64 (fun _ => 0))))), (z3, .inl (T 0, 64, .inl (fl 0 64 (fl 0 64 (fun _ => 0))))), (z4, .inl (T 0, 64, .inl (fl 0 64 (fl 0 64 (fun _ => 0))))), (z5, .inl (T 0, 64, .inl (fl 0 64 (fl 0 64 (fun _ => 0))))), (z6, .inl (T 0, 64, .inl (fl 0 64 (fl 0 64 (fun _ => 0)))))] H := hP
  have hD : va_D A [(z1, .inr (2, [.ref z2, .ref z3, .ref z4, .ref z5, .ref z6, .ref z7, .ref z8, .ref z9, .int 0, .int z10, .int z11, .int 0])), (z2, .inl (T 0, 64, .inl (fl (-1) 64 (fl (-1) 64 (fun _ => 0))))), (z3, .inl (T 0, 64, .inl (fl 0 64 (fl 0 64 (fun _ => 0))))), (z4, .inl (T 0, 64, .inl (fl 0 64 (fl 0 64 (fun _ => 0))))), (z5, .inl (T 0, 64, .inl (fl 0 64 (fl 0 64 (fun _ => 0))))), (z6, .inl (T 0, 64, .inl (fl 0 64 (fl 0 64 (fun _ => 0)))))] := hD
  refine W.widen (k := 0) (n := 0) (Nat.le_of_ble_eq_true rfl) (Nat.le_of_ble_eq_true rfl) ?_
  refine lv_aload_n hx hb dX2_forget_40 rfl (lv_at hl 0 rfl) ?_
  refine lv_iconst (v := 0) hx hb dX2_forget_41 (by decide) ?_
  refine r_put (v := .int 0) (ty := .int) (fs1 := [.ref z2, .ref z3, .ref z4, .ref z5, .ref z6, .ref z7, .ref z8, .ref z9, .int 0, .int z10, .int z11, .int 0]) (ws1 := [(z1, .inr (2, [.ref z2, .ref z3, .ref z4, .ref z5, .ref z6, .ref z7, .ref z8, .ref z9, .int 0, .int z10, .int z11, .int 0])), (z2, .inl (T 0, 64, .inl (fl (-1) 64 (fl (-1) 64 (fun _ => 0))))), (z3, .inl (T 0, 64, .inl (fl 0 64 (fl 0 64 (fun _ => 0))))), (z4, .inl (T 0, 64, .inl (fl 0 64 (fl 0 64 (fun _ => 0))))), (z5, .inl (T 0, 64, .inl (fl 0 64 (fl 0 64 (fun _ => 0))))), (z6, .inl (T 0, 64, .inl (fl 0 64 (fl 0 64 (fun _ => 0)))))]) C0 hE ffX2_8 tyX2 tyX2_ok nmX2 mw_130 pf_29 hP hD hS 0 rfl rfl rfl (Nat.le_of_ble_eq_true rfl) rfl rfl dX2_forget_42 (fun H locs hP hD hS => ?_)
  refine lv_aload_n hx hb dX2_forget_45 rfl (lv_at hl 0 rfl) ?_
  refine lv_iconst (v := 0) hx hb dX2_forget_46 (by decide) ?_
  refine r_put (v := .int 0) (ty := .int) (fs1 := [.ref z2, .ref z3, .ref z4, .ref z5, .ref z6, .ref z7, .ref z8, .ref z9, .int 0, .int z10, .int z11, .int 0]) (ws1 := [(z1, .inr (2, [.ref z2, .ref z3, .ref z4, .ref z5, .ref z6, .ref z7, .ref z8, .ref z9, .int 0, .int z10, .int z11, .int 0])), (z2, .inl (T 0, 64, .inl (fl (-1) 64 (fl (-1) 64 (fun _ => 0))))), (z3, .inl (T 0, 64, .inl (fl 0 64 (fl 0 64 (fun _ => 0))))), (z4, .inl (T 0, 64, .inl (fl 0 64 (fl 0 64 (fun _ => 0))))), (z5, .inl (T 0, 64, .inl (fl 0 64 (fl 0 64 (fun _ => 0))))), (z6, .inl (T 0, 64, .inl (fl 0 64 (fl 0 64 (fun _ => 0)))))]) C0 hE ffX2_11 tyX2 tyX2_ok nmX2 mw_136 pf_29 hP hD hS 0 rfl rfl rfl (Nat.le_of_ble_eq_true rfl) rfl rfl dX2_forget_47 (fun H locs hP hD hS => ?_)
  exact r_vret () C0 hr hlocks hS (Nat.le_of_ble_eq_true rfl) (Nat.le_of_ble_eq_true rfl) dX2_forget_50 hP hD
