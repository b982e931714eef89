set_option maxHeartbeats 4000000 in
set_option maxRecDepth 100000 in
theorem sg_716 {p : Program} {l : Launch} {e : Env} {s : State} {m : MethodId} {args : Array Value} {below : List Frame} {meth : Method} {c : Code} {H : Heap} {locs : List Loc} {Q : State → Prop} {D : va_G} {T : Nat → ClassId} {A : Nat → Prop} {ls : Array Slot} (z1 : Nat) (z2 : Int32) (z3 : Nat) (C0 : CallFix p m c cX9_addFour 3 s args TB yX9_addFour.cls) (hE : EV D T s) (hnm : meth.name = yX9_addFour.name) (hA : ∀ q, s.heap.size ≤ q → A q) (hP : va_P D vwCl [(z1, .inr (9, [.ref z3, .int 0])), (z3, .inl (T 2, 700, .inl (fun _ => 0)))] H) (hD : va_D A [(z1, .inr (9, [.ref z3, .int 0])), (z3, .inl (T 2, 700, .inl (fun _ => 0)))]) (hS : va_S A s.heap H locs) (hl : lv_has ls 3 [(0, .ref z1), (1, .int z2)])
    (kk : ∀ (x712 : Int32) (f713 : Nat → Int32) (x714 : Int32) (f715 : Nat → Int32) (H : Heap) (locs : List Loc) (ls : Array Slot), va_P D vwCl [(z1, .inr (9, [.ref z3, .int 1])), (z3, .inl (T 2, 700, .inl f715))] H → va_D A [(z1, .inr (9, [.ref z3, .int 1])), (z3, .inl (T 2, 700, .inl f715))] → va_S A s.heap H locs → lv_has ls 3 [(2, .int 16), (0, .ref z1), (1, .int z2)] → W p l e { frames := 0, cells := 0, slots := 0, locals := 0 } s m args below meth c H locs 0 0 Q (F0 m 37 ls [.int 2, .ref z1])) : W p l e { frames := 0, cells := 0, slots := 0, locals := 0 } s m args below meth c H locs 0 0 Q (F0 m 0 ls []) := by
  have hx := C0.1
  have hb := C0.2.1
  have hml := C0.2.2.1
  have hown := C0.2.2.2.1
  have hT := C0.2.2.2.2
  have hK := hE.1
  refine lv_bipush (v := 24) hx hb dX9_addFour_0 (by decide) ?_
  refine lv_istore_n (lv' := [(2, .int 24), (0, .ref z1), (1, .int z2)]) hx hb dX9_addFour_2 rfl hl (by decide) rfl (fun ls hl => ?_)
  refine lv_iload_n hx hb dX9_addFour_3 rfl (lv_at hl 0 rfl) ?_
  refine lv_if_lt (tgt := 46) hx hb dX9_addFour_4 (by decide) (fun hc => absurd hc (by decide +kernel)) (fun _ => ?_)
  refine lv_aload_n hx hb dX9_addFour_7 rfl (lv_at hl 1 rfl) ?_
  refine r_get (v := .int 0) C0 hE ffX9_1 mw_27 hP 0 rfl rfl dX9_addFour_8 ?_
  refine lv_sipush (v := 700) hx hb dX9_addFour_11 (by decide) ?_
  refine lv_icmp_ge (tgt := 46) hx hb dX9_addFour_14 (by decide) (fun hc => absurd hc (by decide +kernel)) (fun _ => ?_)
  refine lv_aload_n hx hb dX9_addFour_17 rfl (lv_at hl 1 rfl) ?_
  refine r_get (v := .ref z3) C0 hE ffX9_0 mw_24 hP 0 rfl rfl dX9_addFour_18 ?_
  refine lv_aload_n hx hb dX9_addFour_21 rfl (lv_at hl 1 rfl) ?_
  refine r_get (v := .int 0) C0 hE ffX9_1 mw_27 hP 0 rfl rfl dX9_addFour_22 ?_
  refine lv_iload_n hx hb dX9_addFour_25 rfl (lv_at hl 2 rfl) ?_
  refine lv_iload_n hx hb dX9_addFour_26 rfl (lv_at hl 0 rfl) ?_
  refine lv_iushr hx hb dX9_addFour_27 rfl ?_
  refine lv_topi (fun x712 ex712 => ?_)
  refine lv_i2b hx hb dX9_addFour_28 rfl ?_
  refine r_bastO hx hb hK hP hD hS 1 rfl (vp_lit (by decide +kernel)) dX9_addFour_29 (fun f713 H locs hP hD hS => ?_)
  have hP : va_P D vwCl [(z1, .inr (9, [.ref z3, .int 0])), (z3, .inl (T 2, 700, .inl f713))] H := hP
  have hD : va_D A [(z1, .inr (9, [.ref z3, .int 0])), (z3, .inl (T 2, 700, .inl f713))] := hD
  refine lv_aload_n hx hb dX9_addFour_30 rfl (lv_at hl 1 rfl) ?_
  refine lv_dup hx hb dX9_addFour_31 rfl ?_
  refine r_get (v := .int 0) C0 hE ffX9_1 mw_27 hP 0 rfl rfl dX9_addFour_32 ?_
  refine lv_iconst (v := 1) hx hb dX9_addFour_35 (by decide) ?_
  refine lv_iadd hx hb dX9_addFour_36 ?_
  refine r_ci (v := 1) (by decide +kernel) ?_
  refine r_put (v := .int 1) (ty := .int) (fs1 := [.ref z3, .int 1]) (ws1 := [(z1, .inr (9, [.ref z3, .int 1])), (z3, .inl (T 2, 700, .inl f713))]) C0 hE ffX9_1 tyX9 tyX9_ok nmX9 mw_27 pf_29 hP hD hS 0 rfl rfl rfl (Nat.le_of_ble_eq_true rfl) rfl rfl dX9_addFour_37 (fun H locs hP hD hS => ?_)
  refine lv_iinc (v := 16) (lv' := [(2, .int 16), (0, .ref z1), (1, .int z2)]) hx hb dX9_addFour_40 hl (k := 0) rfl (by decide +kernel) (by decide) rfl (fun ls hl => ?_)
  refine lv_goto (tgt := 3) hx hb dX9_addFour_43 (by decide) ?_
  refine lv_iload_n hx hb dX9_addFour_3 rfl (lv_at hl 0 rfl) ?_
  refine lv_if_lt (tgt := 46) hx hb dX9_addFour_4 (by decide) (fun hc => absurd hc (by decide +kernel)) (fun _ => ?_)
  refine lv_aload_n hx hb dX9_addFour_7 rfl (lv_at hl 1 rfl) ?_
  refine r_get (v := .int 1) C0 hE ffX9_1 mw_27 hP 0 rfl rfl dX9_addFour_8 ?_
  refine lv_sipush (v := 700) hx hb dX9_addFour_11 (by decide) ?_
  refine lv_icmp_ge (tgt := 46) hx hb dX9_addFour_14 (by decide) (fun hc => absurd hc (by decide +kernel)) (fun _ => ?_)
  refine lv_aload_n hx hb dX9_addFour_17 rfl (lv_at hl 1 rfl) ?_
  refine r_get (v := .ref z3) C0 hE ffX9_0 mw_24 hP 0 rfl rfl dX9_addFour_18 ?_
  refine lv_aload_n hx hb dX9_addFour_21 rfl (lv_at hl 1 rfl) ?_
  refine r_get (v := .int 1) C0 hE ffX9_1 mw_27 hP 0 rfl rfl dX9_addFour_22 ?_
  refine lv_iload_n hx hb dX9_addFour_25 rfl (lv_at hl 2 rfl) ?_
  refine lv_iload_n hx hb dX9_addFour_26 rfl (lv_at hl 0 rfl) ?_
  refine lv_iushr hx hb dX9_addFour_27 rfl ?_
  refine lv_topi (fun x714 ex714 => ?_)
  refine lv_i2b hx hb dX9_addFour_28 rfl ?_
  refine r_bastO hx hb hK hP hD hS 1 rfl (vp_lit (by decide +kernel)) dX9_addFour_29 (fun f715 H locs hP hD hS => ?_)
  have hP : va_P D vwCl [(z1, .inr (9, [.ref z3, .int 1])), (z3, .inl (T 2, 700, .inl f715))] H := hP
  have hD : va_D A [(z1, .inr (9, [.ref z3, .int 1])), (z3, .inl (T 2, 700, .inl f715))] := hD
  refine lv_aload_n hx hb dX9_addFour_30 rfl (lv_at hl 1 rfl) ?_
  refine lv_dup hx hb dX9_addFour_31 rfl ?_
  refine r_get (v := .int 1) C0 hE ffX9_1 mw_27 hP 0 rfl rfl dX9_addFour_32 ?_
  refine lv_iconst (v := 1) hx hb dX9_addFour_35 (by decide) ?_
  refine lv_iadd hx hb dX9_addFour_36 ?_
  refine r_ci (v := 2) (by decide +kernel) ?_
  exact kk x712 f713 x714 f715 H locs ls hP hD hS hl
set_option maxHeartbeats 4000000 in
set_option maxRecDepth 100000 in
theorem sg_721 {p : Program} {l : Launch} {e : Env} {s : State} {m : MethodId} {args : Array Value} {below : List Frame} {meth : Method} {c : Code} {H : Heap} {locs : List Loc} {Q : State → Prop} {D : va_G} {T : Nat → ClassId} {A : Nat → Prop} {ls : Array Slot} (z1 : Nat) (z2 : Int32) (z3 : Nat) (f715 : Nat → Int32) (C0 : CallFix p m c cX9_addFour 3 s args TB yX9_addFour.cls) (hE : EV D T s) (hnm : meth.name = yX9_addFour.name) (hA : ∀ q, s.heap.size ≤ q → A q) (hP : va_P D vwCl [(z1, .inr (9, [.ref z3, .int 1])), (z3, .inl (T 2, 700, .inl f715))] H) (hD : va_D A [(z1, .inr (9, [.ref z3, .int 1])), (z3, .inl (T 2, 700, .inl f715))]) (hS : va_S A s.heap H locs) (hl : lv_has ls 3 [(2, .int 16), (0, .ref z1), (1, .int z2)])
    (kk : ∀ (x717 : Int32) (f718 : Nat → Int32) (x719 : Int32) (f720 : Nat → Int32) (H : Heap) (locs : List Loc) (ls : Array Slot), va_P D vwCl [(z1, .inr (9, [.ref z3, .int 3])), (z3, .inl (T 2, 700, .inl f720))] H → va_D A [(z1, .inr (9, [.ref z3, .int 3])), (z3, .inl (T 2, 700, .inl f720))] → va_S A s.heap H locs → lv_has ls 3 [(2, .int 0), (0, .ref z1), (1, .int z2)] → W p l e { frames := 0, cells := 0, slots := 0, locals := 0 } s m args below meth c H locs 0 0 Q (F0 m 36 ls [.int 1, .int 3, .ref z1])) : W p l e { frames := 0, cells := 0, slots := 0, locals := 0 } s m args below meth c H locs 0 0 Q (F0 m 37 ls [.int 2, .ref z1]) := by
  have hx := C0.1
  have hb := C0.2.1
  have hml := C0.2.2.1
  have hown := C0.2.2.2.1
  have hT := C0.2.2.2.2
  have hK := hE.1
  refine r_put (v := .int 2) (ty := .int) (fs1 := [.ref z3, .int 2]) (ws1 := [(z1, .inr (9, [.ref z3, .int 2])), (z3, .inl (T 2, 700, .inl f715))]) C0 hE ffX9_1 tyX9 tyX9_ok nmX9 mw_27 pf_29 hP hD hS 0 rfl rfl rfl (Nat.le_of_ble_eq_true rfl) rfl rfl dX9_addFour_37 (fun H locs hP hD hS => ?_)
  refine lv_iinc (v := 8) (lv' := [(2, .int 8), (0, .ref z1), (1, .int z2)]) hx hb dX9_addFour_40 hl (k := 0) rfl (by decide +kernel) (by decide) rfl (fun ls hl => ?_)
  refine lv_goto (tgt := 3) hx hb dX9_addFour_43 (by decide) ?_
  refine lv_iload_n hx hb dX9_addFour_3 rfl (lv_at hl 0 rfl) ?_
  refine lv_if_lt (tgt := 46) hx hb dX9_addFour_4 (by decide) (fun hc => absurd hc (by decide +kernel)) (fun _ => ?_)
  refine lv_aload_n hx hb dX9_addFour_7 rfl (lv_at hl 1 rfl) ?_
  refine r_get (v := .int 2) C0 hE ffX9_1 mw_27 hP 0 rfl rfl dX9_addFour_8 ?_
  refine lv_sipush (v := 700) hx hb dX9_addFour_11 (by decide) ?_
  refine lv_icmp_ge (tgt := 46) hx hb dX9_addFour_14 (by decide) (fun hc => absurd hc (by decide +kernel)) (fun _ => ?_)
  refine lv_aload_n hx hb dX9_addFour_17 rfl (lv_at hl 1 rfl) ?_
  refine r_get (v := .ref z3) C0 hE ffX9_0 mw_24 hP 0 rfl rfl dX9_addFour_18 ?_
  refine lv_aload_n hx hb dX9_addFour_21 rfl (lv_at hl 1 rfl) ?_
  refine r_get (v := .int 2) C0 hE ffX9_1 mw_27 hP 0 rfl rfl dX9_addFour_22 ?_
  refine lv_iload_n hx hb dX9_addFour_25 rfl (lv_at hl 2 rfl) ?_
  refine lv_iload_n hx hb dX9_addFour_26 rfl (lv_at hl 0 rfl) ?_
  refine lv_iushr hx hb dX9_addFour_27 rfl ?_
  refine lv_topi (fun x717 ex717 => ?_)
  refine lv_i2b hx hb dX9_addFour_28 rfl ?_
  refine r_bastO hx hb hK hP hD hS 1 rfl (vp_lit (by decide +kernel)) dX9_addFour_29 (fun f718 H locs hP hD hS => ?_)
  have hP : va_P D vwCl [(z1, .inr (9, [.ref z3, .int 2])), (z3, .inl (T 2, 700, .inl f718))] H := hP
  have hD : va_D A [(z1, .inr (9, [.ref z3, .int 2])), (z3, .inl (T 2, 700, .inl f718))] := hD
  refine lv_aload_n hx hb dX9_addFour_30 rfl (lv_at hl 1 rfl) ?_
  refine lv_dup hx hb dX9_addFour_31 rfl ?_
  refine r_get (v := .int 2) C0 hE ffX9_1 mw_27 hP 0 rfl rfl dX9_addFour_32 ?_
  refine lv_iconst (v := 1) hx hb dX9_addFour_35 (by decide) ?_
  refine lv_iadd hx hb dX9_addFour_36 ?_
  refine r_ci (v := 3) (by decide +kernel) ?_
  refine r_put (v := .int 3) (ty := .int) (fs1 := [.ref z3, .int 3]) (ws1 := [(z1, .inr (9, [.ref z3, .int 3])), (z3, .inl (T 2, 700, .inl f718))]) C0 hE ffX9_1 tyX9 tyX9_ok nmX9 mw_27 pf_29 hP hD hS 0 rfl rfl rfl (Nat.le_of_ble_eq_true rfl) rfl rfl dX9_addFour_37 (fun H locs hP hD hS => ?_)
  refine lv_iinc (v := 0) (lv' := [(2, .int 0), (0, .ref z1), (1, .int z2)]) hx hb dX9_addFour_40 hl (k := 0) rfl (by decide +kernel) (by decide) rfl (fun ls hl => ?_)
  refine lv_goto (tgt := 3) hx hb dX9_addFour_43 (by decide) ?_
  refine lv_iload_n hx hb dX9_addFour_3 rfl (lv_at hl 0 rfl) ?_
  refine lv_if_lt (tgt := 46) hx hb dX9_addFour_4 (by decide) (fun hc => absurd hc (by decide +kernel)) (fun _ => ?_)
  refine lv_aload_n hx hb dX9_addFour_7 rfl (lv_at hl 1 rfl) ?_
  refine r_get (v := .int 3) C0 hE ffX9_1 mw_27 hP 0 rfl rfl dX9_addFour_8 ?_
  refine lv_sipush (v := 700) hx hb dX9_addFour_11 (by decide) ?_
  refine lv_icmp_ge (tgt := 46) hx hb dX9_addFour_14 (by decide) (fun hc => absurd hc (by decide +kernel)) (fun _ => ?_)
  refine lv_aload_n hx hb dX9_addFour_17 rfl (lv_at hl 1 rfl) ?_
  refine r_get (v := .ref z3) C0 hE ffX9_0 mw_24 hP 0 rfl rfl dX9_addFour_18 ?_
  refine lv_aload_n hx hb dX9_addFour_21 rfl (lv_at hl 1 rfl) ?_
  refine r_get (v := .int 3) C0 hE ffX9_1 mw_27 hP 0 rfl rfl dX9_addFour_22 ?_
  refine lv_iload_n hx hb dX9_addFour_25 rfl (lv_at hl 2 rfl) ?_
  refine lv_iload_n hx hb dX9_addFour_26 rfl (lv_at hl 0 rfl) ?_
  refine lv_iushr hx hb dX9_addFour_27 rfl ?_
  refine lv_topi (fun x719 ex719 => ?_)
  refine lv_i2b hx hb dX9_addFour_28 rfl ?_
  refine r_bastO hx hb hK hP hD hS 1 rfl (vp_lit (by decide +kernel)) dX9_addFour_29 (fun f720 H locs hP hD hS => ?_)
  have hP : va_P D vwCl [(z1, .inr (9, [.ref z3, .int 3])), (z3, .inl (T 2, 700, .inl f720))] H := hP
  have hD : va_D A [(z1, .inr (9, [.ref z3, .int 3])), (z3, .inl (T 2, 700, .inl f720))] := hD
  refine lv_aload_n hx hb dX9_addFour_30 rfl (lv_at hl 1 rfl) ?_
  refine lv_dup hx hb dX9_addFour_31 rfl ?_
  refine r_get (v := .int 3) C0 hE ffX9_1 mw_27 hP 0 rfl rfl dX9_addFour_32 ?_
  refine lv_iconst (v := 1) hx hb dX9_addFour_35 (by decide) ?_
  exact kk x717 f718 x719 f720 H locs ls hP hD hS hl
set_option maxHeartbeats 4000000 in
set_option maxRecDepth 100000 in
theorem c_X9_addFour_722 (l : Launch) (D : va_G) (T : Nat → ClassId) (sz : Nat) (z1 : Nat) (z2 : Int32) (z3 : Nat) : Met l yX9_addFour (.code yX9_addFour cX9_addFour 3 none :: TB) { frames := 0, cells := 0, slots := 0, locals := 0 } (PC D T [.ref z1, .int z2] [(z1, .inr (9, [.ref z3, .int 0])), (z3, .inl (T 2, 700, .inl (fun _ => 0)))] sz) (Qv (S := (Nat → Int32)) (fun (f720 : (Nat → Int32)) => [(z1, .inr (9, [.ref z3, .int 4])), (z3, .inl (T 2, 700, .inl f720))]) D (va_A [(z1, .inr (9, [.ref z3, .int 0])), (z3, .inl (T 2, 700, .inl (fun _ => 0)))] sz)) 0 0 (va_A [(z1, .inr (9, [.ref z3, .int 0])), (z3, .inl (T 2, 700, .inl (fun _ => 0)))] sz) := by
  refine ct_begin (Qc := Qv (S := (Nat → Int32)) (fun (f720 : (Nat → Int32)) => [(z1, .inr (9, [.ref z3, .int 4])), (z3, .inl (T 2, 700, .inl f720))]) D) (by decide +kernel) (Nat.le_of_ble_eq_true rfl) ?_
  intro p e s m below meth c A ls C0 hr hlocks hnm hE hA hP hD hS hl
  have hx := C0.1
  have hb := C0.2.1
  have hml := C0.2.2.1
  have hown := C0.2.2.2.1
  have hT := C0.2.2.2.2
  have hK := hE.1
  have hl : lv_has ls 3 [(0, .ref z1), (1, .int z2)] := hl
  refine sg_716 z1 z2 z3 C0 hE hnm hA hP hD hS hl (fun x712 f713 x714 f715 H locs ls hP hD hS hl => ?_)
  refine sg_721 z1 z2 z3 f715 C0 hE hnm hA hP hD hS hl (fun x717 f718 x719 f720 H locs ls hP hD hS hl => ?_)
  refine lv_iadd hx hb dX9_addFour_36 ?_
  refine r_ci (v := 4) (by decide +kernel) ?_
  refine r_put (v := .int 4) (ty := .int) (fs1 := [.ref z3, .int 4]) (ws1 := [(z1, .inr (9, [.ref z3, .int 4])), (z3, .inl (T 2, 700, .inl f720))]) C0 hE ffX9_1 tyX9 tyX9_ok nmX9 mw_27 pf_29 hP hD hS 0 rfl rfl rfl (Nat.le_of_ble_eq_true rfl) rfl rfl dX9_addFour_37 (fun H locs hP hD hS => ?_)
  refine lv_iinc (v := (-8)) (lv' := [(2, .int (-8)), (0, .ref z1), (1, .int z2)]) hx hb dX9_addFour_40 hl (k := 0) rfl (by decide +kernel) (by decide) rfl (fun ls hl => ?_)
  refine lv_goto (tgt := 3) hx hb dX9_addFour_43 (by decide) ?_
  refine lv_iload_n hx hb dX9_addFour_3 rfl (lv_at hl 0 rfl) ?_
  refine lv_if_lt (tgt := 46) hx hb dX9_addFour_4 (by decide) (fun _ => ?_) (fun hc => absurd (by decide +kernel) hc)
  exact r_vret (f720) C0 hr hlocks hS (Nat.le_of_ble_eq_true rfl) (Nat.le_of_ble_eq_true rfl) dX9_addFour_46 hP hD
set_option maxHeartbeats 4000000 in
set_option maxRecDepth 100000 in
theorem sg_738 {p : Program} {l : Launch} {e : Env} {s : State} {m : MethodId} {args : Array Value} {below : List Frame} {meth : Method} {c : Code} {H : Heap} {locs : List Loc} {Q : State → Prop} {D : va_G} {T : Nat → ClassId} {A : Nat → Prop} {ls : Array Slot} (z1 : Nat) (z2 : Int32) (z3 : Nat) (z4 : Nat → Int32) (C0 : CallFix p m c cX9_addFour 3 s args TB yX9_addFour.cls) (hE : EV D T s) (hnm : meth.name = yX9_addFour.name) (hA : ∀ q, s.heap.size ≤ q → A q) (hP : va_P D vwCl [(z1, .inr (9, [.ref z3, .int 4])), (z3, .inl (T 2, 700, .inl z4))] H) (hD : va_D A [(z1, .inr (9, [.ref z3, .int 4])), (z3, .inl (T 2, 700, .inl z4))]) (hS : va_S A s.heap H locs) (hl : lv_has ls 3 [(0, .ref z1), (1, .int z2)])
    (kk : ∀ (x734 : Int32) (f735 : Nat → Int32) (x736 : Int32) (f737 : Nat → Int32) (H : Heap) (locs : List Loc) (ls : Array Slot), va_P D vwCl [(z1, .inr (9, [.ref z3, .int 5])), (z3, .inl (T 2, 700, .inl f737))] H → va_D A [(z1, .inr (9, [.ref z3, .int 5])), (z3, .inl (T 2, 700, .inl f737))] → va_S A s.heap H locs → lv_has ls 3 [(2, .int 16), (0, .ref z1), (1, .int z2)] → W p l e { frames := 0, cells := 0, slots := 0, locals := 0 } s m args below meth c H locs 0 0 Q (F0 m 37 ls [.int 6, .ref z1])) : W p l e { frames := 0, cells := 0, slots := 0, locals := 0 } s m args below meth c H locs 0 0 Q (F0 m 0 ls []) := by
  have hx := C0.1
  have hb := C0.2.1
  have hml := C0.2.2.1
  have hown := C0.2.2.2.1
  have hT := C0.2.2.2.2
  have hK := hE.1
  refine lv_bipush (v := 24) hx hb dX9_addFour_0 (by decide) ?_
  refine lv_istore_n (lv' := [(2, .int 24), (0, .ref z1), (1, .int z2)]) hx hb dX9_addFour_2 rfl hl (by decide) rfl (fun ls hl => ?_)
  refine lv_iload_n hx hb dX9_addFour_3 rfl (lv_at hl 0 rfl) ?_
  refine lv_if_lt (tgt := 46) hx hb dX9_addFour_4 (by decide) (fun hc => absurd hc (by decide +kernel)) (fun _ => ?_)
  refine lv_aload_n hx hb dX9_addFour_7 rfl (lv_at hl 1 rfl) ?_
  refine r_get (v := .int 4) C0 hE ffX9_1 mw_27 hP 0 rfl rfl dX9_addFour_8 ?_
  refine lv_sipush (v := 700) hx hb dX9_addFour_11 (by decide) ?_
  refine lv_icmp_ge (tgt := 46) hx hb dX9_addFour_14 (by decide) (fun hc => absurd hc (by decide +kernel)) (fun _ => ?_)
  refine lv_aload_n hx hb dX9_addFour_17 rfl (lv_at hl 1 rfl) ?_
  refine r_get (v := .ref z3) C0 hE ffX9_0 mw_24 hP 0 rfl rfl dX9_addFour_18 ?_
  refine lv_aload_n hx hb dX9_addFour_21 rfl (lv_at hl 1 rfl) ?_
  refine r_get (v := .int 4) C0 hE ffX9_1 mw_27 hP 0 rfl rfl dX9_addFour_22 ?_
  refine lv_iload_n hx hb dX9_addFour_25 rfl (lv_at hl 2 rfl) ?_
  refine lv_iload_n hx hb dX9_addFour_26 rfl (lv_at hl 0 rfl) ?_
  refine lv_iushr hx hb dX9_addFour_27 rfl ?_
  refine lv_topi (fun x734 ex734 => ?_)
  refine lv_i2b hx hb dX9_addFour_28 rfl ?_
  refine r_bastO hx hb hK hP hD hS 1 rfl (vp_lit (by decide +kernel)) dX9_addFour_29 (fun f735 H locs hP hD hS => ?_)
  have hP : va_P D vwCl [(z1, .inr (9, [.ref z3, .int 4])), (z3, .inl (T 2, 700, .inl f735))] H := hP
  have hD : va_D A [(z1, .inr (9, [.ref z3, .int 4])), (z3, .inl (T 2, 700, .inl f735))] := hD
  refine lv_aload_n hx hb dX9_addFour_30 rfl (lv_at hl 1 rfl) ?_
  refine lv_dup hx hb dX9_addFour_31 rfl ?_
  refine r_get (v := .int 4) C0 hE ffX9_1 mw_27 hP 0 rfl rfl dX9_addFour_32 ?_
  refine lv_iconst (v := 1) hx hb dX9_addFour_35 (by decide) ?_
  refine lv_iadd hx hb dX9_addFour_36 ?_
  refine r_ci (v := 5) (by decide +kernel) ?_
  refine r_put (v := .int 5) (ty := .int) (fs1 := [.ref z3, .int 5]) (ws1 := [(z1, .inr (9, [.ref z3, .int 5])), (z3, .inl (T 2, 700, .inl f735))]) C0 hE ffX9_1 tyX9 tyX9_ok nmX9 mw_27 pf_29 hP hD hS 0 rfl rfl rfl (Nat.le_of_ble_eq_true rfl) rfl rfl dX9_addFour_37 (fun H locs hP hD hS => ?_)
  refine lv_iinc (v := 16) (lv' := [(2, .int 16), (0, .ref z1), (1, .int z2)]) hx hb dX9_addFour_40 hl (k := 0) rfl (by decide +kernel) (by decide) rfl (fun ls hl => ?_)
  refine lv_goto (tgt := 3) hx hb dX9_addFour_43 (by decide) ?_
  refine lv_iload_n hx hb dX9_addFour_3 rfl (lv_at hl 0 rfl) ?_
  refine lv_if_lt (tgt := 46) hx hb dX9_addFour_4 (by decide) (fun hc => absurd hc (by decide +kernel)) (fun _ => ?_)
  refine lv_aload_n hx hb dX9_addFour_7 rfl (lv_at hl 1 rfl) ?_
  refine r_get (v := .int 5) C0 hE ffX9_1 mw_27 hP 0 rfl rfl dX9_addFour_8 ?_
  refine lv_sipush (v := 700) hx hb dX9_addFour_11 (by decide) ?_
  refine lv_icmp_ge (tgt := 46) hx hb dX9_addFour_14 (by decide) (fun hc => absurd hc (by decide +kernel)) (fun _ => ?_)
  refine lv_aload_n hx hb dX9_addFour_17 rfl (lv_at hl 1 rfl) ?_
  refine r_get (v := .ref z3) C0 hE ffX9_0 mw_24 hP 0 rfl rfl dX9_addFour_18 ?_
  refine lv_aload_n hx hb dX9_addFour_21 rfl (lv_at hl 1 rfl) ?_
  refine r_get (v := .int 5) C0 hE ffX9_1 mw_27 hP 0 rfl rfl dX9_addFour_22 ?_
  refine lv_iload_n hx hb dX9_addFour_25 rfl (lv_at hl 2 rfl) ?_
  refine lv_iload_n hx hb dX9_addFour_26 rfl (lv_at hl 0 rfl) ?_
  refine lv_iushr hx hb dX9_addFour_27 rfl ?_
  refine lv_topi (fun x736 ex736 => ?_)
  refine lv_i2b hx hb dX9_addFour_28 rfl ?_
  refine r_bastO hx hb hK hP hD hS 1 rfl (vp_lit (by decide +kernel)) dX9_addFour_29 (fun f737 H locs hP hD hS => ?_)
  have hP : va_P D vwCl [(z1, .inr (9, [.ref z3, .int 5])), (z3, .inl (T 2, 700, .inl f737))] H := hP
  have hD : va_D A [(z1, .inr (9, [.ref z3, .int 5])), (z3, .inl (T 2, 700, .inl f737))] := hD
  refine lv_aload_n hx hb dX9_addFour_30 rfl (lv_at hl 1 rfl) ?_
  refine lv_dup hx hb dX9_addFour_31 rfl ?_
  refine r_get (v := .int 5) C0 hE ffX9_1 mw_27 hP 0 rfl rfl dX9_addFour_32 ?_
  refine lv_iconst (v := 1) hx hb dX9_addFour_35 (by decide) ?_
  refine lv_iadd hx hb dX9_addFour_36 ?_
  refine r_ci (v := 6) (by decide +kernel) ?_
  exact kk x734 f735 x736 f737 H locs ls hP hD hS hl
set_option maxHeartbeats 4000000 in
set_option maxRecDepth 100000 in
theorem sg_743 {p : Program} {l : Launch} {e : Env} {s : State} {m : MethodId} {args : Array Value} {below : List Frame} {meth : Method} {c : Code} {H : Heap} {locs : List Loc} {Q : State → Prop} {D : va_G} {T : Nat → ClassId} {A : Nat → Prop} {ls : Array Slot} (z1 : Nat) (z2 : Int32) (z3 : Nat) (f737 : Nat → Int32) (C0 : CallFix p m c cX9_addFour 3 s args TB yX9_addFour.cls) (hE : EV D T s) (hnm : meth.name = yX9_addFour.name) (hA : ∀ q, s.heap.size ≤ q → A q) (hP : va_P D vwCl [(z1, .inr (9, [.ref z3, .int 5])), (z3, .inl (T 2, 700, .inl f737))] H) (hD : va_D A [(z1, .inr (9, [.ref z3, .int 5])), (z3, .inl (T 2, 700, .inl f737))]) (hS : va_S A s.heap H locs) (hl : lv_has ls 3 [(2, .int 16), (0, .ref z1), (1, .int z2)])
    (kk : ∀ (x739 : Int32) (f740 : Nat → Int32) (x741 : Int32) (f742 : Nat → Int32) (H : Heap) (locs : List Loc) (ls : Array Slot), va_P D vwCl [(z1, .inr (9, [.ref z3, .int 7])), (z3, .inl (T 2, 700, .inl f742))] H → va_D A [(z1, .inr (9, [.ref z3, .int 7])), (z3, .inl (T 2, 700, .inl f742))] → va_S A s.heap H locs → lv_has ls 3 [(2, .int 0), (0, .ref z1), (1, .int z2)] → W p l e { frames := 0, cells := 0, slots := 0, locals := 0 } s m args below meth c H locs 0 0 Q (F0 m 36 ls [.int 1, .int 7, .ref z1])) : W p l e { frames := 0, cells := 0, slots := 0, locals := 0 } s m args below meth c H locs 0 0 Q (F0 m 37 ls [.int 6, .ref z1]) := by
  have hx := C0.1
  have hb := C0.2.1
  have hml := C0.2.2.1
  have hown := C0.2.2.2.1
  have hT := C0.2.2.2.2
  have hK := hE.1
  refine r_put (v := .int 6) (ty := .int) (fs1 := [.ref z3, .int 6]) (ws1 := [(z1, .inr (9, [.ref z3, .int 6])), (z3, .inl (T 2, 700, .inl f737))]) C0 hE ffX9_1 tyX9 tyX9_ok nmX9 mw_27 pf_29 hP hD hS 0 rfl rfl rfl (Nat.le_of_ble_eq_true rfl) rfl rfl dX9_addFour_37 (fun H locs hP hD hS => ?_)
  refine lv_iinc (v := 8) (lv' := [(2, .int 8), (0, .ref z1), (1, .int z2)]) hx hb dX9_addFour_40 hl (k := 0) rfl (by decide +kernel) (by decide) rfl (fun ls hl => ?_)
  refine lv_goto (tgt := 3) hx hb dX9_addFour_43 (by decide) ?_
  refine lv_iload_n hx hb dX9_addFour_3 rfl (lv_at hl 0 rfl) ?_
  refine lv_if_lt (tgt := 46) hx hb dX9_addFour_4 (by decide) (fun hc => absurd hc (by decide +kernel)) (fun _ => ?_)
  refine lv_aload_n hx hb dX9_addFour_7 rfl (lv_at hl 1 rfl) ?_
  refine r_get (v := .int 6) C0 hE ffX9_1 mw_27 hP 0 rfl rfl dX9_addFour_8 ?_
  refine lv_sipush (v := 700) hx hb dX9_addFour_11 (by decide) ?_
  refine lv_icmp_ge (tgt := 46) hx hb dX9_addFour_14 (by decide) (fun hc => absurd hc (by decide +kernel)) (fun _ => ?_)
  refine lv_aload_n hx hb dX9_addFour_17 rfl (lv_at hl 1 rfl) ?_
  refine r_get (v := .ref z3) C0 hE ffX9_0 mw_24 hP 0 rfl rfl dX9_addFour_18 ?_
  refine lv_aload_n hx hb dX9_addFour_21 rfl (lv_at hl 1 rfl) ?_
  refine r_get (v := .int 6) C0 hE ffX9_1 mw_27 hP 0 rfl rfl dX9_addFour_22 ?_
  refine lv_iload_n hx hb dX9_addFour_25 rfl (lv_at hl 2 rfl) ?_
  refine lv_iload_n hx hb dX9_addFour_26 rfl (lv_at hl 0 rfl) ?_
  refine lv_iushr hx hb dX9_addFour_27 rfl ?_
  refine lv_topi (fun x739 ex739 => ?_)
  refine lv_i2b hx hb dX9_addFour_28 rfl ?_
  refine r_bastO hx hb hK hP hD hS 1 rfl (vp_lit (by decide +kernel)) dX9_addFour_29 (fun f740 H locs hP hD hS => ?_)
  have hP : va_P D vwCl [(z1, .inr (9, [.ref z3, .int 6])), (z3, .inl (T 2, 700, .inl f740))] H := hP
  have hD : va_D A [(z1, .inr (9, [.ref z3, .int 6])), (z3, .inl (T 2, 700, .inl f740))] := hD
  refine lv_aload_n hx hb dX9_addFour_30 rfl (lv_at hl 1 rfl) ?_
  refine lv_dup hx hb dX9_addFour_31 rfl ?_
  refine r_get (v := .int 6) C0 hE ffX9_1 mw_27 hP 0 rfl rfl dX9_addFour_32 ?_
  refine lv_iconst (v := 1) hx hb dX9_addFour_35 (by decide) ?_
  refine lv_iadd hx hb dX9_addFour_36 ?_
  refine r_ci (v := 7) (by decide +kernel) ?_
  refine r_put (v := .int 7) (ty := .int) (fs1 := [.ref z3, .int 7]) (ws1 := [(z1, .inr (9, [.ref z3, .int 7])), (z3, .inl (T 2, 700, .inl f740))]) C0 hE ffX9_1 tyX9 tyX9_ok nmX9 mw_27 pf_29 hP hD hS 0 rfl rfl rfl (Nat.le_of_ble_eq_true rfl) rfl rfl dX9_addFour_37 (fun H locs hP hD hS => ?_)
  refine lv_iinc (v := 0) (lv' := [(2, .int 0), (0, .ref z1), (1, .int z2)]) hx hb dX9_addFour_40 hl (k := 0) rfl (by decide +kernel) (by decide) rfl (fun ls hl => ?_)
  refine lv_goto (tgt := 3) hx hb dX9_addFour_43 (by decide) ?_
  refine lv_iload_n hx hb dX9_addFour_3 rfl (lv_at hl 0 rfl) ?_
  refine lv_if_lt (tgt := 46) hx hb dX9_addFour_4 (by decide) (fun hc => absurd hc (by decide +kernel)) (fun _ => ?_)
  refine lv_aload_n hx hb dX9_addFour_7 rfl (lv_at hl 1 rfl) ?_
  refine r_get (v := .int 7) C0 hE ffX9_1 mw_27 hP 0 rfl rfl dX9_addFour_8 ?_
  refine lv_sipush (v := 700) hx hb dX9_addFour_11 (by decide) ?_
  refine lv_icmp_ge (tgt := 46) hx hb dX9_addFour_14 (by decide) (fun hc => absurd hc (by decide +kernel)) (fun _ => ?_)
  refine lv_aload_n hx hb dX9_addFour_17 rfl (lv_at hl 1 rfl) ?_
  refine r_get (v := .ref z3) C0 hE ffX9_0 mw_24 hP 0 rfl rfl dX9_addFour_18 ?_
  refine lv_aload_n hx hb dX9_addFour_21 rfl (lv_at hl 1 rfl) ?_
  refine r_get (v := .int 7) C0 hE ffX9_1 mw_27 hP 0 rfl rfl dX9_addFour_22 ?_
  refine lv_iload_n hx hb dX9_addFour_25 rfl (lv_at hl 2 rfl) ?_
  refine lv_iload_n hx hb dX9_addFour_26 rfl (lv_at hl 0 rfl) ?_
  refine lv_iushr hx hb dX9_addFour_27 rfl ?_
  refine lv_topi (fun x741 ex741 => ?_)
  refine lv_i2b hx hb dX9_addFour_28 rfl ?_
  refine r_bastO hx hb hK hP hD hS 1 rfl (vp_lit (by decide +kernel)) dX9_addFour_29 (fun f742 H locs hP hD hS => ?_)
  have hP : va_P D vwCl [(z1, .inr (9, [.ref z3, .int 7])), (z3, .inl (T 2, 700, .inl f742))] H := hP
  have hD : va_D A [(z1, .inr (9, [.ref z3, .int 7])), (z3, .inl (T 2, 700, .inl f742))] := hD
  refine lv_aload_n hx hb dX9_addFour_30 rfl (lv_at hl 1 rfl) ?_
  refine lv_dup hx hb dX9_addFour_31 rfl ?_
  refine r_get (v := .int 7) C0 hE ffX9_1 mw_27 hP 0 rfl rfl dX9_addFour_32 ?_
  refine lv_iconst (v := 1) hx hb dX9_addFour_35 (by decide) ?_
  exact kk x739 f740 x741 f742 H locs ls hP hD hS hl
set_option maxHeartbeats 4000000 in
set_option maxRecDepth 100000 in
theorem c_X9_addFour_744 (l : Launch) (D : va_G) (T : Nat → ClassId) (sz : Nat) (z1 : Nat) (z2 : Int32) (z3 : Nat) (z4 : Nat → Int32) : Met l yX9_addFour (.code yX9_addFour cX9_addFour 3 none :: TB) { frames := 0, cells := 0, slots := 0, locals := 0 } (PC D T [.ref z1, .int z2] [(z1, .inr (9, [.ref z3, .int 4])), (z3, .inl (T 2, 700, .inl z4))] sz) (Qv (S := (Nat → Int32)) (fun (f742 : (Nat → Int32)) => [(z1, .inr (9, [.ref z3, .int 8])), (z3, .inl (T 2, 700, .inl f742))]) D (va_A [(z1, .inr (9, [.ref z3, .int 4])), (z3, .inl (T 2, 700, .inl z4))] sz)) 0 0 (va_A [(z1, .inr (9, [.ref z3, .int 4])), (z3, .inl (T 2, 700, .inl z4))] sz) := by
  refine ct_begin (Qc := Qv (S := (Nat → Int32)) (fun (f742 : (Nat → Int32)) => [(z1, .inr (9, [.ref z3, .int 8])), (z3, .inl (T 2, 700, .inl f742))]) D) (by decide +kernel) (Nat.le_of_ble_eq_true rfl) ?_
  intro p e s m below meth c A ls C0 hr hlocks hnm hE hA hP hD hS hl
  have hx := C0.1
  have hb := C0.2.1
  have hml := C0.2.2.1
  have hown := C0.2.2.2.1
  have hT := C0.2.2.2.2
  have hK := hE.1
  have hl : lv_has ls 3 [(0, .ref z1), (1, .int z2)] := hl
  refine sg_738 z1 z2 z3 z4 C0 hE hnm hA hP hD hS hl (fun x734 f735 x736 f737 H locs ls hP hD hS hl => ?_)
  refine sg_743 z1 z2 z3 f737 C0 hE hnm hA hP hD hS hl (fun x739 f740 x741 f742 H locs ls hP hD hS hl => ?_)
  refine lv_iadd hx hb dX9_addFour_36 ?_
  refine r_ci (v := 8) (by decide +kernel) ?_
  refine r_put (v := .int 8) (ty := .int) (fs1 := [.ref z3, .int 8]) (ws1 := [(z1, .inr (9, [.ref z3, .int 8])), (z3, .inl (T 2, 700, .inl f742))]) C0 hE ffX9_1 tyX9 tyX9_ok nmX9 mw_27 pf_29 hP hD hS 0 rfl rfl rfl (Nat.le_of_ble_eq_true rfl) rfl rfl dX9_addFour_37 (fun H locs hP hD hS => ?_)
  refine lv_iinc (v := (-8)) (lv' := [(2, .int (-8)), (0, .ref z1), (1, .int z2)]) hx hb dX9_addFour_40 hl (k := 0) rfl (by decide +kernel) (by decide) rfl (fun ls hl => ?_)
  refine lv_goto (tgt := 3) hx hb dX9_addFour_43 (by decide) ?_
  refine lv_iload_n hx hb dX9_addFour_3 rfl (lv_at hl 0 rfl) ?_
  refine lv_if_lt (tgt := 46) hx hb dX9_addFour_4 (by decide) (fun _ => ?_) (fun hc => absurd (by decide +kernel) hc)
  exact r_vret (f742) C0 hr hlocks hS (Nat.le_of_ble_eq_true rfl) (Nat.le_of_ble_eq_true rfl) dX9_addFour_46 hP hD
set_option maxHeartbeats 4000000 in
set_option maxRecDepth 100000 in
theorem sg_760 {p : Program} {l : Launch} {e : Env} {s : State} {m : MethodId} {args : Array Value} {below : List Frame} {meth : Method} {c : Code} {H : Heap} {locs : List Loc} {Q : State → Prop} {D : va_G} {T : Nat → ClassId} {A : Nat → Prop} {ls : Array Slot} (z1 : Nat) (z2 : Int32) (z3 : Nat) (z4 : Nat → Int32) (C0 : CallFix p m c cX9_addFour 3 s args TB yX9_addFour.cls) (hE : EV D T s) (hnm : meth.name = yX9_addFour.name) (hA : ∀ q, s.heap.size ≤ q → A q) (hP : va_P D vwCl [(z1, .inr (9, [.ref z3, .int 8])), (z3, .inl (T 2, 700, .inl z4))] H) (hD : va_D A [(z1, .inr (9, [.ref z3, .int 8])), (z3, .inl (T 2, 700, .inl z4))]) (hS : va_S A s.heap H locs) (hl : lv_has ls 3 [(0, .ref z1), (1, .int z2)])
    (kk : ∀ (x756 : Int32) (f757 : Nat → Int32) (x758 : Int32) (f759 : Nat → Int32) (H : Heap) (locs : List Loc) (ls : Array Slot), va_P D vwCl [(z1, .inr (9, [.ref z3, .int 9])), (z3, .inl (T 2, 700, .inl f759))] H → va_D A [(z1, .inr (9, [.ref z3, .int 9])), (z3, .inl (T 2, 700, .inl f759))] → va_S A s.heap H locs → lv_has ls 3 [(2, .int 16), (0, .ref z1), (1, .int z2)] → W p l e { frames := 0, cells := 0, slots := 0, locals := 0 } s m args below meth c H locs 0 0 Q (F0 m 37 ls [.int 10, .ref z1])) : W p l e { frames := 0, cells := 0, slots := 0, locals := 0 } s m args below meth c H locs 0 0 Q (F0 m 0 ls []) := by
  have hx := C0.1
  have hb := C0.2.1
  have hml := C0.2.2.1
  have hown := C0.2.2.2.1
  have hT := C0.2.2.2.2
  have hK := hE.1
  refine lv_bipush (v := 24) hx hb dX9_addFour_0 (by decide) ?_
  refine lv_istore_n (lv' := [(2, .int 24), (0, .ref z1), (1, .int z2)]) hx hb dX9_addFour_2 rfl hl (by decide) rfl (fun ls hl => ?_)
  refine lv_iload_n hx hb dX9_addFour_3 rfl (lv_at hl 0 rfl) ?_
  refine lv_if_lt (tgt := 46) hx hb dX9_addFour_4 (by decide) (fun hc => absurd hc (by decide +kernel)) (fun _ => ?_)
  refine lv_aload_n hx hb dX9_addFour_7 rfl (lv_at hl 1 rfl) ?_
  refine r_get (v := .int 8) C0 hE ffX9_1 mw_27 hP 0 rfl rfl dX9_addFour_8 ?_
  refine lv_sipush (v := 700) hx hb dX9_addFour_11 (by decide) ?_
  refine lv_icmp_ge (tgt := 46) hx hb dX9_addFour_14 (by decide) (fun hc => absurd hc (by decide +kernel)) (fun _ => ?_)
  refine lv_aload_n hx hb dX9_addFour_17 rfl (lv_at hl 1 rfl) ?_
  refine r_get (v := .ref z3) C0 hE ffX9_0 mw_24 hP 0 rfl rfl dX9_addFour_18 ?_
  refine lv_aload_n hx hb dX9_addFour_21 rfl (lv_at hl 1 rfl) ?_
  refine r_get (v := .int 8) C0 hE ffX9_1 mw_27 hP 0 rfl rfl dX9_addFour_22 ?_
  refine lv_iload_n hx hb dX9_addFour_25 rfl (lv_at hl 2 rfl) ?_
  refine lv_iload_n hx hb dX9_addFour_26 rfl (lv_at hl 0 rfl) ?_
  refine lv_iushr hx hb dX9_addFour_27 rfl ?_
  refine lv_topi (fun x756 ex756 => ?_)
  refine lv_i2b hx hb dX9_addFour_28 rfl ?_
  refine r_bastO hx hb hK hP hD hS 1 rfl (vp_lit (by decide +kernel)) dX9_addFour_29 (fun f757 H locs hP hD hS => ?_)
  have hP : va_P D vwCl [(z1, .inr (9, [.ref z3, .int 8])), (z3, .inl (T 2, 700, .inl f757))] H := hP
  have hD : va_D A [(z1, .inr (9, [.ref z3, .int 8])), (z3, .inl (T 2, 700, .inl f757))] := hD
  refine lv_aload_n hx hb dX9_addFour_30 rfl (lv_at hl 1 rfl) ?_
  refine lv_dup hx hb dX9_addFour_31 rfl ?_
  refine r_get (v := .int 8) C0 hE ffX9_1 mw_27 hP 0 rfl rfl dX9_addFour_32 ?_
  refine lv_iconst (v := 1) hx hb dX9_addFour_35 (by decide) ?_
  refine lv_iadd hx hb dX9_addFour_36 ?_
  refine r_ci (v := 9) (by decide +kernel) ?_
  refine r_put (v := .int 9) (ty := .int) (fs1 := [.ref z3, .int 9]) (ws1 := [(z1, .inr (9, [.ref z3, .int 9])), (z3, .inl (T 2, 700, .inl f757))]) C0 hE ffX9_1 tyX9 tyX9_ok nmX9 mw_27 pf_29 hP hD hS 0 rfl rfl rfl (Nat.le_of_ble_eq_true rfl) rfl rfl dX9_addFour_37 (fun H locs hP hD hS => ?_)
  refine lv_iinc (v := 16) (lv' := [(2, .int 16), (0, .ref z1), (1, .int z2)]) hx hb dX9_addFour_40 hl (k := 0) rfl (by decide +kernel) (by decide) rfl (fun ls hl => ?_)
  refine lv_goto (tgt := 3) hx hb dX9_addFour_43 (by decide) ?_
  refine lv_iload_n hx hb dX9_addFour_3 rfl (lv_at hl 0 rfl) ?_
  refine lv_if_lt (tgt := 46) hx hb dX9_addFour_4 (by decide) (fun hc => absurd hc (by decide +kernel)) (fun _ => ?_)
  refine lv_aload_n hx hb dX9_addFour_7 rfl (lv_at hl 1 rfl) ?_
  refine r_get (v := .int 9) C0 hE ffX9_1 mw_27 hP 0 rfl rfl dX9_addFour_8 ?_
  refine lv_sipush (v := 700) hx hb dX9_addFour_11 (by decide) ?_
  refine lv_icmp_ge (tgt := 46) hx hb dX9_addFour_14 (by decide) (fun hc => absurd hc (by decide +kernel)) (fun _ => ?_)
  refine lv_aload_n hx hb dX9_addFour_17 rfl (lv_at hl 1 rfl) ?_
  refine r_get (v := .ref z3) C0 hE ffX9_0 mw_24 hP 0 rfl rfl dX9_addFour_18 ?_
  refine lv_aload_n hx hb dX9_addFour_21 rfl (lv_at hl 1 rfl) ?_
  refine r_get (v := .int 9) C0 hE ffX9_1 mw_27 hP 0 rfl rfl dX9_addFour_22 ?_
  refine lv_iload_n hx hb dX9_addFour_25 rfl (lv_at hl 2 rfl) ?_
  refine lv_iload_n hx hb dX9_addFour_26 rfl (lv_at hl 0 rfl) ?_
  refine lv_iushr hx hb dX9_addFour_27 rfl ?_
  refine lv_topi (fun x758 ex758 => ?_)
  refine lv_i2b hx hb dX9_addFour_28 rfl ?_
  refine r_bastO hx hb hK hP hD hS 1 rfl (vp_lit (by decide +kernel)) dX9_addFour_29 (fun f759 H locs hP hD hS => ?_)
  have hP : va_P D vwCl [(z1, .inr (9, [.ref z3, .int 9])), (z3, .inl (T 2, 700, .inl f759))] H := hP
  have hD : va_D A [(z1, .inr (9, [.ref z3, .int 9])), (z3, .inl (T 2, 700, .inl f759))] := hD
  refine lv_aload_n hx hb dX9_addFour_30 rfl (lv_at hl 1 rfl) ?_
  refine lv_dup hx hb dX9_addFour_31 rfl ?_
  refine r_get (v := .int 9) C0 hE ffX9_1 mw_27 hP 0 rfl rfl dX9_addFour_32 ?_
  refine lv_iconst (v := 1) hx hb dX9_addFour_35 (by decide) ?_
  refine lv_iadd hx hb dX9_addFour_36 ?_
  refine r_ci (v := 10) (by decide +kernel) ?_
  exact kk x756 f757 x758 f759 H locs ls hP hD hS hl
set_option maxHeartbeats 4000000 in
set_option maxRecDepth 100000 in
theorem sg_765 {p : Program} {l : Launch} {e : Env} {s : State} {m : MethodId} {args : Array Value} {below : List Frame} {meth : Method} {c : Code} {H : Heap} {locs : List Loc} {Q : State → Prop} {D : va_G} {T : Nat → ClassId} {A : Nat → Prop} {ls : Array Slot} (z1 : Nat) (z2 : Int32) (z3 : Nat) (f759 : Nat → Int32) (C0 : CallFix p m c cX9_addFour 3 s args TB yX9_addFour.cls) (hE : EV D T s) (hnm : meth.name = yX9_addFour.name) (hA : ∀ q, s.heap.size ≤ q → A q) (hP : va_P D vwCl [(z1, .inr (9, [.ref z3, .int 9])), (z3, .inl (T 2, 700, .inl f759))] H) (hD : va_D A [(z1, .inr (9, [.ref z3, .int 9])), (z3, .inl (T 2, 700, .inl f759))]) (hS : va_S A s.heap H locs) (hl : lv_has ls 3 [(2, .int 16), (0, .ref z1), (1, .int z2)])
    (kk : ∀ (x761 : Int32) (f762 : Nat → Int32) (x763 : Int32) (f764 : Nat → Int32) (H : Heap) (locs : List Loc) (ls : Array Slot), va_P D vwCl [(z1, .inr (9, [.ref z3, .int 11])), (z3, .inl (T 2, 700, .inl f764))] H → va_D A [(z1, .inr (9, [.ref z3, .int 11])), (z3, .inl (T 2, 700, .inl f764))] → va_S A s.heap H locs → lv_has ls 3 [(2, .int 0), (0, .ref z1), (1, .int z2)] → W p l e { frames := 0, cells := 0, slots := 0, locals := 0 } s m args below meth c H locs 0 0 Q (F0 m 36 ls [.int 1, .int 11, .ref z1])) : W p l e { frames := 0, cells := 0, slots := 0, locals := 0 } s m args below meth c H locs 0 0 Q (F0 m 37 ls [.int 10, .ref z1]) := by
  have hx := C0.1
  have hb := C0.2.1
  have hml := C0.2.2.1
  have hown := C0.2.2.2.1
  have hT := C0.2.2.2.2
  have hK := hE.1
  refine r_put (v := .int 10) (ty := .int) (fs1 := [.ref z3, .int 10]) (ws1 := [(z1, .inr (9, [.ref z3, .int 10])), (z3, .inl (T 2, 700, .inl f759))]) C0 hE ffX9_1 tyX9 tyX9_ok nmX9 mw_27 pf_29 hP hD hS 0 rfl rfl rfl (Nat.le_of_ble_eq_true rfl) rfl rfl dX9_addFour_37 (fun H locs hP hD hS => ?_)
  refine lv_iinc (v := 8) (lv' := [(2, .int 8), (0, .ref z1), (1, .int z2)]) hx hb dX9_addFour_40 hl (k := 0) rfl (by decide +kernel) (by decide) rfl (fun ls hl => ?_)
  refine lv_goto (tgt := 3) hx hb dX9_addFour_43 (by decide) ?_
  refine lv_iload_n hx hb dX9_addFour_3 rfl (lv_at hl 0 rfl) ?_
  refine lv_if_lt (tgt := 46) hx hb dX9_addFour_4 (by decide) (fun hc => absurd hc (by decide +kernel)) (fun _ => ?_)
  refine lv_aload_n hx hb dX9_addFour_7 rfl (lv_at hl 1 rfl) ?_
  refine r_get (v := .int 10) C0 hE ffX9_1 mw_27 hP 0 rfl rfl dX9_addFour_8 ?_
  refine lv_sipush (v := 700) hx hb dX9_addFour_11 (by decide) ?_
  refine lv_icmp_ge (tgt := 46) hx hb dX9_addFour_14 (by decide) (fun hc => absurd hc (by decide +kernel)) (fun _ => ?_)
  refine lv_aload_n hx hb dX9_addFour_17 rfl (lv_at hl 1 rfl) ?_
  refine r_get (v := .ref z3) C0 hE ffX9_0 mw_24 hP 0 rfl rfl dX9_addFour_18 ?_
  refine lv_aload_n hx hb dX9_addFour_21 rfl (lv_at hl 1 rfl) ?_
  refine r_get (v := .int 10) C0 hE ffX9_1 mw_27 hP 0 rfl rfl dX9_addFour_22 ?_
  refine lv_iload_n hx hb dX9_addFour_25 rfl (lv_at hl 2 rfl) ?_
  refine lv_iload_n hx hb dX9_addFour_26 rfl (lv_at hl 0 rfl) ?_
  refine lv_iushr hx hb dX9_addFour_27 rfl ?_
  refine lv_topi (fun x761 ex761 => ?_)
  refine lv_i2b hx hb dX9_addFour_28 rfl ?_
  refine r_bastO hx hb hK hP hD hS 1 rfl (vp_lit (by decide +kernel)) dX9_addFour_29 (fun f762 H locs hP hD hS => ?_)
  have hP : va_P D vwCl [(z1, .inr (9, [.ref z3, .int 10])), (z3, .inl (T 2, 700, .inl f762))] H := hP
  have hD : va_D A [(z1, .inr (9, [.ref z3, .int 10])), (z3, .inl (T 2, 700, .inl f762))] := hD
  refine lv_aload_n hx hb dX9_addFour_30 rfl (lv_at hl 1 rfl) ?_
  refine lv_dup hx hb dX9_addFour_31 rfl ?_
  refine r_get (v := .int 10) C0 hE ffX9_1 mw_27 hP 0 rfl rfl dX9_addFour_32 ?_
  refine lv_iconst (v := 1) hx hb dX9_addFour_35 (by decide) ?_
  refine lv_iadd hx hb dX9_addFour_36 ?_
  refine r_ci (v := 11) (by decide +kernel) ?_
  refine r_put (v := .int 11) (ty := .int) (fs1 := [.ref z3, .int 11]) (ws1 := [(z1, .inr (9, [.ref z3, .int 11])), (z3, .inl (T 2, 700, .inl f762))]) C0 hE ffX9_1 tyX9 tyX9_ok nmX9 mw_27 pf_29 hP hD hS 0 rfl rfl rfl (Nat.le_of_ble_eq_true rfl) rfl rfl dX9_addFour_37 (fun H locs hP hD hS => ?_)
  refine lv_iinc (v := 0) (lv' := [(2, .int 0), (0, .ref z1), (1, .int z2)]) hx hb dX9_addFour_40 hl (k := 0) rfl (by decide +kernel) (by decide) rfl (fun ls hl => ?_)
  refine lv_goto (tgt := 3) hx hb dX9_addFour_43 (by decide) ?_
  refine lv_iload_n hx hb dX9_addFour_3 rfl (lv_at hl 0 rfl) ?_
  refine lv_if_lt (tgt := 46) hx hb dX9_addFour_4 (by decide) (fun hc => absurd hc (by decide +kernel)) (fun _ => ?_)
  refine lv_aload_n hx hb dX9_addFour_7 rfl (lv_at hl 1 rfl) ?_
  refine r_get (v := .int 11) C0 hE ffX9_1 mw_27 hP 0 rfl rfl dX9_addFour_8 ?_
  refine lv_sipush (v := 700) hx hb dX9_addFour_11 (by decide) ?_
  refine lv_icmp_ge (tgt := 46) hx hb dX9_addFour_14 (by decide) (fun hc => absurd hc (by decide +kernel)) (fun _ => ?_)
  refine lv_aload_n hx hb dX9_addFour_17 rfl (lv_at hl 1 rfl) ?_
  refine r_get (v := .ref z3) C0 hE ffX9_0 mw_24 hP 0 rfl rfl dX9_addFour_18 ?_
  refine lv_aload_n hx hb dX9_addFour_21 rfl (lv_at hl 1 rfl) ?_
  refine r_get (v := .int 11) C0 hE ffX9_1 mw_27 hP 0 rfl rfl dX9_addFour_22 ?_
  refine lv_iload_n hx hb dX9_addFour_25 rfl (lv_at hl 2 rfl) ?_
  refine lv_iload_n hx hb dX9_addFour_26 rfl (lv_at hl 0 rfl) ?_
  refine lv_iushr hx hb dX9_addFour_27 rfl ?_
  refine lv_topi (fun x763 ex763 => ?_)
  refine lv_i2b hx hb dX9_addFour_28 rfl ?_
  refine r_bastO hx hb hK hP hD hS 1 rfl (vp_lit (by decide +kernel)) dX9_addFour_29 (fun f764 H locs hP hD hS => ?_)
  have hP : va_P D vwCl [(z1, .inr (9, [.ref z3, .int 11])), (z3, .inl (T 2, 700, .inl f764))] H := hP
  have hD : va_D A [(z1, .inr (9, [.ref z3, .int 11])), (z3, .inl (T 2, 700, .inl f764))] := hD
  refine lv_aload_n hx hb dX9_addFour_30 rfl (lv_at hl 1 rfl) ?_
  refine lv_dup hx hb dX9_addFour_31 rfl ?_
  refine r_get (v := .int 11) C0 hE ffX9_1 mw_27 hP 0 rfl rfl dX9_addFour_32 ?_
  refine lv_iconst (v := 1) hx hb dX9_addFour_35 (by decide) ?_
  exact kk x761 f762 x763 f764 H locs ls hP hD hS hl
set_option maxHeartbeats 4000000 in
set_option maxRecDepth 100000 in
theorem c_X9_addFour_766 (l : Launch) (D : va_G) (T : Nat → ClassId) (sz : Nat) (z1 : Nat) (z2 : Int32) (z3 : Nat) (z4 : Nat → Int32) : Met l yX9_addFour (.code yX9_addFour cX9_addFour 3 none :: TB) { frames := 0, cells := 0, slots := 0, locals := 0 } (PC D T [.ref z1, .int z2] [(z1, .inr (9, [.ref z3, .int 8])), (z3, .inl (T 2, 700, .inl z4))] sz) (Qv (S := (Nat → Int32)) (fun (f764 : (Nat → Int32)) => [(z1, .inr (9, [.ref z3, .int 12])), (z3, .inl (T 2, 700, .inl f764))]) D (va_A [(z1, .inr (9, [.ref z3, .int 8])), (z3, .inl (T 2, 700, .inl z4))] sz)) 0 0 (va_A [(z1, .inr (9, [.ref z3, .int 8])), (z3, .inl (T 2, 700, .inl z4))] sz) := by
  refine ct_begin (Qc := Qv (S := (Nat → Int32)) (fun (f764 : (Nat → Int32)) => [(z1, .inr (9, [.ref z3, .int 12])), (z3, .inl (T 2, 700, .inl f764))]) D) (by decide +kernel) (Nat.le_of_ble_eq_true rfl) ?_
  intro p e s m below meth c A ls C0 hr hlocks hnm hE hA hP hD hS hl
  have hx := C0.1
  have hb := C0.2.1
  have hml := C0.2.2.1
  have hown := C0.2.2.2.1
  have hT := C0.2.2.2.2
  have hK := hE.1
  have hl : lv_has ls 3 [(0, .ref z1), (1, .int z2)] := hl
  refine sg_760 z1 z2 z3 z4 C0 hE hnm hA hP hD hS hl (fun x756 f757 x758 f759 H locs ls hP hD hS hl => ?_)
  refine sg_765 z1 z2 z3 f759 C0 hE hnm hA hP hD hS hl (fun x761 f762 x763 f764 H locs ls hP hD hS hl => ?_)
  refine lv_iadd hx hb dX9_addFour_36 ?_
  refine r_ci (v := 12) (by decide +kernel) ?_
  refine r_put (v := .int 12) (ty := .int) (fs1 := [.ref z3, .int 12]) (ws1 := [(z1, .inr (9, [.ref z3, .int 12])), (z3, .inl (T 2, 700, .inl f764))]) C0 hE ffX9_1 tyX9 tyX9_ok nmX9 mw_27 pf_29 hP hD hS 0 rfl rfl rfl (Nat.le_of_ble_eq_true rfl) rfl rfl dX9_addFour_37 (fun H locs hP hD hS => ?_)
  refine lv_iinc (v := (-8)) (lv' := [(2, .int (-8)), (0, .ref z1), (1, .int z2)]) hx hb dX9_addFour_40 hl (k := 0) rfl (by decide +kernel) (by decide) rfl (fun ls hl => ?_)
  refine lv_goto (tgt := 3) hx hb dX9_addFour_43 (by decide) ?_
  refine lv_iload_n hx hb dX9_addFour_3 rfl (lv_at hl 0 rfl) ?_
  refine lv_if_lt (tgt := 46) hx hb dX9_addFour_4 (by decide) (fun _ => ?_) (fun hc => absurd (by decide +kernel) hc)
  exact r_vret (f764) C0 hr hlocks hS (Nat.le_of_ble_eq_true rfl) (Nat.le_of_ble_eq_true rfl) dX9_addFour_46 hP hD
set_option maxHeartbeats 4000000 in
set_option maxRecDepth 100000 in
theorem sg_782 {p : Program} {l : Launch} {e : Env} {s : State} {m : MethodId} {args : Array Value} {below : List Frame} {meth : Method} {c : Code} {H : Heap} {locs : List Loc} {Q : State → Prop} {D : va_G} {T : Nat → ClassId} {A : Nat → Prop} {ls : Array Slot} (z1 : Nat) (z2 : Int32) (z3 : Nat) (z4 : Nat → Int32) (C0 : CallFix p m c cX9_addFour 3 s args TB yX9_addFour.cls) (hE : EV D T s) (hnm : meth.name = yX9_addFour.name) (hA : ∀ q, s.heap.size ≤ q → A q) (hP : va_P D vwCl [(z1, .inr (9, [.ref z3, .int 12])), (z3, .inl (T 2, 700, .inl z4))] H) (hD : va_D A [(z1, .inr (9, [.ref z3, .int 12])), (z3, .inl (T 2, 700, .inl z4))]) (hS : va_S A s.heap H locs) (hl : lv_has ls 3 [(0, .ref z1), (1, .int z2)])
    (kk : ∀ (x778 : Int32) (f779 : Nat → Int32) (x780 : Int32) (f781 : Nat → Int32) (H : Heap) (locs : List Loc) (ls : Array Slot), va_P D vwCl [(z1, .inr (9, [.ref z3, .int 13])), (z3, .inl (T 2, 700, .inl f781))] H → va_D A [(z1, .inr (9, [.ref z3, .int 13])), (z3, .inl (T 2, 700, .inl f781))] → va_S A s.heap H locs → lv_has ls 3 [(2, .int 16), (0, .ref z1), (1, .int z2)] → W p l e { frames := 0, cells := 0, slots := 0, locals := 0 } s m args below meth c H locs 0 0 Q (F0 m 37 ls [.int 14, .ref z1])) : W p l e { frames := 0, cells := 0, slots := 0, locals := 0 } s m args below meth c H locs 0 0 Q (F0 m 0 ls []) := by
  have hx := C0.1
  have hb := C0.2.1
  have hml := C0.2.2.1
  have hown := C0.2.2.2.1
  have hT := C0.2.2.2.2
  have hK := hE.1
  refine lv_bipush (v := 24) hx hb dX9_addFour_0 (by decide) ?_
  refine lv_istore_n (lv' := [(2, .int 24), (0, .ref z1), (1, .int z2)]) hx hb dX9_addFour_2 rfl hl (by decide) rfl (fun ls hl => ?_)
  refine lv_iload_n hx hb dX9_addFour_3 rfl (lv_at hl 0 rfl) ?_
  refine lv_if_lt (tgt := 46) hx hb dX9_addFour_4 (by decide) (fun hc => absurd hc (by decide +kernel)) (fun _ => ?_)
  refine lv_aload_n hx hb dX9_addFour_7 rfl (lv_at hl 1 rfl) ?_
  refine r_get (v := .int 12) C0 hE ffX9_1 mw_27 hP 0 rfl rfl dX9_addFour_8 ?_
  refine lv_sipush (v := 700) hx hb dX9_addFour_11 (by decide) ?_
  refine lv_icmp_ge (tgt := 46) hx hb dX9_addFour_14 (by decide) (fun hc => absurd hc (by decide +kernel)) (fun _ => ?_)
  refine lv_aload_n hx hb dX9_addFour_17 rfl (lv_at hl 1 rfl) ?_
  refine r_get (v := .ref z3) C0 hE ffX9_0 mw_24 hP 0 rfl rfl dX9_addFour_18 ?_
  refine lv_aload_n hx hb dX9_addFour_21 rfl (lv_at hl 1 rfl) ?_
  refine r_get (v := .int 12) C0 hE ffX9_1 mw_27 hP 0 rfl rfl dX9_addFour_22 ?_
  refine lv_iload_n hx hb dX9_addFour_25 rfl (lv_at hl 2 rfl) ?_
  refine lv_iload_n hx hb dX9_addFour_26 rfl (lv_at hl 0 rfl) ?_
  refine lv_iushr hx hb dX9_addFour_27 rfl ?_
  refine lv_topi (fun x778 ex778 => ?_)
  refine lv_i2b hx hb dX9_addFour_28 rfl ?_
  refine r_bastO hx hb hK hP hD hS 1 rfl (vp_lit (by decide +kernel)) dX9_addFour_29 (fun f779 H locs hP hD hS => ?_)
  have hP : va_P D vwCl [(z1, .inr (9, [.ref z3, .int 12])), (z3, .inl (T 2, 700, .inl f779))] H := hP
  have hD : va_D A [(z1, .inr (9, [.ref z3, .int 12])), (z3, .inl (T 2, 700, .inl f779))] := hD
  refine lv_aload_n hx hb dX9_addFour_30 rfl (lv_at hl 1 rfl) ?_
  refine lv_dup hx hb dX9_addFour_31 rfl ?_
  refine r_get (v := .int 12) C0 hE ffX9_1 mw_27 hP 0 rfl rfl dX9_addFour_32 ?_
  refine lv_iconst (v := 1) hx hb dX9_addFour_35 (by decide) ?_
  refine lv_iadd hx hb dX9_addFour_36 ?_
  refine r_ci (v := 13) (by decide +kernel) ?_
  refine r_put (v := .int 13) (ty := .int) (fs1 := [.ref z3, .int 13]) (ws1 := [(z1, .inr (9, [.ref z3, .int 13])), (z3, .inl (T 2, 700, .inl f779))]) C0 hE ffX9_1 tyX9 tyX9_ok nmX9 mw_27 pf_29 hP hD hS 0 rfl rfl rfl (Nat.le_of_ble_eq_true rfl) rfl rfl dX9_addFour_37 (fun H locs hP hD hS => ?_)
  refine lv_iinc (v := 16) (lv' := [(2, .int 16), (0, .ref z1), (1, .int z2)]) hx hb dX9_addFour_40 hl (k := 0) rfl (by decide +kernel) (by decide) rfl (fun ls hl => ?_)
  refine lv_goto (tgt := 3) hx hb dX9_addFour_43 (by decide) ?_
  refine lv_iload_n hx hb dX9_addFour_3 rfl (lv_at hl 0 rfl) ?_
  refine lv_if_lt (tgt := 46) hx hb dX9_addFour_4 (by decide) (fun hc => absurd hc (by decide +kernel)) (fun _ => ?_)
  refine lv_aload_n hx hb dX9_addFour_7 rfl (lv_at hl 1 rfl) ?_
  refine r_get (v := .int 13) C0 hE ffX9_1 mw_27 hP 0 rfl rfl dX9_addFour_8 ?_
  refine lv_sipush (v := 700) hx hb dX9_addFour_11 (by decide) ?_
  refine lv_icmp_ge (tgt := 46) hx hb dX9_addFour_14 (by decide) (fun hc => absurd hc (by decide +kernel)) (fun _ => ?_)
  refine lv_aload_n hx hb dX9_addFour_17 rfl (lv_at hl 1 rfl) ?_
  refine r_get (v := .ref z3) C0 hE ffX9_0 mw_24 hP 0 rfl rfl dX9_addFour_18 ?_
  refine lv_aload_n hx hb dX9_addFour_21 rfl (lv_at hl 1 rfl) ?_
  refine r_get (v := .int 13) C0 hE ffX9_1 mw_27 hP 0 rfl rfl dX9_addFour_22 ?_
  refine lv_iload_n hx hb dX9_addFour_25 rfl (lv_at hl 2 rfl) ?_
  refine lv_iload_n hx hb dX9_addFour_26 rfl (lv_at hl 0 rfl) ?_
  refine lv_iushr hx hb dX9_addFour_27 rfl ?_
  refine lv_topi (fun x780 ex780 => ?_)
  refine lv_i2b hx hb dX9_addFour_28 rfl ?_
  refine r_bastO hx hb hK hP hD hS 1 rfl (vp_lit (by decide +kernel)) dX9_addFour_29 (fun f781 H locs hP hD hS => ?_)
  have hP : va_P D vwCl [(z1, .inr (9, [.ref z3, .int 13])), (z3, .inl (T 2, 700, .inl f781))] H := hP
  have hD : va_D A [(z1, .inr (9, [.ref z3, .int 13])), (z3, .inl (T 2, 700, .inl f781))] := hD
  refine lv_aload_n hx hb dX9_addFour_30 rfl (lv_at hl 1 rfl) ?_
  refine lv_dup hx hb dX9_addFour_31 rfl ?_
  refine r_get (v := .int 13) C0 hE ffX9_1 mw_27 hP 0 rfl rfl dX9_addFour_32 ?_
  refine lv_iconst (v := 1) hx hb dX9_addFour_35 (by decide) ?_
  refine lv_iadd hx hb dX9_addFour_36 ?_
  refine r_ci (v := 14) (by decide +kernel) ?_
  exact kk x778 f779 x780 f781 H locs ls hP hD hS hl
set_option maxHeartbeats 4000000 in
set_option maxRecDepth 100000 in
theorem sg_787 {p : Program} {l : Launch} {e : Env} {s : State} {m : MethodId} {args : Array Value} {below : List Frame} {meth : Method} {c : Code} {H : Heap} {locs : List Loc} {Q : State → Prop} {D : va_G} {T : Nat → ClassId} {A : Nat → Prop} {ls : Array Slot} (z1 : Nat) (z2 : Int32) (z3 : Nat) (f781 : Nat → Int32) (C0 : CallFix p m c cX9_addFour 3 s args TB yX9_addFour.cls) (hE : EV D T s) (hnm : meth.name = yX9_addFour.name) (hA : ∀ q, s.heap.size ≤ q → A q) (hP : va_P D vwCl [(z1, .inr (9, [.ref z3, .int 13])), (z3, .inl (T 2, 700, .inl f781))] H) (hD : va_D A [(z1, .inr (9, [.ref z3, .int 13])), (z3, .inl (T 2, 700, .inl f781))]) (hS : va_S A s.heap H locs) (hl : lv_has ls 3 [(2, .int 16), (0, .ref z1), (1, .int z2)])
    (kk : ∀ (x783 : Int32) (f784 : Nat → Int32) (x785 : Int32) (f786 : Nat → Int32) (H : Heap) (locs : List Loc) (ls : Array Slot), va_P D vwCl [(z1, .inr (9, [.ref z3, .int 15])), (z3, .inl (T 2, 700, .inl f786))] H → va_D A [(z1, .inr (9, [.ref z3, .int 15])), (z3, .inl (T 2, 700, .inl f786))] → va_S A s.heap H locs → lv_has ls 3 [(2, .int 0), (0, .ref z1), (1, .int z2)] → W p l e { frames := 0, cells := 0, slots := 0, locals := 0 } s m args below meth c H locs 0 0 Q (F0 m 36 ls [.int 1, .int 15, .ref z1])) : W p l e { frames := 0, cells := 0, slots := 0, locals := 0 } s m args below meth c H locs 0 0 Q (F0 m 37 ls [.int 14, .ref z1]) := by
  have hx := C0.1
  have hb := C0.2.1
  have hml := C0.2.2.1
  have hown := C0.2.2.2.1
  have hT := C0.2.2.2.2
  have hK := hE.1
  refine r_put (v := .int 14) (ty := .int) (fs1 := [.ref z3, .int 14]) (ws1 := [(z1, .inr (9, [.ref z3, .int 14])), (z3, .inl (T 2, 700, .inl f781))]) C0 hE ffX9_1 tyX9 tyX9_ok nmX9 mw_27 pf_29 hP hD hS 0 rfl rfl rfl (Nat.le_of_ble_eq_true rfl) rfl rfl dX9_addFour_37 (fun H locs hP hD hS => ?_)
  refine lv_iinc (v := 8) (lv' := [(2, .int 8), (0, .ref z1), (1, .int z2)]) hx hb dX9_addFour_40 hl (k := 0) rfl (by decide +kernel) (by decide) rfl (fun ls hl => ?_)
  refine lv_goto (tgt := 3) hx hb dX9_addFour_43 (by decide) ?_
  refine lv_iload_n hx hb dX9_addFour_3 rfl (lv_at hl 0 rfl) ?_
  refine lv_if_lt (tgt := 46) hx hb dX9_addFour_4 (by decide) (fun hc => absurd hc (by decide +kernel)) (fun _ => ?_)
  refine lv_aload_n hx hb dX9_addFour_7 rfl (lv_at hl 1 rfl) ?_
  refine r_get (v := .int 14) C0 hE ffX9_1 mw_27 hP 0 rfl rfl dX9_addFour_8 ?_
  refine lv_sipush (v := 700) hx hb dX9_addFour_11 (by decide) ?_
  refine lv_icmp_ge (tgt := 46) hx hb dX9_addFour_14 (by decide) (fun hc => absurd hc (by decide +kernel)) (fun _ => ?_)
  refine lv_aload_n hx hb dX9_addFour_17 rfl (lv_at hl 1 rfl) ?_
  refine r_get (v := .ref z3) C0 hE ffX9_0 mw_24 hP 0 rfl rfl dX9_addFour_18 ?_
  refine lv_aload_n hx hb dX9_addFour_21 rfl (lv_at hl 1 rfl) ?_
  refine r_get (v := .int 14) C0 hE ffX9_1 mw_27 hP 0 rfl rfl dX9_addFour_22 ?_
  refine lv_iload_n hx hb dX9_addFour_25 rfl (lv_at hl 2 rfl) ?_
  refine lv_iload_n hx hb dX9_addFour_26 rfl (lv_at hl 0 rfl) ?_
  refine lv_iushr hx hb dX9_addFour_27 rfl ?_
  refine lv_topi (fun x783 ex783 => ?_)
  refine lv_i2b hx hb dX9_addFour_28 rfl ?_
  refine r_bastO hx hb hK hP hD hS 1 rfl (vp_lit (by decide +kernel)) dX9_addFour_29 (fun f784 H locs hP hD hS => ?_)
  have hP : va_P D vwCl [(z1, .inr (9, [.ref z3, .int 14])), (z3, .inl (T 2, 700, .inl f784))] H := hP
  have hD : va_D A [(z1, .inr (9, [.ref z3, .int 14])), (z3, .inl (T 2, 700, .inl f784))] := hD
  refine lv_aload_n hx hb dX9_addFour_30 rfl (lv_at hl 1 rfl) ?_
  refine lv_dup hx hb dX9_addFour_31 rfl ?_
  refine r_get (v := .int 14) C0 hE ffX9_1 mw_27 hP 0 rfl rfl dX9_addFour_32 ?_
  refine lv_iconst (v := 1) hx hb dX9_addFour_35 (by decide) ?_
  refine lv_iadd hx hb dX9_addFour_36 ?_
  refine r_ci (v := 15) (by decide +kernel) ?_
  refine r_put (v := .int 15) (ty := .int) (fs1 := [.ref z3, .int 15]) (ws1 := [(z1, .inr (9, [.ref z3, .int 15])), (z3, .inl (T 2, 700, .inl f784))]) C0 hE ffX9_1 tyX9 tyX9_ok nmX9 mw_27 pf_29 hP hD hS 0 rfl rfl rfl (Nat.le_of_ble_eq_true rfl) rfl rfl dX9_addFour_37 (fun H locs hP hD hS => ?_)
  refine lv_iinc (v := 0) (lv' := [(2, .int 0), (0, .ref z1), (1, .int z2)]) hx hb dX9_addFour_40 hl (k := 0) rfl (by decide +kernel) (by decide) rfl (fun ls hl => ?_)
  refine lv_goto (tgt := 3) hx hb dX9_addFour_43 (by decide) ?_
  refine lv_iload_n hx hb dX9_addFour_3 rfl (lv_at hl 0 rfl) ?_
  refine lv_if_lt (tgt := 46) hx hb dX9_addFour_4 (by decide) (fun hc => absurd hc (by decide +kernel)) (fun _ => ?_)
  refine lv_aload_n hx hb dX9_addFour_7 rfl (lv_at hl 1 rfl) ?_
  refine r_get (v := .int 15) C0 hE ffX9_1 mw_27 hP 0 rfl rfl dX9_addFour_8 ?_
  refine lv_sipush (v := 700) hx hb dX9_addFour_11 (by decide) ?_
  refine lv_icmp_ge (tgt := 46) hx hb dX9_addFour_14 (by decide) (fun hc => absurd hc (by decide +kernel)) (fun _ => ?_)
  refine lv_aload_n hx hb dX9_addFour_17 rfl (lv_at hl 1 rfl) ?_
  refine r_get (v := .ref z3) C0 hE ffX9_0 mw_24 hP 0 rfl rfl dX9_addFour_18 ?_
  refine lv_aload_n hx hb dX9_addFour_21 rfl (lv_at hl 1 rfl) ?_
  refine r_get (v := .int 15) C0 hE ffX9_1 mw_27 hP 0 rfl rfl dX9_addFour_22 ?_
  refine lv_iload_n hx hb dX9_addFour_25 rfl (lv_at hl 2 rfl) ?_
  refine lv_iload_n hx hb dX9_addFour_26 rfl (lv_at hl 0 rfl) ?_
  refine lv_iushr hx hb dX9_addFour_27 rfl ?_
  refine lv_topi (fun x785 ex785 => ?_)
  refine lv_i2b hx hb dX9_addFour_28 rfl ?_
  refine r_bastO hx hb hK hP hD hS 1 rfl (vp_lit (by decide +kernel)) dX9_addFour_29 (fun f786 H locs hP hD hS => ?_)
  have hP : va_P D vwCl [(z1, .inr (9, [.ref z3, .int 15])), (z3, .inl (T 2, 700, .inl f786))] H := hP
  have hD : va_D A [(z1, .inr (9, [.ref z3, .int 15])), (z3, .inl (T 2, 700, .inl f786))] := hD
  refine lv_aload_n hx hb dX9_addFour_30 rfl (lv_at hl 1 rfl) ?_
  refine lv_dup hx hb dX9_addFour_31 rfl ?_
  refine r_get (v := .int 15) C0 hE ffX9_1 mw_27 hP 0 rfl rfl dX9_addFour_32 ?_
  refine lv_iconst (v := 1) hx hb dX9_addFour_35 (by decide) ?_
  exact kk x783 f784 x785 f786 H locs ls hP hD hS hl
set_option maxHeartbeats 4000000 in
set_option maxRecDepth 100000 in
theorem c_X9_addFour_788 (l : Launch) (D : va_G) (T : Nat → ClassId) (sz : Nat) (z1 : Nat) (z2 : Int32) (z3 : Nat) (z4 : Nat → Int32) : Met l yX9_addFour (.code yX9_addFour cX9_addFour 3 none :: TB) { frames := 0, cells := 0, slots := 0, locals := 0 } (PC D T [.ref z1, .int z2] [(z1, .inr (9, [.ref z3, .int 12])), (z3, .inl (T 2, 700, .inl z4))] sz) (Qv (S := (Nat → Int32)) (fun (f786 : (Nat → Int32)) => [(z1, .inr (9, [.ref z3, .int 16])), (z3, .inl (T 2, 700, .inl f786))]) D (va_A [(z1, .inr (9, [.ref z3, .int 12])), (z3, .inl (T 2, 700, .inl z4))] sz)) 0 0 (va_A [(z1, .inr (9, [.ref z3, .int 12])), (z3, .inl (T 2, 700, .inl z4))] sz) := by
  refine ct_begin (Qc := Qv (S := (Nat → Int32)) (fun (f786 : (Nat → Int32)) => [(z1, .inr (9, [.ref z3, .int 16])), (z3, .inl (T 2, 700, .inl f786))]) D) (by decide +kernel) (Nat.le_of_ble_eq_true rfl) ?_
  intro p e s m below meth c A ls C0 hr hlocks hnm hE hA hP hD hS hl
  have hx := C0.1
  have hb := C0.2.1
  have hml := C0.2.2.1
  have hown := C0.2.2.2.1
  have hT := C0.2.2.2.2
  have hK := hE.1
  have hl : lv_has ls 3 [(0, .ref z1), (1, .int z2)] := hl
  refine sg_782 z1 z2 z3 z4 C0 hE hnm hA hP hD hS hl (fun x778 f779 x780 f781 H locs ls hP hD hS hl => ?_)
  refine sg_787 z1 z2 z3 f781 C0 hE hnm hA hP hD hS hl (fun x783 f784 x785 f786 H locs ls hP hD hS hl => ?_)
  refine lv_iadd hx hb dX9_addFour_36 ?_
  refine r_ci (v := 16) (by decide +kernel) ?_
  refine r_put (v := .int 16) (ty := .int) (fs1 := [.ref z3, .int 16]) (ws1 := [(z1, .inr (9, [.ref z3, .int 16])), (z3, .inl (T 2, 700, .inl f786))]) C0 hE ffX9_1 tyX9 tyX9_ok nmX9 mw_27 pf_29 hP hD hS 0 rfl rfl rfl (Nat.le_of_ble_eq_true rfl) rfl rfl dX9_addFour_37 (fun H locs hP hD hS => ?_)
  refine lv_iinc (v := (-8)) (lv' := [(2, .int (-8)), (0, .ref z1), (1, .int z2)]) hx hb dX9_addFour_40 hl (k := 0) rfl (by decide +kernel) (by decide) rfl (fun ls hl => ?_)
  refine lv_goto (tgt := 3) hx hb dX9_addFour_43 (by decide) ?_
  refine lv_iload_n hx hb dX9_addFour_3 rfl (lv_at hl 0 rfl) ?_
  refine lv_if_lt (tgt := 46) hx hb dX9_addFour_4 (by decide) (fun _ => ?_) (fun hc => absurd (by decide +kernel) hc)
  exact r_vret (f786) C0 hr hlocks hS (Nat.le_of_ble_eq_true rfl) (Nat.le_of_ble_eq_true rfl) dX9_addFour_46 hP hD
set_option maxHeartbeats 4000000 in
set_option maxRecDepth 100000 in
theorem sg_804 {p : Program} {l : Launch} {e : Env} {s : State} {m : MethodId} {args : Array Value} {below : List Frame} {meth : Method} {c : Code} {H : Heap} {locs : List Loc} {Q : State → Prop} {D : va_G} {T : Nat → ClassId} {A : Nat → Prop} {ls : Array Slot} (z1 : Nat) (z2 : Int32) (z3 : Nat) (z4 : Nat → Int32) (C0 : CallFix p m c cX9_addFour 3 s args TB yX9_addFour.cls) (hE : EV D T s) (hnm : meth.name = yX9_addFour.name) (hA : ∀ q, s.heap.size ≤ q → A q) (hP : va_P D vwCl [(z1, .inr (9, [.ref z3, .int 16])), (z3, .inl (T 2, 700, .inl z4))] H) (hD : va_D A [(z1, .inr (9, [.ref z3, .int 16])), (z3, .inl (T 2, 700, .inl z4))]) (hS : va_S A s.heap H locs) (hl : lv_has ls 3 [(0, .ref z1), (1, .int z2)])
    (kk : ∀ (x800 : Int32) (f801 : Nat → Int32) (x802 : Int32) (f803 : Nat → Int32) (H : Heap) (locs : List Loc) (ls : Array Slot), va_P D vwCl [(z1, .inr (9, [.ref z3, .int 17])), (z3, .inl (T 2, 700, .inl f803))] H → va_D A [(z1, .inr (9, [.ref z3, .int 17])), (z3, .inl (T 2, 700, .inl f803))] → va_S A s.heap H locs → lv_has ls 3 [(2, .int 16), (0, .ref z1), (1, .int z2)] → W p l e { frames := 0, cells := 0, slots := 0, locals := 0 } s m args below meth c H locs 0 0 Q (F0 m 37 ls [.int 18, .ref z1])) : W p l e { frames := 0, cells := 0, slots := 0, locals := 0 } s m args below meth c H locs 0 0 Q (F0 m 0 ls []) := by
  have hx := C0.1
  have hb := C0.2.1
  have hml := C0.2.2.1
  have hown := C0.2.2.2.1
  have hT := C0.2.2.2.2
  have hK := hE.1
  refine lv_bipush (v := 24) hx hb dX9_addFour_0 (by decide) ?_
  refine lv_istore_n (lv' := [(2, .int 24), (0, .ref z1), (1, .int z2)]) hx hb dX9_addFour_2 rfl hl (by decide) rfl (fun ls hl => ?_)
  refine lv_iload_n hx hb dX9_addFour_3 rfl (lv_at hl 0 rfl) ?_
  refine lv_if_lt (tgt := 46) hx hb dX9_addFour_4 (by decide) (fun hc => absurd hc (by decide +kernel)) (fun _ => ?_)
  refine lv_aload_n hx hb dX9_addFour_7 rfl (lv_at hl 1 rfl) ?_
  refine r_get (v := .int 16) C0 hE ffX9_1 mw_27 hP 0 rfl rfl dX9_addFour_8 ?_
  refine lv_sipush (v := 700) hx hb dX9_addFour_11 (by decide) ?_
  refine lv_icmp_ge (tgt := 46) hx hb dX9_addFour_14 (by decide) (fun hc => absurd hc (by decide +kernel)) (fun _ => ?_)
  refine lv_aload_n hx hb dX9_addFour_17 rfl (lv_at hl 1 rfl) ?_
  refine r_get (v := .ref z3) C0 hE ffX9_0 mw_24 hP 0 rfl rfl dX9_addFour_18 ?_
  refine lv_aload_n hx hb dX9_addFour_21 rfl (lv_at hl 1 rfl) ?_
  refine r_get (v := .int 16) C0 hE ffX9_1 mw_27 hP 0 rfl rfl dX9_addFour_22 ?_
  refine lv_iload_n hx hb dX9_addFour_25 rfl (lv_at hl 2 rfl) ?_
  refine lv_iload_n hx hb dX9_addFour_26 rfl (lv_at hl 0 rfl) ?_
  refine lv_iushr hx hb dX9_addFour_27 rfl ?_
  refine lv_topi (fun x800 ex800 => ?_)
  refine lv_i2b hx hb dX9_addFour_28 rfl ?_
  refine r_bastO hx hb hK hP hD hS 1 rfl (vp_lit (by decide +kernel)) dX9_addFour_29 (fun f801 H locs hP hD hS => ?_)
  have hP : va_P D vwCl [(z1, .inr (9, [.ref z3, .int 16])), (z3, .inl (T 2, 700, .inl f801))] H := hP
  have hD : va_D A [(z1, .inr (9, [.ref z3, .int 16])), (z3, .inl (T 2, 700, .inl f801))] := hD
  refine lv_aload_n hx hb dX9_addFour_30 rfl (lv_at hl 1 rfl) ?_
  refine lv_dup hx hb dX9_addFour_31 rfl ?_
  refine r_get (v := .int 16) C0 hE ffX9_1 mw_27 hP 0 rfl rfl dX9_addFour_32 ?_
  refine lv_iconst (v := 1) hx hb dX9_addFour_35 (by decide) ?_
  refine lv_iadd hx hb dX9_addFour_36 ?_
  refine r_ci (v := 17) (by decide +kernel) ?_
  refine r_put (v := .int 17) (ty := .int) (fs1 := [.ref z3, .int 17]) (ws1 := [(z1, .inr (9, [.ref z3, .int 17])), (z3, .inl (T 2, 700, .inl f801))]) C0 hE ffX9_1 tyX9 tyX9_ok nmX9 mw_27 pf_29 hP hD hS 0 rfl rfl rfl (Nat.le_of_ble_eq_true rfl) rfl rfl dX9_addFour_37 (fun H locs hP hD hS => ?_)
  refine lv_iinc (v := 16) (lv' := [(2, .int 16), (0, .ref z1), (1, .int z2)]) hx hb dX9_addFour_40 hl (k := 0) rfl (by decide +kernel) (by decide) rfl (fun ls hl => ?_)
  refine lv_goto (tgt := 3) hx hb dX9_addFour_43 (by decide) ?_
  refine lv_iload_n hx hb dX9_addFour_3 rfl (lv_at hl 0 rfl) ?_
  refine lv_if_lt (tgt := 46) hx hb dX9_addFour_4 (by decide) (fun hc => absurd hc (by decide +kernel)) (fun _ => ?_)
  refine lv_aload_n hx hb dX9_addFour_7 rfl (lv_at hl 1 rfl) ?_
  refine r_get (v := .int 17) C0 hE ffX9_1 mw_27 hP 0 rfl rfl dX9_addFour_8 ?_
  refine lv_sipush (v := 700) hx hb dX9_addFour_11 (by decide) ?_
  refine lv_icmp_ge (tgt := 46) hx hb dX9_addFour_14 (by decide) (fun hc => absurd hc (by decide +kernel)) (fun _ => ?_)
  refine lv_aload_n hx hb dX9_addFour_17 rfl (lv_at hl 1 rfl) ?_
  refine r_get (v := .ref z3) C0 hE ffX9_0 mw_24 hP 0 rfl rfl dX9_addFour_18 ?_
  refine lv_aload_n hx hb dX9_addFour_21 rfl (lv_at hl 1 rfl) ?_
  refine r_get (v := .int 17) C0 hE ffX9_1 mw_27 hP 0 rfl rfl dX9_addFour_22 ?_
  refine lv_iload_n hx hb dX9_addFour_25 rfl (lv_at hl 2 rfl) ?_
  refine lv_iload_n hx hb dX9_addFour_26 rfl (lv_at hl 0 rfl) ?_
  refine lv_iushr hx hb dX9_addFour_27 rfl ?_
  refine lv_topi (fun x802 ex802 => ?_)
  refine lv_i2b hx hb dX9_addFour_28 rfl ?_
  refine r_bastO hx hb hK hP hD hS 1 rfl (vp_lit (by decide +kernel)) dX9_addFour_29 (fun f803 H locs hP hD hS => ?_)
  have hP : va_P D vwCl [(z1, .inr (9, [.ref z3, .int 17])), (z3, .inl (T 2, 700, .inl f803))] H := hP
  have hD : va_D A [(z1, .inr (9, [.ref z3, .int 17])), (z3, .inl (T 2, 700, .inl f803))] := hD
  refine lv_aload_n hx hb dX9_addFour_30 rfl (lv_at hl 1 rfl) ?_
  refine lv_dup hx hb dX9_addFour_31 rfl ?_
  refine r_get (v := .int 17) C0 hE ffX9_1 mw_27 hP 0 rfl rfl dX9_addFour_32 ?_
  refine lv_iconst (v := 1) hx hb dX9_addFour_35 (by decide) ?_
  refine lv_iadd hx hb dX9_addFour_36 ?_
  refine r_ci (v := 18) (by decide +kernel) ?_
  exact kk x800 f801 x802 f803 H locs ls hP hD hS hl
