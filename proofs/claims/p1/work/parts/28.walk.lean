set_option maxHeartbeats 4000000 in
set_option maxRecDepth 100000 in
theorem sg_1078 {p : Program} {l : Launch} {e : Env} {s : State} {m : MethodId} {args : Array Value} {below : List Frame} {meth : Method} {c : Code} {H : Heap} {locs : List Loc} {Q : State → Prop} {D : va_G} {T : Nat → ClassId} {A : Nat → Prop} {ls : Array Slot} (z1 : Nat) (z2 : Int32) (z3 : Int32) (z4 : Int32) (z5 : Int32) (z6 : Nat) (z7 : Nat) (z8 : Nat) (z9 : Nat) (z10 : Nat) (z11 : Nat) (C0 : CallFix p m c cX0_add 6 s args TB yX0_add.cls) (hE : EV D T s) (hnm : meth.name = yX0_add.name) (hA : ∀ q, s.heap.size ≤ q → A q) (hP : va_P D vwCl [(z1, .inr (0, [.ref z6, .ref z7, .ref z8, .ref z9, .ref z10, .ref z11, .int 0])), (z6, .inl (T 0, 121, .inl (fun _ => 0))), (z7, .inl (T 0, 121, .inl (fun _ => 0))), (z8, .inl (T 0, 121, .inl (fun _ => 0))), (z9, .inl (T 0, 121, .inl (fun _ => 0))), (z10, .inl (T 0, 121, .inl (fun _ => 0))), (z11, .inl (T 0, 121, .inl (fun _ => 0)))] H) (hD : va_D A [(z1, .inr (0, [.ref z6, .ref z7, .ref z8, .ref z9, .ref z10, .ref z11, .int 0])), (z6, .inl (T 0, 121, .inl (fun _ => 0))), (z7, .inl (T 0, 121, .inl (fun _ => 0))), (z8, .inl (T 0, 121, .inl (fun _ => 0))), (z9, .inl (T 0, 121, .inl (fun _ => 0))), (z10, .inl (T 0, 121, .inl (fun _ => 0))), (z11, .inl (T 0, 121, .inl (fun _ => 0)))]) (hS : va_S A s.heap H locs) (hl : lv_has ls 6 [(0, .ref z1), (1, .int 2), (2, .int z2), (3, .int z3), (4, .int z4), (5, .int z5)])
    (kk : ∀ (f1073 : Nat → Int32) (f1074 : Nat → Int32) (f1075 : Nat → Int32) (f1076 : Nat → Int32) (f1077 : Nat → Int32) (H : Heap) (locs : List Loc) (ls : Array Slot), va_P D vwCl [(z1, .inr (0, [.ref z6, .ref z7, .ref z8, .ref z9, .ref z10, .ref z11, .int 1])), (z6, .inl (T 0, 121, .inl f1073)), (z7, .inl (T 0, 121, .inl f1074)), (z8, .inl (T 0, 121, .inl f1075)), (z9, .inl (T 0, 121, .inl f1076)), (z10, .inl (T 0, 121, .inl f1077)), (z11, .inl (T 0, 121, .inl (fun _ => 0)))] H → va_D A [(z1, .inr (0, [.ref z6, .ref z7, .ref z8, .ref z9, .ref z10, .ref z11, .int 1])), (z6, .inl (T 0, 121, .inl f1073)), (z7, .inl (T 0, 121, .inl f1074)), (z8, .inl (T 0, 121, .inl f1075)), (z9, .inl (T 0, 121, .inl f1076)), (z10, .inl (T 0, 121, .inl f1077)), (z11, .inl (T 0, 121, .inl (fun _ => 0)))] → va_S A s.heap H locs → lv_has ls 6 [(0, .ref z1), (1, .int 2), (2, .int z2), (3, .int z3), (4, .int z4), (5, .int z5)] → W p l e { frames := 0, cells := 0, slots := 0, locals := 0 } s m args below meth c H locs 0 0 Q (F0 m 82 ls [.int 0, .int 1, .ref z11])) : W p l e { frames := 0, cells := 0, slots := 0, locals := 0 } s m args below meth c H locs 0 0 Q (F0 m 0 ls []) := by
  have hx := C0.1
  have hb := C0.2.1
  have hml := C0.2.2.1
  have hown := C0.2.2.2.1
  have hT := C0.2.2.2.2
  have hK := hE.1
  refine lv_aload_n hx hb dX0_add_0 rfl (lv_at hl 0 rfl) ?_
  refine r_get (v := .int 0) C0 hE ffX0_6 mw_54 hP 0 rfl rfl dX0_add_1 ?_
  refine lv_bipush (v := 120) hx hb dX0_add_4 (by decide) ?_
  refine lv_icmp_lt (tgt := 11) hx hb dX0_add_6 (by decide) (fun _ => ?_) (fun hc => absurd (by decide +kernel) hc)
  refine lv_aload_n hx hb dX0_add_11 rfl (lv_at hl 0 rfl) ?_
  refine lv_dup hx hb dX0_add_12 rfl ?_
  refine r_get (v := .int 0) C0 hE ffX0_6 mw_54 hP 0 rfl rfl dX0_add_13 ?_
  refine lv_iconst (v := 1) hx hb dX0_add_16 (by decide) ?_
  refine lv_iadd hx hb dX0_add_17 ?_
  refine r_ci (v := 1) (by decide +kernel) ?_
  refine r_put (v := .int 1) (ty := .int) (fs1 := [.ref z6, .ref z7, .ref z8, .ref z9, .ref z10, .ref z11, .int 1]) (ws1 := [(z1, .inr (0, [.ref z6, .ref z7, .ref z8, .ref z9, .ref z10, .ref z11, .int 1])), (z6, .inl (T 0, 121, .inl (fun _ => 0))), (z7, .inl (T 0, 121, .inl (fun _ => 0))), (z8, .inl (T 0, 121, .inl (fun _ => 0))), (z9, .inl (T 0, 121, .inl (fun _ => 0))), (z10, .inl (T 0, 121, .inl (fun _ => 0))), (z11, .inl (T 0, 121, .inl (fun _ => 0)))]) C0 hE ffX0_6 tyX0 tyX0_ok nmX0 mw_54 pf_29 hP hD hS 0 rfl rfl rfl (Nat.le_of_ble_eq_true rfl) rfl rfl dX0_add_18 (fun H locs hP hD hS => ?_)
  refine lv_aload_n hx hb dX0_add_21 rfl (lv_at hl 0 rfl) ?_
  refine r_get (v := .ref z6) C0 hE ffX0_0 mw_41 hP 0 rfl rfl dX0_add_22 ?_
  refine lv_aload_n hx hb dX0_add_25 rfl (lv_at hl 0 rfl) ?_
  refine r_get (v := .int 1) C0 hE ffX0_6 mw_54 hP 0 rfl rfl dX0_add_26 ?_
  refine lv_iload_n hx hb dX0_add_29 rfl (lv_at hl 1 rfl) ?_
  refine r_iastO hx hb hK hP hD hS 1 rfl (vp_lit (by decide +kernel)) dX0_add_30 (fun f1073 H locs hP hD hS => ?_)
  have hP : va_P D vwCl [(z1, .inr (0, [.ref z6, .ref z7, .ref z8, .ref z9, .ref z10, .ref z11, .int 1])), (z6, .inl (T 0, 121, .inl f1073)), (z7, .inl (T 0, 121, .inl (fun _ => 0))), (z8, .inl (T 0, 121, .inl (fun _ => 0))), (z9, .inl (T 0, 121, .inl (fun _ => 0))), (z10, .inl (T 0, 121, .inl (fun _ => 0))), (z11, .inl (T 0, 121, .inl (fun _ => 0)))] H := hP
  have hD : va_D A [(z1, .inr (0, [.ref z6, .ref z7, .ref z8, .ref z9, .ref z10, .ref z11, .int 1])), (z6, .inl (T 0, 121, .inl f1073)), (z7, .inl (T 0, 121, .inl (fun _ => 0))), (z8, .inl (T 0, 121, .inl (fun _ => 0))), (z9, .inl (T 0, 121, .inl (fun _ => 0))), (z10, .inl (T 0, 121, .inl (fun _ => 0))), (z11, .inl (T 0, 121, .inl (fun _ => 0)))] := hD
  refine lv_aload_n hx hb dX0_add_31 rfl (lv_at hl 0 rfl) ?_
  refine r_get (v := .ref z7) C0 hE ffX0_1 mw_44 hP 0 rfl rfl dX0_add_32 ?_
  refine lv_aload_n hx hb dX0_add_35 rfl (lv_at hl 0 rfl) ?_
  refine r_get (v := .int 1) C0 hE ffX0_6 mw_54 hP 0 rfl rfl dX0_add_36 ?_
  refine lv_iload_n hx hb dX0_add_39 rfl (lv_at hl 2 rfl) ?_
  refine r_iastO hx hb hK hP hD hS 2 rfl (vp_lit (by decide +kernel)) dX0_add_40 (fun f1074 H locs hP hD hS => ?_)
  have hP : va_P D vwCl [(z1, .inr (0, [.ref z6, .ref z7, .ref z8, .ref z9, .ref z10, .ref z11, .int 1])), (z6, .inl (T 0, 121, .inl f1073)), (z7, .inl (T 0, 121, .inl f1074)), (z8, .inl (T 0, 121, .inl (fun _ => 0))), (z9, .inl (T 0, 121, .inl (fun _ => 0))), (z10, .inl (T 0, 121, .inl (fun _ => 0))), (z11, .inl (T 0, 121, .inl (fun _ => 0)))] H := hP
  have hD : va_D A [(z1, .inr (0, [.ref z6, .ref z7, .ref z8, .ref z9, .ref z10, .ref z11, .int 1])), (z6, .inl (T 0, 121, .inl f1073)), (z7, .inl (T 0, 121, .inl f1074)), (z8, .inl (T 0, 121, .inl (fun _ => 0))), (z9, .inl (T 0, 121, .inl (fun _ => 0))), (z10, .inl (T 0, 121, .inl (fun _ => 0))), (z11, .inl (T 0, 121, .inl (fun _ => 0)))] := hD
  refine lv_aload_n hx hb dX0_add_41 rfl (lv_at hl 0 rfl) ?_
  refine r_get (v := .ref z8) C0 hE ffX0_2 mw_46 hP 0 rfl rfl dX0_add_42 ?_
  refine lv_aload_n hx hb dX0_add_45 rfl (lv_at hl 0 rfl) ?_
  refine r_get (v := .int 1) C0 hE ffX0_6 mw_54 hP 0 rfl rfl dX0_add_46 ?_
  refine lv_iload_n hx hb dX0_add_49 rfl (lv_at hl 3 rfl) ?_
  refine r_iastO hx hb hK hP hD hS 3 rfl (vp_lit (by decide +kernel)) dX0_add_50 (fun f1075 H locs hP hD hS => ?_)
  have hP : va_P D vwCl [(z1, .inr (0, [.ref z6, .ref z7, .ref z8, .ref z9, .ref z10, .ref z11, .int 1])), (z6, .inl (T 0, 121, .inl f1073)), (z7, .inl (T 0, 121, .inl f1074)), (z8, .inl (T 0, 121, .inl f1075)), (z9, .inl (T 0, 121, .inl (fun _ => 0))), (z10, .inl (T 0, 121, .inl (fun _ => 0))), (z11, .inl (T 0, 121, .inl (fun _ => 0)))] H := hP
  have hD : va_D A [(z1, .inr (0, [.ref z6, .ref z7, .ref z8, .ref z9, .ref z10, .ref z11, .int 1])), (z6, .inl (T 0, 121, .inl f1073)), (z7, .inl (T 0, 121, .inl f1074)), (z8, .inl (T 0, 121, .inl f1075)), (z9, .inl (T 0, 121, .inl (fun _ => 0))), (z10, .inl (T 0, 121, .inl (fun _ => 0))), (z11, .inl (T 0, 121, .inl (fun _ => 0)))] := hD
  refine lv_aload_n hx hb dX0_add_51 rfl (lv_at hl 0 rfl) ?_
  refine r_get (v := .ref z9) C0 hE ffX0_3 mw_48 hP 0 rfl rfl dX0_add_52 ?_
  refine lv_aload_n hx hb dX0_add_55 rfl (lv_at hl 0 rfl) ?_
  refine r_get (v := .int 1) C0 hE ffX0_6 mw_54 hP 0 rfl rfl dX0_add_56 ?_
  refine lv_iload hx hb dX0_add_59 (lv_at hl 4 rfl) ?_
  refine r_iastO hx hb hK hP hD hS 4 rfl (vp_lit (by decide +kernel)) dX0_add_61 (fun f1076 H locs hP hD hS => ?_)
  have hP : va_P D vwCl [(z1, .inr (0, [.ref z6, .ref z7, .ref z8, .ref z9, .ref z10, .ref z11, .int 1])), (z6, .inl (T 0, 121, .inl f1073)), (z7, .inl (T 0, 121, .inl f1074)), (z8, .inl (T 0, 121, .inl f1075)), (z9, .inl (T 0, 121, .inl f1076)), (z10, .inl (T 0, 121, .inl (fun _ => 0))), (z11, .inl (T 0, 121, .inl (fun _ => 0)))] H := hP
  have hD : va_D A [(z1, .inr (0, [.ref z6, .ref z7, .ref z8, .ref z9, .ref z10, .ref z11, .int 1])), (z6, .inl (T 0, 121, .inl f1073)), (z7, .inl (T 0, 121, .inl f1074)), (z8, .inl (T 0, 121, .inl f1075)), (z9, .inl (T 0, 121, .inl f1076)), (z10, .inl (T 0, 121, .inl (fun _ => 0))), (z11, .inl (T 0, 121, .inl (fun _ => 0)))] := hD
  refine lv_aload_n hx hb dX0_add_62 rfl (lv_at hl 0 rfl) ?_
  refine r_get (v := .ref z10) C0 hE ffX0_4 mw_50 hP 0 rfl rfl dX0_add_63 ?_
  refine lv_aload_n hx hb dX0_add_66 rfl (lv_at hl 0 rfl) ?_
  refine r_get (v := .int 1) C0 hE ffX0_6 mw_54 hP 0 rfl rfl dX0_add_67 ?_
  refine lv_iload hx hb dX0_add_70 (lv_at hl 5 rfl) ?_
  refine r_iastO hx hb hK hP hD hS 5 rfl (vp_lit (by decide +kernel)) dX0_add_72 (fun f1077 H locs hP hD hS => ?_)
  have hP : va_P D vwCl [(z1, .inr (0, [.ref z6, .ref z7, .ref z8, .ref z9, .ref z10, .ref z11, .int 1])), (z6, .inl (T 0, 121, .inl f1073)), (z7, .inl (T 0, 121, .inl f1074)), (z8, .inl (T 0, 121, .inl f1075)), (z9, .inl (T 0, 121, .inl f1076)), (z10, .inl (T 0, 121, .inl f1077)), (z11, .inl (T 0, 121, .inl (fun _ => 0)))] H := hP
  have hD : va_D A [(z1, .inr (0, [.ref z6, .ref z7, .ref z8, .ref z9, .ref z10, .ref z11, .int 1])), (z6, .inl (T 0, 121, .inl f1073)), (z7, .inl (T 0, 121, .inl f1074)), (z8, .inl (T 0, 121, .inl f1075)), (z9, .inl (T 0, 121, .inl f1076)), (z10, .inl (T 0, 121, .inl f1077)), (z11, .inl (T 0, 121, .inl (fun _ => 0)))] := hD
  refine lv_aload_n hx hb dX0_add_73 rfl (lv_at hl 0 rfl) ?_
  refine r_get (v := .ref z11) C0 hE ffX0_5 mw_52 hP 0 rfl rfl dX0_add_74 ?_
  refine lv_aload_n hx hb dX0_add_77 rfl (lv_at hl 0 rfl) ?_
  refine r_get (v := .int 1) C0 hE ffX0_6 mw_54 hP 0 rfl rfl dX0_add_78 ?_
  refine lv_iconst (v := 0) hx hb dX0_add_81 (by decide) ?_
  exact kk f1073 f1074 f1075 f1076 f1077 H locs ls hP hD hS hl
set_option maxHeartbeats 4000000 in
set_option maxRecDepth 100000 in
theorem c_X0_add_1080 (l : Launch) (D : va_G) (T : Nat → ClassId) (sz : Nat) (z1 : Nat) (z2 : Int32) (z3 : Int32) (z4 : Int32) (z5 : Int32) (z6 : Nat) (z7 : Nat) (z8 : Nat) (z9 : Nat) (z10 : Nat) (z11 : Nat) : Met l yX0_add (.code yX0_add cX0_add 6 (some .int) :: TB) { frames := 0, cells := 0, slots := 0, locals := 0 } (PC D T [.ref z1, .int 2, .int z2, .int z3, .int z4, .int z5] [(z1, .inr (0, [.ref z6, .ref z7, .ref z8, .ref z9, .ref z10, .ref z11, .int 0])), (z6, .inl (T 0, 121, .inl (fun _ => 0))), (z7, .inl (T 0, 121, .inl (fun _ => 0))), (z8, .inl (T 0, 121, .inl (fun _ => 0))), (z9, .inl (T 0, 121, .inl (fun _ => 0))), (z10, .inl (T 0, 121, .inl (fun _ => 0))), (z11, .inl (T 0, 121, .inl (fun _ => 0)))] sz) (Qi (S := (Nat → Int32) × (Nat → Int32) × (Nat → Int32) × (Nat → Int32) × (Nat → Int32) × (Nat → Int32)) (fun (r : Int32) (u : (Nat → Int32) × (Nat → Int32) × (Nat → Int32) × (Nat → Int32) × (Nat → Int32) × (Nat → Int32)) => match u with | (f1073, f1074, f1075, f1076, f1077, f1079) => r = 1) (fun (u : (Nat → Int32) × (Nat → Int32) × (Nat → Int32) × (Nat → Int32) × (Nat → Int32) × (Nat → Int32)) => match u with | (f1073, f1074, f1075, f1076, f1077, f1079) => [(z1, .inr (0, [.ref z6, .ref z7, .ref z8, .ref z9, .ref z10, .ref z11, .int 1])), (z6, .inl (T 0, 121, .inl f1073)), (z7, .inl (T 0, 121, .inl f1074)), (z8, .inl (T 0, 121, .inl f1075)), (z9, .inl (T 0, 121, .inl f1076)), (z10, .inl (T 0, 121, .inl f1077)), (z11, .inl (T 0, 121, .inl f1079))]) D (va_A [(z1, .inr (0, [.ref z6, .ref z7, .ref z8, .ref z9, .ref z10, .ref z11, .int 0])), (z6, .inl (T 0, 121, .inl (fun _ => 0))), (z7, .inl (T 0, 121, .inl (fun _ => 0))), (z8, .inl (T 0, 121, .inl (fun _ => 0))), (z9, .inl (T 0, 121, .inl (fun _ => 0))), (z10, .inl (T 0, 121, .inl (fun _ => 0))), (z11, .inl (T 0, 121, .inl (fun _ => 0)))] sz)) 0 0 (va_A [(z1, .inr (0, [.ref z6, .ref z7, .ref z8, .ref z9, .ref z10, .ref z11, .int 0])), (z6, .inl (T 0, 121, .inl (fun _ => 0))), (z7, .inl (T 0, 121, .inl (fun _ => 0))), (z8, .inl (T 0, 121, .inl (fun _ => 0))), (z9, .inl (T 0, 121, .inl (fun _ => 0))), (z10, .inl (T 0, 121, .inl (fun _ => 0))), (z11, .inl (T 0, 121, .inl (fun _ => 0)))] sz) := by
  refine ct_begin (Qc := Qi (S := (Nat → Int32) × (Nat → Int32) × (Nat → Int32) × (Nat → Int32) × (Nat → Int32) × (Nat → Int32)) (fun (r : Int32) (u : (Nat → Int32) × (Nat → Int32) × (Nat → Int32) × (Nat → Int32) × (Nat → Int32) × (Nat → Int32)) => match u with | (f1073, f1074, f1075, f1076, f1077, f1079) => r = 1) (fun (u : (Nat → Int32) × (Nat → Int32) × (Nat → Int32) × (Nat → Int32) × (Nat → Int32) × (Nat → Int32)) => match u with | (f1073, f1074, f1075, f1076, f1077, f1079) => [(z1, .inr (0, [.ref z6, .ref z7, .ref z8, .ref z9, .ref z10, .ref z11, .int 1])), (z6, .inl (T 0, 121, .inl f1073)), (z7, .inl (T 0, 121, .inl f1074)), (z8, .inl (T 0, 121, .inl f1075)), (z9, .inl (T 0, 121, .inl f1076)), (z10, .inl (T 0, 121, .inl f1077)), (z11, .inl (T 0, 121, .inl f1079))]) D) (by decide +kernel) (Nat.le_of_ble_eq_true rfl) ?_
  intro p e s m below meth c A ls C0 hr hlocks hnm hE hA hP hD hS hl
  have hx := C0.1
  have hb := C0.2.1
  have hml := C0.2.2.1
  have hown := C0.2.2.2.1
  have hT := C0.2.2.2.2
  have hK := hE.1
  have hl : lv_has ls 6 [(0, .ref z1), (1, .int 2), (2, .int z2), (3, .int z3), (4, .int z4), (5, .int z5)] := hl
  refine sg_1078 z1 z2 z3 z4 z5 z6 z7 z8 z9 z10 z11 C0 hE hnm hA hP hD hS hl (fun f1073 f1074 f1075 f1076 f1077 H locs ls hP hD hS hl => ?_)
  refine r_iastO hx hb hK hP hD hS 6 rfl (vp_lit (by decide +kernel)) dX0_add_82 (fun f1079 H locs hP hD hS => ?_)
  have hP : va_P D vwCl [(z1, .inr (0, [.ref z6, .ref z7, .ref z8, .ref z9, .ref z10, .ref z11, .int 1])), (z6, .inl (T 0, 121, .inl f1073)), (z7, .inl (T 0, 121, .inl f1074)), (z8, .inl (T 0, 121, .inl f1075)), (z9, .inl (T 0, 121, .inl f1076)), (z10, .inl (T 0, 121, .inl f1077)), (z11, .inl (T 0, 121, .inl f1079))] H := hP
  have hD : va_D A [(z1, .inr (0, [.ref z6, .ref z7, .ref z8, .ref z9, .ref z10, .ref z11, .int 1])), (z6, .inl (T 0, 121, .inl f1073)), (z7, .inl (T 0, 121, .inl f1074)), (z8, .inl (T 0, 121, .inl f1075)), (z9, .inl (T 0, 121, .inl f1076)), (z10, .inl (T 0, 121, .inl f1077)), (z11, .inl (T 0, 121, .inl f1079))] := hD
  refine lv_aload_n hx hb dX0_add_83 rfl (lv_at hl 0 rfl) ?_
  refine r_get (v := .int 1) C0 hE ffX0_6 mw_54 hP 0 rfl rfl dX0_add_84 ?_
  exact r_iret (f1073, f1074, f1075, f1076, f1077, f1079) C0 hr hlocks hS (Nat.le_of_ble_eq_true rfl) (Nat.le_of_ble_eq_true rfl) dX0_add_87 rfl hP hD
set_option maxHeartbeats 4000000 in
set_option maxRecDepth 100000 in
theorem c_X10_rounds_1117 (l : Launch) (D : va_G) (T : Nat → ClassId) (sz : Nat) (z1 : Nat) (z2 : Int32) (z3 : Int32) (z4 : Int32) (z5 : Int32) (z6 : Nat) (z7 : Nat) (z8 : Nat) (z9 : Nat) (z10 : Nat) (z11 : Nat) (z12 : Nat) (z13 : Nat) (z14 : Nat) (z15 : Nat) (z16 : Nat) (z17 : Nat) (z18 : Nat) (z19 : Nat) (z20 : Nat) (z21 : Nat) (z22 : Nat) : Met l yX10_rounds (.code yX10_rounds cX10_rounds 5 (some .int) :: TB) { frames := 2, cells := 0, slots := 0, locals := 43 } (PC D T [.ref z1, .int z2, .int z3, .int z4, .int z5] [(z1, .inr (10, [.ref z6, .ref z7, .ref z8, .ref z9, .ref z10, .ref z11, .ref z12, .ref z13, .ref z14, .ref z15, .ref z16, .int 1, .int (-1), .int 0, .int (-1)])), (z8, .inr (0, [.ref z17, .ref z18, .ref z19, .ref z20, .ref z21, .ref z22, .int 0])), (z17, .inl (T 0, 121, .inl (fun _ => 0))), (z18, .inl (T 0, 121, .inl (fun _ => 0))), (z19, .inl (T 0, 121, .inl (fun _ => 0))), (z20, .inl (T 0, 121, .inl (fun _ => 0))), (z21, .inl (T 0, 121, .inl (fun _ => 0))), (z22, .inl (T 0, 121, .inl (fun _ => 0)))] sz) (Qi (S := Unit) (fun (r : Int32) (_ : Unit) => r = (if (wi z2 1 10 && (wi z3 0 99 && wi z4 0 99)) = true then (if z5 < 0 then (-1) else 1) else (-1))) (fun (_ : Unit) => []) D (va_A [(z1, .inr (10, [.ref z6, .ref z7, .ref z8, .ref z9, .ref z10, .ref z11, .ref z12, .ref z13, .ref z14, .ref z15, .ref z16, .int 1, .int (-1), .int 0, .int (-1)])), (z8, .inr (0, [.ref z17, .ref z18, .ref z19, .ref z20, .ref z21, .ref z22, .int 0])), (z17, .inl (T 0, 121, .inl (fun _ => 0))), (z18, .inl (T 0, 121, .inl (fun _ => 0))), (z19, .inl (T 0, 121, .inl (fun _ => 0))), (z20, .inl (T 0, 121, .inl (fun _ => 0))), (z21, .inl (T 0, 121, .inl (fun _ => 0))), (z22, .inl (T 0, 121, .inl (fun _ => 0)))] sz)) 0 0 (va_A [(z1, .inr (10, [.ref z6, .ref z7, .ref z8, .ref z9, .ref z10, .ref z11, .ref z12, .ref z13, .ref z14, .ref z15, .ref z16, .int 1, .int (-1), .int 0, .int (-1)])), (z8, .inr (0, [.ref z17, .ref z18, .ref z19, .ref z20, .ref z21, .ref z22, .int 0])), (z17, .inl (T 0, 121, .inl (fun _ => 0))), (z18, .inl (T 0, 121, .inl (fun _ => 0))), (z19, .inl (T 0, 121, .inl (fun _ => 0))), (z20, .inl (T 0, 121, .inl (fun _ => 0))), (z21, .inl (T 0, 121, .inl (fun _ => 0))), (z22, .inl (T 0, 121, .inl (fun _ => 0)))] sz) := by
  refine ct_begin (Qc := Qi (S := Unit) (fun (r : Int32) (_ : Unit) => r = (if (wi z2 1 10 && (wi z3 0 99 && wi z4 0 99)) = true then (if z5 < 0 then (-1) else 1) else (-1))) (fun (_ : Unit) => []) D) (by decide +kernel) (Nat.le_of_ble_eq_true rfl) ?_
  intro p e s m below meth c A ls C0 hr hlocks hnm hE hA hP hD hS hl
  have hx := C0.1
  have hb := C0.2.1
  have hml := C0.2.2.1
  have hown := C0.2.2.2.1
  have hT := C0.2.2.2.2
  have hK := hE.1
  have hl : lv_has ls 5 [(0, .ref z1), (1, .int z2), (2, .int z3), (3, .int z4), (4, .int z5)] := hl
  refine lv_iload_n hx hb dX10_rounds_0 rfl (lv_at hl 1 rfl) ?_
  refine lv_iconst (v := 1) hx hb dX10_rounds_1 (by decide) ?_
  refine lv_bipush (v := 10) hx hb dX10_rounds_2 (by decide) ?_
  refine r_calli (wr := [(z1, .inr (10, [.ref z6, .ref z7, .ref z8, .ref z9, .ref z10, .ref z11, .ref z12, .ref z13, .ref z14, .ref z15, .ref z16, .int 1, .int (-1), .int 0, .int (-1)])), (z8, .inr (0, [.ref z17, .ref z18, .ref z19, .ref z20, .ref z21, .ref z22, .int 0])), (z17, .inl (T 0, 121, .inl (fun _ => 0))), (z18, .inl (T 0, 121, .inl (fun _ => 0))), (z19, .inl (T 0, 121, .inl (fun _ => 0))), (z20, .inl (T 0, 121, .inl (fun _ => 0))), (z21, .inl (T 0, 121, .inl (fun _ => 0))), (z22, .inl (T 0, 121, .inl (fun _ => 0)))]) (r_runS (As := [.int z2, .int 1, .int 10]) (rest := []) (wc := []) C0 hE (c_X10_within_1040 l D T s.heap.size z2) mw_483 mw_484 mw_7 mw_485 dn_482 rfl rfl ⟨Nat.le_of_ble_eq_true rfl, Nat.le_of_ble_eq_true rfl⟩ (hP.sub (ws' := []) [] rfl) (hD.sub (ws' := []) [] (by decide +kernel) rfl) hl.1 rfl (Nat.le_of_ble_eq_true rfl) dX10_rounds_4 ⟨Nat.le_of_ble_eq_true rfl, Nat.le_of_ble_eq_true rfl⟩) hP hD hS hA [] [0, 1, 2, 3, 4, 5, 6, 7] rfl rfl (by decide +kernel) (by decide +kernel) (fun r1090 u H locs hq hP hD hS => ?_)
  have hq : r1090 = (bi (wi z2 1 10)) := hq
  subst hq
  have hP : va_P D vwCl [(z1, .inr (10, [.ref z6, .ref z7, .ref z8, .ref z9, .ref z10, .ref z11, .ref z12, .ref z13, .ref z14, .ref z15, .ref z16, .int 1, .int (-1), .int 0, .int (-1)])), (z8, .inr (0, [.ref z17, .ref z18, .ref z19, .ref z20, .ref z21, .ref z22, .int 0])), (z17, .inl (T 0, 121, .inl (fun _ => 0))), (z18, .inl (T 0, 121, .inl (fun _ => 0))), (z19, .inl (T 0, 121, .inl (fun _ => 0))), (z20, .inl (T 0, 121, .inl (fun _ => 0))), (z21, .inl (T 0, 121, .inl (fun _ => 0))), (z22, .inl (T 0, 121, .inl (fun _ => 0)))] H := hP
  have hD : va_D A [(z1, .inr (10, [.ref z6, .ref z7, .ref z8, .ref z9, .ref z10, .ref z11, .ref z12, .ref z13, .ref z14, .ref z15, .ref z16, .int 1, .int (-1), .int 0, .int (-1)])), (z8, .inr (0, [.ref z17, .ref z18, .ref z19, .ref z20, .ref z21, .ref z22, .int 0])), (z17, .inl (T 0, 121, .inl (fun _ => 0))), (z18, .inl (T 0, 121, .inl (fun _ => 0))), (z19, .inl (T 0, 121, .inl (fun _ => 0))), (z20, .inl (T 0, 121, .inl (fun _ => 0))), (z21, .inl (T 0, 121, .inl (fun _ => 0))), (z22, .inl (T 0, 121, .inl (fun _ => 0)))] := hD
  refine W.widen (k := 0) (n := 0) (Nat.le_of_ble_eq_true rfl) (Nat.le_of_ble_eq_true rfl) ?_
  refine lv_if_eq (tgt := 23) hx hb dX10_rounds_7 (by decide) (fun c_1091 => ?_) (fun c_1091 => ?_)
  · skip
    have c_1091 := bi_z c_1091
    refine lv_iconst (v := (-1)) hx hb dX10_rounds_23 (by decide) ?_
    exact r_iret () C0 hr hlocks hS (Nat.le_of_ble_eq_true rfl) (Nat.le_of_ble_eq_true rfl) dX10_rounds_24 (by first | rfl | decide +kernel | simp [bi, FO, TS, c_1091]) P_nil D_nil
  · skip
    have c_1091 := bi_nz c_1091
    refine lv_iload_n hx hb dX10_rounds_10 rfl (lv_at hl 2 rfl) ?_
    refine lv_iload_n hx hb dX10_rounds_11 rfl (lv_at hl 3 rfl) ?_
    refine r_calli (wr := [(z1, .inr (10, [.ref z6, .ref z7, .ref z8, .ref z9, .ref z10, .ref z11, .ref z12, .ref z13, .ref z14, .ref z15, .ref z16, .int 1, .int (-1), .int 0, .int (-1)])), (z8, .inr (0, [.ref z17, .ref z18, .ref z19, .ref z20, .ref z21, .ref z22, .int 0])), (z17, .inl (T 0, 121, .inl (fun _ => 0))), (z18, .inl (T 0, 121, .inl (fun _ => 0))), (z19, .inl (T 0, 121, .inl (fun _ => 0))), (z20, .inl (T 0, 121, .inl (fun _ => 0))), (z21, .inl (T 0, 121, .inl (fun _ => 0))), (z22, .inl (T 0, 121, .inl (fun _ => 0)))]) (r_runS (As := [.int z3, .int z4]) (rest := []) (wc := []) C0 hE (c_X10_canPress_1062 l D T H.size z3 z4) mw_538 mw_539 mw_7 mw_540 dn_537 rfl rfl ⟨Nat.le_of_ble_eq_true rfl, Nat.le_of_ble_eq_true rfl⟩ (hP.sub (ws' := []) [] rfl) (hD.sub (ws' := []) [] (by decide +kernel) rfl) hl.1 rfl (Nat.le_of_ble_eq_true rfl) dX10_rounds_12 ⟨Nat.le_of_ble_eq_true rfl, Nat.le_of_ble_eq_true rfl⟩) hP hD hS hA [] [0, 1, 2, 3, 4, 5, 6, 7] rfl rfl (by decide +kernel) (by decide +kernel) (fun r1100 u H locs hq hP hD hS => ?_)
    have hq : r1100 = (bi (wi z3 0 99 && wi z4 0 99)) := hq
    subst hq
    have hP : va_P D vwCl [(z1, .inr (10, [.ref z6, .ref z7, .ref z8, .ref z9, .ref z10, .ref z11, .ref z12, .ref z13, .ref z14, .ref z15, .ref z16, .int 1, .int (-1), .int 0, .int (-1)])), (z8, .inr (0, [.ref z17, .ref z18, .ref z19, .ref z20, .ref z21, .ref z22, .int 0])), (z17, .inl (T 0, 121, .inl (fun _ => 0))), (z18, .inl (T 0, 121, .inl (fun _ => 0))), (z19, .inl (T 0, 121, .inl (fun _ => 0))), (z20, .inl (T 0, 121, .inl (fun _ => 0))), (z21, .inl (T 0, 121, .inl (fun _ => 0))), (z22, .inl (T 0, 121, .inl (fun _ => 0)))] H := hP
    have hD : va_D A [(z1, .inr (10, [.ref z6, .ref z7, .ref z8, .ref z9, .ref z10, .ref z11, .ref z12, .ref z13, .ref z14, .ref z15, .ref z16, .int 1, .int (-1), .int 0, .int (-1)])), (z8, .inr (0, [.ref z17, .ref z18, .ref z19, .ref z20, .ref z21, .ref z22, .int 0])), (z17, .inl (T 0, 121, .inl (fun _ => 0))), (z18, .inl (T 0, 121, .inl (fun _ => 0))), (z19, .inl (T 0, 121, .inl (fun _ => 0))), (z20, .inl (T 0, 121, .inl (fun _ => 0))), (z21, .inl (T 0, 121, .inl (fun _ => 0))), (z22, .inl (T 0, 121, .inl (fun _ => 0)))] := hD
    refine W.widen (k := 0) (n := 0) (Nat.le_of_ble_eq_true rfl) (Nat.le_of_ble_eq_true rfl) ?_
    refine lv_if_eq (tgt := 23) hx hb dX10_rounds_15 (by decide) (fun c_1101 => ?_) (fun c_1101 => ?_)
    · skip
      have c_1101 := bi_z c_1101
      refine lv_iconst (v := (-1)) hx hb dX10_rounds_23 (by decide) ?_
      exact r_iret () C0 hr hlocks hS (Nat.le_of_ble_eq_true rfl) (Nat.le_of_ble_eq_true rfl) dX10_rounds_24 (by first | rfl | decide +kernel | simp [bi, FO, TS, c_1091, c_1101]) P_nil D_nil
    · skip
      have c_1101 := bi_nz c_1101
      refine lv_iload hx hb dX10_rounds_18 (lv_at hl 4 rfl) ?_
      refine lv_if_ge (tgt := 25) hx hb dX10_rounds_20 (by decide) (fun c_1102 => ?_) (fun c_1102 => ?_)
      · skip
        refine lv_aload_n hx hb dX10_rounds_25 rfl (lv_at hl 0 rfl) ?_
        refine r_get (v := .ref z8) C0 hE ffX10_2 mw_59 hP 0 rfl rfl dX10_rounds_26 ?_
        refine lv_iconst (v := 2) hx hb dX10_rounds_29 (by decide) ?_
        refine lv_iload_n hx hb dX10_rounds_30 rfl (lv_at hl 1 rfl) ?_
        refine lv_iload_n hx hb dX10_rounds_31 rfl (lv_at hl 2 rfl) ?_
        refine lv_iload_n hx hb dX10_rounds_32 rfl (lv_at hl 3 rfl) ?_
        refine lv_iload hx hb dX10_rounds_33 (lv_at hl 4 rfl) ?_
        refine r_calli (wr := [(z1, .inr (10, [.ref z6, .ref z7, .ref z8, .ref z9, .ref z10, .ref z11, .ref z12, .ref z13, .ref z14, .ref z15, .ref z16, .int 1, .int (-1), .int 0, .int (-1)]))]) (r_runV (As := [.int 2, .int z2, .int z3, .int z4, .int z5]) (rest := []) (wc := [(z8, .inr (0, [.ref z17, .ref z18, .ref z19, .ref z20, .ref z21, .ref z22, .int 0])), (z17, .inl (T 0, 121, .inl (fun _ => 0))), (z18, .inl (T 0, 121, .inl (fun _ => 0))), (z19, .inl (T 0, 121, .inl (fun _ => 0))), (z20, .inl (T 0, 121, .inl (fun _ => 0))), (z21, .inl (T 0, 121, .inl (fun _ => 0))), (z22, .inl (T 0, 121, .inl (fun _ => 0)))]) (ci := 0) C0 hE (c_X0_add_1080 l D T H.size z8 z2 z3 z4 z5 z17 z18 z19 z20 z21 z22) mw_533 mw_534 mw_535 mw_38 mw_536 dn_532 rfl rfl ⟨Nat.le_of_ble_eq_true rfl, Nat.le_of_ble_eq_true rfl⟩ (hP.sub (ws' := [(z8, .inr (0, [.ref z17, .ref z18, .ref z19, .ref z20, .ref z21, .ref z22, .int 0])), (z17, .inl (T 0, 121, .inl (fun _ => 0))), (z18, .inl (T 0, 121, .inl (fun _ => 0))), (z19, .inl (T 0, 121, .inl (fun _ => 0))), (z20, .inl (T 0, 121, .inl (fun _ => 0))), (z21, .inl (T 0, 121, .inl (fun _ => 0))), (z22, .inl (T 0, 121, .inl (fun _ => 0)))]) [1, 2, 3, 4, 5, 6, 7] rfl) (hD.sub (ws' := [(z8, .inr (0, [.ref z17, .ref z18, .ref z19, .ref z20, .ref z21, .ref z22, .int 0])), (z17, .inl (T 0, 121, .inl (fun _ => 0))), (z18, .inl (T 0, 121, .inl (fun _ => 0))), (z19, .inl (T 0, 121, .inl (fun _ => 0))), (z20, .inl (T 0, 121, .inl (fun _ => 0))), (z21, .inl (T 0, 121, .inl (fun _ => 0))), (z22, .inl (T 0, 121, .inl (fun _ => 0)))]) [1, 2, 3, 4, 5, 6, 7] (by decide +kernel) rfl) rfl rfl rfl hl.1 rfl (Nat.le_of_ble_eq_true rfl) dX10_rounds_35 ⟨Nat.le_of_ble_eq_true rfl, Nat.le_of_ble_eq_true rfl⟩) hP hD hS hA [1, 2, 3, 4, 5, 6, 7] [0] rfl rfl (by decide +kernel) (by decide +kernel) (fun r1116 u H locs hq hP hD hS => ?_)
        obtain ⟨f1110, f1111, f1112, f1113, f1114, f1115⟩ := u
        have hq : r1116 = 1 := hq
        subst hq
        have hP : va_P D vwCl [(z1, .inr (10, [.ref z6, .ref z7, .ref z8, .ref z9, .ref z10, .ref z11, .ref z12, .ref z13, .ref z14, .ref z15, .ref z16, .int 1, .int (-1), .int 0, .int (-1)])), (z8, .inr (0, [.ref z17, .ref z18, .ref z19, .ref z20, .ref z21, .ref z22, .int 1])), (z17, .inl (T 0, 121, .inl f1110)), (z18, .inl (T 0, 121, .inl f1111)), (z19, .inl (T 0, 121, .inl f1112)), (z20, .inl (T 0, 121, .inl f1113)), (z21, .inl (T 0, 121, .inl f1114)), (z22, .inl (T 0, 121, .inl f1115))] H := hP
        have hD : va_D A [(z1, .inr (10, [.ref z6, .ref z7, .ref z8, .ref z9, .ref z10, .ref z11, .ref z12, .ref z13, .ref z14, .ref z15, .ref z16, .int 1, .int (-1), .int 0, .int (-1)])), (z8, .inr (0, [.ref z17, .ref z18, .ref z19, .ref z20, .ref z21, .ref z22, .int 1])), (z17, .inl (T 0, 121, .inl f1110)), (z18, .inl (T 0, 121, .inl f1111)), (z19, .inl (T 0, 121, .inl f1112)), (z20, .inl (T 0, 121, .inl f1113)), (z21, .inl (T 0, 121, .inl f1114)), (z22, .inl (T 0, 121, .inl f1115))] := hD
        refine W.widen (k := 0) (n := 0) (Nat.le_of_ble_eq_true rfl) (Nat.le_of_ble_eq_true rfl) ?_
        exact r_iret () C0 hr hlocks hS (Nat.le_of_ble_eq_true rfl) (Nat.le_of_ble_eq_true rfl) dX10_rounds_38 (by first | rfl | decide +kernel | simp [bi, FO, TS, c_1091, c_1101, c_1102]) P_nil D_nil
      · skip
        refine lv_iconst (v := (-1)) hx hb dX10_rounds_23 (by decide) ?_
        exact r_iret () C0 hr hlocks hS (Nat.le_of_ble_eq_true rfl) (Nat.le_of_ble_eq_true rfl) dX10_rounds_24 (by first | rfl | decide +kernel | simp [bi, FO, TS, c_1091, c_1101, c_1102]) P_nil D_nil
set_option maxHeartbeats 4000000 in
set_option maxRecDepth 100000 in
theorem sg_1130 {p : Program} {l : Launch} {e : Env} {s : State} {m : MethodId} {args : Array Value} {below : List Frame} {meth : Method} {c : Code} {H : Heap} {locs : List Loc} {Q : State → Prop} {D : va_G} {T : Nat → ClassId} {A : Nat → Prop} {ls : Array Slot} (z1 : Nat) (z2 : Nat) (z3 : Nat) (z4 : Nat) (z5 : Nat) (z6 : Nat) (z7 : Nat) (C0 : CallFix p m c cX0_add 6 s args TB yX0_add.cls) (hE : EV D T s) (hnm : meth.name = yX0_add.name) (hA : ∀ q, s.heap.size ≤ q → A q) (hP : va_P D vwCl [(z1, .inr (0, [.ref z2, .ref z3, .ref z4, .ref z5, .ref z6, .ref z7, .int 0])), (z2, .inl (T 0, 121, .inl (fun _ => 0))), (z3, .inl (T 0, 121, .inl (fun _ => 0))), (z4, .inl (T 0, 121, .inl (fun _ => 0))), (z5, .inl (T 0, 121, .inl (fun _ => 0))), (z6, .inl (T 0, 121, .inl (fun _ => 0))), (z7, .inl (T 0, 121, .inl (fun _ => 0)))] H) (hD : va_D A [(z1, .inr (0, [.ref z2, .ref z3, .ref z4, .ref z5, .ref z6, .ref z7, .int 0])), (z2, .inl (T 0, 121, .inl (fun _ => 0))), (z3, .inl (T 0, 121, .inl (fun _ => 0))), (z4, .inl (T 0, 121, .inl (fun _ => 0))), (z5, .inl (T 0, 121, .inl (fun _ => 0))), (z6, .inl (T 0, 121, .inl (fun _ => 0))), (z7, .inl (T 0, 121, .inl (fun _ => 0)))]) (hS : va_S A s.heap H locs) (hl : lv_has ls 6 [(0, .ref z1), (1, .int 3), (2, .int 0), (3, .int 0), (4, .int 0), (5, .int 0)])
    (kk : ∀ (f1125 : Nat → Int32) (f1126 : Nat → Int32) (f1127 : Nat → Int32) (f1128 : Nat → Int32) (f1129 : Nat → Int32) (H : Heap) (locs : List Loc) (ls : Array Slot), va_P D vwCl [(z1, .inr (0, [.ref z2, .ref z3, .ref z4, .ref z5, .ref z6, .ref z7, .int 1])), (z2, .inl (T 0, 121, .inl f1125)), (z3, .inl (T 0, 121, .inl f1126)), (z4, .inl (T 0, 121, .inl f1127)), (z5, .inl (T 0, 121, .inl f1128)), (z6, .inl (T 0, 121, .inl f1129)), (z7, .inl (T 0, 121, .inl (fun _ => 0)))] H → va_D A [(z1, .inr (0, [.ref z2, .ref z3, .ref z4, .ref z5, .ref z6, .ref z7, .int 1])), (z2, .inl (T 0, 121, .inl f1125)), (z3, .inl (T 0, 121, .inl f1126)), (z4, .inl (T 0, 121, .inl f1127)), (z5, .inl (T 0, 121, .inl f1128)), (z6, .inl (T 0, 121, .inl f1129)), (z7, .inl (T 0, 121, .inl (fun _ => 0)))] → va_S A s.heap H locs → lv_has ls 6 [(0, .ref z1), (1, .int 3), (2, .int 0), (3, .int 0), (4, .int 0), (5, .int 0)] → W p l e { frames := 0, cells := 0, slots := 0, locals := 0 } s m args below meth c H locs 0 0 Q (F0 m 82 ls [.int 0, .int 1, .ref z7])) : W p l e { frames := 0, cells := 0, slots := 0, locals := 0 } s m args below meth c H locs 0 0 Q (F0 m 0 ls []) := by
  have hx := C0.1
  have hb := C0.2.1
  have hml := C0.2.2.1
  have hown := C0.2.2.2.1
  have hT := C0.2.2.2.2
  have hK := hE.1
  refine lv_aload_n hx hb dX0_add_0 rfl (lv_at hl 0 rfl) ?_
  refine r_get (v := .int 0) C0 hE ffX0_6 mw_54 hP 0 rfl rfl dX0_add_1 ?_
  refine lv_bipush (v := 120) hx hb dX0_add_4 (by decide) ?_
  refine lv_icmp_lt (tgt := 11) hx hb dX0_add_6 (by decide) (fun _ => ?_) (fun hc => absurd (by decide +kernel) hc)
  refine lv_aload_n hx hb dX0_add_11 rfl (lv_at hl 0 rfl) ?_
  refine lv_dup hx hb dX0_add_12 rfl ?_
  refine r_get (v := .int 0) C0 hE ffX0_6 mw_54 hP 0 rfl rfl dX0_add_13 ?_
  refine lv_iconst (v := 1) hx hb dX0_add_16 (by decide) ?_
  refine lv_iadd hx hb dX0_add_17 ?_
  refine r_ci (v := 1) (by decide +kernel) ?_
  refine r_put (v := .int 1) (ty := .int) (fs1 := [.ref z2, .ref z3, .ref z4, .ref z5, .ref z6, .ref z7, .int 1]) (ws1 := [(z1, .inr (0, [.ref z2, .ref z3, .ref z4, .ref z5, .ref z6, .ref z7, .int 1])), (z2, .inl (T 0, 121, .inl (fun _ => 0))), (z3, .inl (T 0, 121, .inl (fun _ => 0))), (z4, .inl (T 0, 121, .inl (fun _ => 0))), (z5, .inl (T 0, 121, .inl (fun _ => 0))), (z6, .inl (T 0, 121, .inl (fun _ => 0))), (z7, .inl (T 0, 121, .inl (fun _ => 0)))]) C0 hE ffX0_6 tyX0 tyX0_ok nmX0 mw_54 pf_29 hP hD hS 0 rfl rfl rfl (Nat.le_of_ble_eq_true rfl) rfl rfl dX0_add_18 (fun H locs hP hD hS => ?_)
  refine lv_aload_n hx hb dX0_add_21 rfl (lv_at hl 0 rfl) ?_
  refine r_get (v := .ref z2) C0 hE ffX0_0 mw_41 hP 0 rfl rfl dX0_add_22 ?_
  refine lv_aload_n hx hb dX0_add_25 rfl (lv_at hl 0 rfl) ?_
  refine r_get (v := .int 1) C0 hE ffX0_6 mw_54 hP 0 rfl rfl dX0_add_26 ?_
  refine lv_iload_n hx hb dX0_add_29 rfl (lv_at hl 1 rfl) ?_
  refine r_iastO hx hb hK hP hD hS 1 rfl (vp_lit (by decide +kernel)) dX0_add_30 (fun f1125 H locs hP hD hS => ?_)
  have hP : va_P D vwCl [(z1, .inr (0, [.ref z2, .ref z3, .ref z4, .ref z5, .ref z6, .ref z7, .int 1])), (z2, .inl (T 0, 121, .inl f1125)), (z3, .inl (T 0, 121, .inl (fun _ => 0))), (z4, .inl (T 0, 121, .inl (fun _ => 0))), (z5, .inl (T 0, 121, .inl (fun _ => 0))), (z6, .inl (T 0, 121, .inl (fun _ => 0))), (z7, .inl (T 0, 121, .inl (fun _ => 0)))] H := hP
  have hD : va_D A [(z1, .inr (0, [.ref z2, .ref z3, .ref z4, .ref z5, .ref z6, .ref z7, .int 1])), (z2, .inl (T 0, 121, .inl f1125)), (z3, .inl (T 0, 121, .inl (fun _ => 0))), (z4, .inl (T 0, 121, .inl (fun _ => 0))), (z5, .inl (T 0, 121, .inl (fun _ => 0))), (z6, .inl (T 0, 121, .inl (fun _ => 0))), (z7, .inl (T 0, 121, .inl (fun _ => 0)))] := hD
  refine lv_aload_n hx hb dX0_add_31 rfl (lv_at hl 0 rfl) ?_
  refine r_get (v := .ref z3) C0 hE ffX0_1 mw_44 hP 0 rfl rfl dX0_add_32 ?_
  refine lv_aload_n hx hb dX0_add_35 rfl (lv_at hl 0 rfl) ?_
  refine r_get (v := .int 1) C0 hE ffX0_6 mw_54 hP 0 rfl rfl dX0_add_36 ?_
  refine lv_iload_n hx hb dX0_add_39 rfl (lv_at hl 2 rfl) ?_
  refine r_iastO hx hb hK hP hD hS 2 rfl (vp_lit (by decide +kernel)) dX0_add_40 (fun f1126 H locs hP hD hS => ?_)
  have hP : va_P D vwCl [(z1, .inr (0, [.ref z2, .ref z3, .ref z4, .ref z5, .ref z6, .ref z7, .int 1])), (z2, .inl (T 0, 121, .inl f1125)), (z3, .inl (T 0, 121, .inl f1126)), (z4, .inl (T 0, 121, .inl (fun _ => 0))), (z5, .inl (T 0, 121, .inl (fun _ => 0))), (z6, .inl (T 0, 121, .inl (fun _ => 0))), (z7, .inl (T 0, 121, .inl (fun _ => 0)))] H := hP
  have hD : va_D A [(z1, .inr (0, [.ref z2, .ref z3, .ref z4, .ref z5, .ref z6, .ref z7, .int 1])), (z2, .inl (T 0, 121, .inl f1125)), (z3, .inl (T 0, 121, .inl f1126)), (z4, .inl (T 0, 121, .inl (fun _ => 0))), (z5, .inl (T 0, 121, .inl (fun _ => 0))), (z6, .inl (T 0, 121, .inl (fun _ => 0))), (z7, .inl (T 0, 121, .inl (fun _ => 0)))] := hD
  refine lv_aload_n hx hb dX0_add_41 rfl (lv_at hl 0 rfl) ?_
  refine r_get (v := .ref z4) C0 hE ffX0_2 mw_46 hP 0 rfl rfl dX0_add_42 ?_
  refine lv_aload_n hx hb dX0_add_45 rfl (lv_at hl 0 rfl) ?_
  refine r_get (v := .int 1) C0 hE ffX0_6 mw_54 hP 0 rfl rfl dX0_add_46 ?_
  refine lv_iload_n hx hb dX0_add_49 rfl (lv_at hl 3 rfl) ?_
  refine r_iastO hx hb hK hP hD hS 3 rfl (vp_lit (by decide +kernel)) dX0_add_50 (fun f1127 H locs hP hD hS => ?_)
  have hP : va_P D vwCl [(z1, .inr (0, [.ref z2, .ref z3, .ref z4, .ref z5, .ref z6, .ref z7, .int 1])), (z2, .inl (T 0, 121, .inl f1125)), (z3, .inl (T 0, 121, .inl f1126)), (z4, .inl (T 0, 121, .inl f1127)), (z5, .inl (T 0, 121, .inl (fun _ => 0))), (z6, .inl (T 0, 121, .inl (fun _ => 0))), (z7, .inl (T 0, 121, .inl (fun _ => 0)))] H := hP
  have hD : va_D A [(z1, .inr (0, [.ref z2, .ref z3, .ref z4, .ref z5, .ref z6, .ref z7, .int 1])), (z2, .inl (T 0, 121, .inl f1125)), (z3, .inl (T 0, 121, .inl f1126)), (z4, .inl (T 0, 121, .inl f1127)), (z5, .inl (T 0, 121, .inl (fun _ => 0))), (z6, .inl (T 0, 121, .inl (fun _ => 0))), (z7, .inl (T 0, 121, .inl (fun _ => 0)))] := hD
  refine lv_aload_n hx hb dX0_add_51 rfl (lv_at hl 0 rfl) ?_
  refine r_get (v := .ref z5) C0 hE ffX0_3 mw_48 hP 0 rfl rfl dX0_add_52 ?_
  refine lv_aload_n hx hb dX0_add_55 rfl (lv_at hl 0 rfl) ?_
  refine r_get (v := .int 1) C0 hE ffX0_6 mw_54 hP 0 rfl rfl dX0_add_56 ?_
  refine lv_iload hx hb dX0_add_59 (lv_at hl 4 rfl) ?_
  refine r_iastO hx hb hK hP hD hS 4 rfl (vp_lit (by decide +kernel)) dX0_add_61 (fun f1128 H locs hP hD hS => ?_)
  have hP : va_P D vwCl [(z1, .inr (0, [.ref z2, .ref z3, .ref z4, .ref z5, .ref z6, .ref z7, .int 1])), (z2, .inl (T 0, 121, .inl f1125)), (z3, .inl (T 0, 121, .inl f1126)), (z4, .inl (T 0, 121, .inl f1127)), (z5, .inl (T 0, 121, .inl f1128)), (z6, .inl (T 0, 121, .inl (fun _ => 0))), (z7, .inl (T 0, 121, .inl (fun _ => 0)))] H := hP
  have hD : va_D A [(z1, .inr (0, [.ref z2, .ref z3, .ref z4, .ref z5, .ref z6, .ref z7, .int 1])), (z2, .inl (T 0, 121, .inl f1125)), (z3, .inl (T 0, 121, .inl f1126)), (z4, .inl (T 0, 121, .inl f1127)), (z5, .inl (T 0, 121, .inl f1128)), (z6, .inl (T 0, 121, .inl (fun _ => 0))), (z7, .inl (T 0, 121, .inl (fun _ => 0)))] := hD
  refine lv_aload_n hx hb dX0_add_62 rfl (lv_at hl 0 rfl) ?_
  refine r_get (v := .ref z6) C0 hE ffX0_4 mw_50 hP 0 rfl rfl dX0_add_63 ?_
  refine lv_aload_n hx hb dX0_add_66 rfl (lv_at hl 0 rfl) ?_
  refine r_get (v := .int 1) C0 hE ffX0_6 mw_54 hP 0 rfl rfl dX0_add_67 ?_
  refine lv_iload hx hb dX0_add_70 (lv_at hl 5 rfl) ?_
  refine r_iastO hx hb hK hP hD hS 5 rfl (vp_lit (by decide +kernel)) dX0_add_72 (fun f1129 H locs hP hD hS => ?_)
  have hP : va_P D vwCl [(z1, .inr (0, [.ref z2, .ref z3, .ref z4, .ref z5, .ref z6, .ref z7, .int 1])), (z2, .inl (T 0, 121, .inl f1125)), (z3, .inl (T 0, 121, .inl f1126)), (z4, .inl (T 0, 121, .inl f1127)), (z5, .inl (T 0, 121, .inl f1128)), (z6, .inl (T 0, 121, .inl f1129)), (z7, .inl (T 0, 121, .inl (fun _ => 0)))] H := hP
  have hD : va_D A [(z1, .inr (0, [.ref z2, .ref z3, .ref z4, .ref z5, .ref z6, .ref z7, .int 1])), (z2, .inl (T 0, 121, .inl f1125)), (z3, .inl (T 0, 121, .inl f1126)), (z4, .inl (T 0, 121, .inl f1127)), (z5, .inl (T 0, 121, .inl f1128)), (z6, .inl (T 0, 121, .inl f1129)), (z7, .inl (T 0, 121, .inl (fun _ => 0)))] := hD
  refine lv_aload_n hx hb dX0_add_73 rfl (lv_at hl 0 rfl) ?_
  refine r_get (v := .ref z7) C0 hE ffX0_5 mw_52 hP 0 rfl rfl dX0_add_74 ?_
  refine lv_aload_n hx hb dX0_add_77 rfl (lv_at hl 0 rfl) ?_
  refine r_get (v := .int 1) C0 hE ffX0_6 mw_54 hP 0 rfl rfl dX0_add_78 ?_
  refine lv_iconst (v := 0) hx hb dX0_add_81 (by decide) ?_
  exact kk f1125 f1126 f1127 f1128 f1129 H locs ls hP hD hS hl
set_option maxHeartbeats 4000000 in
set_option maxRecDepth 100000 in
theorem c_X0_add_1132 (l : Launch) (D : va_G) (T : Nat → ClassId) (sz : Nat) (z1 : Nat) (z2 : Nat) (z3 : Nat) (z4 : Nat) (z5 : Nat) (z6 : Nat) (z7 : Nat) : Met l yX0_add (.code yX0_add cX0_add 6 (some .int) :: TB) { frames := 0, cells := 0, slots := 0, locals := 0 } (PC D T [.ref z1, .int 3, .int 0, .int 0, .int 0, .int 0] [(z1, .inr (0, [.ref z2, .ref z3, .ref z4, .ref z5, .ref z6, .ref z7, .int 0])), (z2, .inl (T 0, 121, .inl (fun _ => 0))), (z3, .inl (T 0, 121, .inl (fun _ => 0))), (z4, .inl (T 0, 121, .inl (fun _ => 0))), (z5, .inl (T 0, 121, .inl (fun _ => 0))), (z6, .inl (T 0, 121, .inl (fun _ => 0))), (z7, .inl (T 0, 121, .inl (fun _ => 0)))] sz) (Qi (S := (Nat → Int32) × (Nat → Int32) × (Nat → Int32) × (Nat → Int32) × (Nat → Int32) × (Nat → Int32)) (fun (r : Int32) (u : (Nat → Int32) × (Nat → Int32) × (Nat → Int32) × (Nat → Int32) × (Nat → Int32) × (Nat → Int32)) => match u with | (f1125, f1126, f1127, f1128, f1129, f1131) => r = 1) (fun (u : (Nat → Int32) × (Nat → Int32) × (Nat → Int32) × (Nat → Int32) × (Nat → Int32) × (Nat → Int32)) => match u with | (f1125, f1126, f1127, f1128, f1129, f1131) => [(z1, .inr (0, [.ref z2, .ref z3, .ref z4, .ref z5, .ref z6, .ref z7, .int 1])), (z2, .inl (T 0, 121, .inl f1125)), (z3, .inl (T 0, 121, .inl f1126)), (z4, .inl (T 0, 121, .inl f1127)), (z5, .inl (T 0, 121, .inl f1128)), (z6, .inl (T 0, 121, .inl f1129)), (z7, .inl (T 0, 121, .inl f1131))]) D (va_A [(z1, .inr (0, [.ref z2, .ref z3, .ref z4, .ref z5, .ref z6, .ref z7, .int 0])), (z2, .inl (T 0, 121, .inl (fun _ => 0))), (z3, .inl (T 0, 121, .inl (fun _ => 0))), (z4, .inl (T 0, 121, .inl (fun _ => 0))), (z5, .inl (T 0, 121, .inl (fun _ => 0))), (z6, .inl (T 0, 121, .inl (fun _ => 0))), (z7, .inl (T 0, 121, .inl (fun _ => 0)))] sz)) 0 0 (va_A [(z1, .inr (0, [.ref z2, .ref z3, .ref z4, .ref z5, .ref z6, .ref z7, .int 0])), (z2, .inl (T 0, 121, .inl (fun _ => 0))), (z3, .inl (T 0, 121, .inl (fun _ => 0))), (z4, .inl (T 0, 121, .inl (fun _ => 0))), (z5, .inl (T 0, 121, .inl (fun _ => 0))), (z6, .inl (T 0, 121, .inl (fun _ => 0))), (z7, .inl (T 0, 121, .inl (fun _ => 0)))] sz) := by
  refine ct_begin (Qc := Qi (S := (Nat → Int32) × (Nat → Int32) × (Nat → Int32) × (Nat → Int32) × (Nat → Int32) × (Nat → Int32)) (fun (r : Int32) (u : (Nat → Int32) × (Nat → Int32) × (Nat → Int32) × (Nat → Int32) × (Nat → Int32) × (Nat → Int32)) => match u with | (f1125, f1126, f1127, f1128, f1129, f1131) => r = 1) (fun (u : (Nat → Int32) × (Nat → Int32) × (Nat → Int32) × (Nat → Int32) × (Nat → Int32) × (Nat → Int32)) => match u with | (f1125, f1126, f1127, f1128, f1129, f1131) => [(z1, .inr (0, [.ref z2, .ref z3, .ref z4, .ref z5, .ref z6, .ref z7, .int 1])), (z2, .inl (T 0, 121, .inl f1125)), (z3, .inl (T 0, 121, .inl f1126)), (z4, .inl (T 0, 121, .inl f1127)), (z5, .inl (T 0, 121, .inl f1128)), (z6, .inl (T 0, 121, .inl f1129)), (z7, .inl (T 0, 121, .inl f1131))]) D) (by decide +kernel) (Nat.le_of_ble_eq_true rfl) ?_
  intro p e s m below meth c A ls C0 hr hlocks hnm hE hA hP hD hS hl
  have hx := C0.1
  have hb := C0.2.1
  have hml := C0.2.2.1
  have hown := C0.2.2.2.1
  have hT := C0.2.2.2.2
  have hK := hE.1
  have hl : lv_has ls 6 [(0, .ref z1), (1, .int 3), (2, .int 0), (3, .int 0), (4, .int 0), (5, .int 0)] := hl
  refine sg_1130 z1 z2 z3 z4 z5 z6 z7 C0 hE hnm hA hP hD hS hl (fun f1125 f1126 f1127 f1128 f1129 H locs ls hP hD hS hl => ?_)
  refine r_iastO hx hb hK hP hD hS 6 rfl (vp_lit (by decide +kernel)) dX0_add_82 (fun f1131 H locs hP hD hS => ?_)
  have hP : va_P D vwCl [(z1, .inr (0, [.ref z2, .ref z3, .ref z4, .ref z5, .ref z6, .ref z7, .int 1])), (z2, .inl (T 0, 121, .inl f1125)), (z3, .inl (T 0, 121, .inl f1126)), (z4, .inl (T 0, 121, .inl f1127)), (z5, .inl (T 0, 121, .inl f1128)), (z6, .inl (T 0, 121, .inl f1129)), (z7, .inl (T 0, 121, .inl f1131))] H := hP
  have hD : va_D A [(z1, .inr (0, [.ref z2, .ref z3, .ref z4, .ref z5, .ref z6, .ref z7, .int 1])), (z2, .inl (T 0, 121, .inl f1125)), (z3, .inl (T 0, 121, .inl f1126)), (z4, .inl (T 0, 121, .inl f1127)), (z5, .inl (T 0, 121, .inl f1128)), (z6, .inl (T 0, 121, .inl f1129)), (z7, .inl (T 0, 121, .inl f1131))] := hD
  refine lv_aload_n hx hb dX0_add_83 rfl (lv_at hl 0 rfl) ?_
  refine r_get (v := .int 1) C0 hE ffX0_6 mw_54 hP 0 rfl rfl dX0_add_84 ?_
  exact r_iret (f1125, f1126, f1127, f1128, f1129, f1131) C0 hr hlocks hS (Nat.le_of_ble_eq_true rfl) (Nat.le_of_ble_eq_true rfl) dX0_add_87 rfl hP hD
set_option maxHeartbeats 4000000 in
set_option maxRecDepth 100000 in
theorem c_X10_wash_1154 (l : Launch) (D : va_G) (T : Nat → ClassId) (sz : Nat) (z1 : Nat) (z2 : Nat) (z3 : Nat) (z4 : Nat) (z5 : Nat) (z6 : Nat) (z7 : Nat) (z8 : Nat) (z9 : Nat) (z10 : Nat) (z11 : Nat) (z12 : Nat) (z13 : Nat) (z14 : Nat) (z15 : Nat) (z16 : Nat) (z17 : Nat) (z18 : Nat) : Met l yX10_wash (.code yX10_wash cX10_wash 1 (some .int) :: TB) { frames := 1, cells := 0, slots := 0, locals := 25 } (PC D T [.ref z1] [(z1, .inr (10, [.ref z2, .ref z3, .ref z4, .ref z5, .ref z6, .ref z7, .ref z8, .ref z9, .ref z10, .ref z11, .ref z12, .int 1, .int (-1), .int 0, .int (-1)])), (z4, .inr (0, [.ref z13, .ref z14, .ref z15, .ref z16, .ref z17, .ref z18, .int 0])), (z13, .inl (T 0, 121, .inl (fun _ => 0))), (z14, .inl (T 0, 121, .inl (fun _ => 0))), (z15, .inl (T 0, 121, .inl (fun _ => 0))), (z16, .inl (T 0, 121, .inl (fun _ => 0))), (z17, .inl (T 0, 121, .inl (fun _ => 0))), (z18, .inl (T 0, 121, .inl (fun _ => 0)))] sz) (Qi (S := (Nat → Int32) × (Nat → Int32) × (Nat → Int32) × (Nat → Int32) × (Nat → Int32) × (Nat → Int32)) (fun (r : Int32) (u : (Nat → Int32) × (Nat → Int32) × (Nat → Int32) × (Nat → Int32) × (Nat → Int32) × (Nat → Int32)) => match u with | (f1147, f1148, f1149, f1150, f1151, f1152) => r = 1) (fun (u : (Nat → Int32) × (Nat → Int32) × (Nat → Int32) × (Nat → Int32) × (Nat → Int32) × (Nat → Int32)) => match u with | (f1147, f1148, f1149, f1150, f1151, f1152) => [(z1, .inr (10, [.ref z2, .ref z3, .ref z4, .ref z5, .ref z6, .ref z7, .ref z8, .ref z9, .ref z10, .ref z11, .ref z12, .int 1, .int (-1), .int 0, .int (-1)])), (z4, .inr (0, [.ref z13, .ref z14, .ref z15, .ref z16, .ref z17, .ref z18, .int 1])), (z13, .inl (T 0, 121, .inl f1147)), (z14, .inl (T 0, 121, .inl f1148)), (z15, .inl (T 0, 121, .inl f1149)), (z16, .inl (T 0, 121, .inl f1150)), (z17, .inl (T 0, 121, .inl f1151)), (z18, .inl (T 0, 121, .inl f1152))]) D (va_A [(z1, .inr (10, [.ref z2, .ref z3, .ref z4, .ref z5, .ref z6, .ref z7, .ref z8, .ref z9, .ref z10, .ref z11, .ref z12, .int 1, .int (-1), .int 0, .int (-1)])), (z4, .inr (0, [.ref z13, .ref z14, .ref z15, .ref z16, .ref z17, .ref z18, .int 0])), (z13, .inl (T 0, 121, .inl (fun _ => 0))), (z14, .inl (T 0, 121, .inl (fun _ => 0))), (z15, .inl (T 0, 121, .inl (fun _ => 0))), (z16, .inl (T 0, 121, .inl (fun _ => 0))), (z17, .inl (T 0, 121, .inl (fun _ => 0))), (z18, .inl (T 0, 121, .inl (fun _ => 0)))] sz)) 0 0 (va_A [(z1, .inr (10, [.ref z2, .ref z3, .ref z4, .ref z5, .ref z6, .ref z7, .ref z8, .ref z9, .ref z10, .ref z11, .ref z12, .int 1, .int (-1), .int 0, .int (-1)])), (z4, .inr (0, [.ref z13, .ref z14, .ref z15, .ref z16, .ref z17, .ref z18, .int 0])), (z13, .inl (T 0, 121, .inl (fun _ => 0))), (z14, .inl (T 0, 121, .inl (fun _ => 0))), (z15, .inl (T 0, 121, .inl (fun _ => 0))), (z16, .inl (T 0, 121, .inl (fun _ => 0))), (z17, .inl (T 0, 121, .inl (fun _ => 0))), (z18, .inl (T 0, 121, .inl (fun _ => 0)))] sz) := by
  refine ct_begin (Qc := Qi (S := (Nat → Int32) × (Nat → Int32) × (Nat → Int32) × (Nat → Int32) × (Nat → Int32) × (Nat → Int32)) (fun (r : Int32) (u : (Nat → Int32) × (Nat → Int32) × (Nat → Int32) × (Nat → Int32) × (Nat → Int32) × (Nat → Int32)) => match u with | (f1147, f1148, f1149, f1150, f1151, f1152) => r = 1) (fun (u : (Nat → Int32) × (Nat → Int32) × (Nat → Int32) × (Nat → Int32) × (Nat → Int32) × (Nat → Int32)) => match u with | (f1147, f1148, f1149, f1150, f1151, f1152) => [(z1, .inr (10, [.ref z2, .ref z3, .ref z4, .ref z5, .ref z6, .ref z7, .ref z8, .ref z9, .ref z10, .ref z11, .ref z12, .int 1, .int (-1), .int 0, .int (-1)])), (z4, .inr (0, [.ref z13, .ref z14, .ref z15, .ref z16, .ref z17, .ref z18, .int 1])), (z13, .inl (T 0, 121, .inl f1147)), (z14, .inl (T 0, 121, .inl f1148)), (z15, .inl (T 0, 121, .inl f1149)), (z16, .inl (T 0, 121, .inl f1150)), (z17, .inl (T 0, 121, .inl f1151)), (z18, .inl (T 0, 121, .inl f1152))]) D) (by decide +kernel) (Nat.le_of_ble_eq_true rfl) ?_
  intro p e s m below meth c A ls C0 hr hlocks hnm hE hA hP hD hS hl
  have hx := C0.1
  have hb := C0.2.1
  have hml := C0.2.2.1
  have hown := C0.2.2.2.1
  have hT := C0.2.2.2.2
  have hK := hE.1
  have hl : lv_has ls 1 [(0, .ref z1)] := hl
  refine lv_aload_n hx hb dX10_wash_0 rfl (lv_at hl 0 rfl) ?_
  refine r_get (v := .ref z4) C0 hE ffX10_2 mw_59 hP 0 rfl rfl dX10_wash_1 ?_
  refine lv_iconst (v := 3) hx hb dX10_wash_4 (by decide) ?_
  refine lv_iconst (v := 0) hx hb dX10_wash_5 (by decide) ?_
  refine lv_iconst (v := 0) hx hb dX10_wash_6 (by decide) ?_
  refine lv_iconst (v := 0) hx hb dX10_wash_7 (by decide) ?_
  refine lv_iconst (v := 0) hx hb dX10_wash_8 (by decide) ?_
  refine r_calli (wr := [(z1, .inr (10, [.ref z2, .ref z3, .ref z4, .ref z5, .ref z6, .ref z7, .ref z8, .ref z9, .ref z10, .ref z11, .ref z12, .int 1, .int (-1), .int 0, .int (-1)]))]) (r_runV (As := [.int 3, .int 0, .int 0, .int 0, .int 0]) (rest := []) (wc := [(z4, .inr (0, [.ref z13, .ref z14, .ref z15, .ref z16, .ref z17, .ref z18, .int 0])), (z13, .inl (T 0, 121, .inl (fun _ => 0))), (z14, .inl (T 0, 121, .inl (fun _ => 0))), (z15, .inl (T 0, 121, .inl (fun _ => 0))), (z16, .inl (T 0, 121, .inl (fun _ => 0))), (z17, .inl (T 0, 121, .inl (fun _ => 0))), (z18, .inl (T 0, 121, .inl (fun _ => 0)))]) (ci := 0) C0 hE (c_X0_add_1132 l D T s.heap.size z4 z13 z14 z15 z16 z17 z18) mw_533 mw_534 mw_535 mw_38 mw_536 dn_532 rfl rfl ⟨Nat.le_of_ble_eq_true rfl, Nat.le_of_ble_eq_true rfl⟩ (hP.sub (ws' := [(z4, .inr (0, [.ref z13, .ref z14, .ref z15, .ref z16, .ref z17, .ref z18, .int 0])), (z13, .inl (T 0, 121, .inl (fun _ => 0))), (z14, .inl (T 0, 121, .inl (fun _ => 0))), (z15, .inl (T 0, 121, .inl (fun _ => 0))), (z16, .inl (T 0, 121, .inl (fun _ => 0))), (z17, .inl (T 0, 121, .inl (fun _ => 0))), (z18, .inl (T 0, 121, .inl (fun _ => 0)))]) [1, 2, 3, 4, 5, 6, 7] rfl) (hD.sub (ws' := [(z4, .inr (0, [.ref z13, .ref z14, .ref z15, .ref z16, .ref z17, .ref z18, .int 0])), (z13, .inl (T 0, 121, .inl (fun _ => 0))), (z14, .inl (T 0, 121, .inl (fun _ => 0))), (z15, .inl (T 0, 121, .inl (fun _ => 0))), (z16, .inl (T 0, 121, .inl (fun _ => 0))), (z17, .inl (T 0, 121, .inl (fun _ => 0))), (z18, .inl (T 0, 121, .inl (fun _ => 0)))]) [1, 2, 3, 4, 5, 6, 7] (by decide +kernel) rfl) rfl rfl rfl hl.1 rfl (Nat.le_of_ble_eq_true rfl) dX10_wash_9 ⟨Nat.le_of_ble_eq_true rfl, Nat.le_of_ble_eq_true rfl⟩) hP hD hS hA [1, 2, 3, 4, 5, 6, 7] [0] rfl rfl (by decide +kernel) (by decide +kernel) (fun r1153 u H locs hq hP hD hS => ?_)
  obtain ⟨f1147, f1148, f1149, f1150, f1151, f1152⟩ := u
  have hq : r1153 = 1 := hq
  subst hq
  have hP : va_P D vwCl [(z1, .inr (10, [.ref z2, .ref z3, .ref z4, .ref z5, .ref z6, .ref z7, .ref z8, .ref z9, .ref z10, .ref z11, .ref z12, .int 1, .int (-1), .int 0, .int (-1)])), (z4, .inr (0, [.ref z13, .ref z14, .ref z15, .ref z16, .ref z17, .ref z18, .int 1])), (z13, .inl (T 0, 121, .inl f1147)), (z14, .inl (T 0, 121, .inl f1148)), (z15, .inl (T 0, 121, .inl f1149)), (z16, .inl (T 0, 121, .inl f1150)), (z17, .inl (T 0, 121, .inl f1151)), (z18, .inl (T 0, 121, .inl f1152))] H := hP
  have hD : va_D A [(z1, .inr (10, [.ref z2, .ref z3, .ref z4, .ref z5, .ref z6, .ref z7, .ref z8, .ref z9, .ref z10, .ref z11, .ref z12, .int 1, .int (-1), .int 0, .int (-1)])), (z4, .inr (0, [.ref z13, .ref z14, .ref z15, .ref z16, .ref z17, .ref z18, .int 1])), (z13, .inl (T 0, 121, .inl f1147)), (z14, .inl (T 0, 121, .inl f1148)), (z15, .inl (T 0, 121, .inl f1149)), (z16, .inl (T 0, 121, .inl f1150)), (z17, .inl (T 0, 121, .inl f1151)), (z18, .inl (T 0, 121, .inl f1152))] := hD
  refine W.widen (k := 0) (n := 0) (Nat.le_of_ble_eq_true rfl) (Nat.le_of_ble_eq_true rfl) ?_
  exact r_iret (f1147, f1148, f1149, f1150, f1151, f1152) C0 hr hlocks hS (Nat.le_of_ble_eq_true rfl) (Nat.le_of_ble_eq_true rfl) dX10_wash_12 rfl hP hD
set_option maxHeartbeats 4000000 in
set_option maxRecDepth 100000 in
theorem c_X0_canVoid_1159 (l : Launch) (D : va_G) (T : Nat → ClassId) (sz : Nat) (z1 : Nat) (z2 : Int32) (z3 : Nat) (z4 : Nat) (z5 : Nat) (z6 : Nat) (z7 : Nat) (z8 : Nat) : Met l yX0_canVoid (.code yX0_canVoid cX0_canVoid 2 (some .boolean) :: TB) { frames := 0, cells := 0, slots := 0, locals := 0 } (PC D T [.ref z1, .int z2] [(z1, .inr (0, [.ref z3, .ref z4, .ref z5, .ref z6, .ref z7, .ref z8, .int 0]))] sz) (Qi (S := Unit) (fun (r : Int32) (_ : Unit) => r = 0) (fun (_ : Unit) => [(z1, .inr (0, [.ref z3, .ref z4, .ref z5, .ref z6, .ref z7, .ref z8, .int 0]))]) D (va_A [(z1, .inr (0, [.ref z3, .ref z4, .ref z5, .ref z6, .ref z7, .ref z8, .int 0]))] sz)) 0 0 (va_A [(z1, .inr (0, [.ref z3, .ref z4, .ref z5, .ref z6, .ref z7, .ref z8, .int 0]))] sz) := by
  refine ct_begin (Qc := Qi (S := Unit) (fun (r : Int32) (_ : Unit) => r = 0) (fun (_ : Unit) => [(z1, .inr (0, [.ref z3, .ref z4, .ref z5, .ref z6, .ref z7, .ref z8, .int 0]))]) D) (by decide +kernel) (Nat.le_of_ble_eq_true rfl) ?_
  intro p e s m below meth c A ls C0 hr hlocks hnm hE hA hP hD hS hl
  have hx := C0.1
  have hb := C0.2.1
  have hml := C0.2.2.1
  have hown := C0.2.2.2.1
  have hT := C0.2.2.2.2
  have hK := hE.1
  have hl : lv_has ls 2 [(0, .ref z1), (1, .int z2)] := hl
  refine lv_iload_n hx hb dX0_canVoid_0 rfl (lv_at hl 1 rfl) ?_
  refine lv_iconst (v := 1) hx hb dX0_canVoid_1 (by decide) ?_
  refine lv_icmp_lt (tgt := 36) hx hb dX0_canVoid_2 (by decide) (fun c_1157 => ?_) (fun c_1157 => ?_)
  · skip
    refine lv_iconst (v := 0) hx hb dX0_canVoid_36 (by decide) ?_
    exact r_zret () C0 hr (by decide +kernel) hlocks hS (Nat.le_of_ble_eq_true rfl) (Nat.le_of_ble_eq_true rfl) dX0_canVoid_37 (by first | rfl | decide +kernel | simp [bi, FO, TS, c_1157]) hP hD
  · skip
    refine lv_iload_n hx hb dX0_canVoid_5 rfl (lv_at hl 1 rfl) ?_
    refine lv_aload_n hx hb dX0_canVoid_6 rfl (lv_at hl 0 rfl) ?_
    refine r_get (v := .int 0) C0 hE ffX0_6 mw_54 hP 0 rfl rfl dX0_canVoid_7 ?_
    refine lv_icmp_gt (tgt := 36) hx hb dX0_canVoid_10 (by decide) (fun c_1158 => ?_) (fun c_1158 => ?_)
    · skip
      refine lv_iconst (v := 0) hx hb dX0_canVoid_36 (by decide) ?_
      exact r_zret () C0 hr (by decide +kernel) hlocks hS (Nat.le_of_ble_eq_true rfl) (Nat.le_of_ble_eq_true rfl) dX0_canVoid_37 (by first | rfl | decide +kernel | simp [bi, FO, TS, c_1157, c_1158]) hP hD
    · skip
      exact absurd (Int32.lt_of_lt_of_le (show (0 : Int32) < 1 by decide +kernel) (Int32.not_lt.mp c_1157)) c_1158
set_option maxHeartbeats 4000000 in
set_option maxRecDepth 100000 in
theorem c_X10_annul_1164 (l : Launch) (D : va_G) (T : Nat → ClassId) (sz : Nat) (z1 : Nat) (z2 : Int32) (z3 : Nat) (z4 : Nat) (z5 : Nat) (z6 : Nat) (z7 : Nat) (z8 : Nat) (z9 : Nat) (z10 : Nat) (z11 : Nat) (z12 : Nat) (z13 : Nat) (z14 : Nat) (z15 : Nat) (z16 : Nat) (z17 : Nat) (z18 : Nat) (z19 : Nat) : Met l yX10_annul (.code yX10_annul cX10_annul 2 (some .int) :: TB) { frames := 1, cells := 0, slots := 0, locals := 21 } (PC D T [.ref z1, .int z2] [(z1, .inr (10, [.ref z3, .ref z4, .ref z5, .ref z6, .ref z7, .ref z8, .ref z9, .ref z10, .ref z11, .ref z12, .ref z13, .int 1, .int (-1), .int 0, .int (-1)])), (z5, .inr (0, [.ref z14, .ref z15, .ref z16, .ref z17, .ref z18, .ref z19, .int 0]))] sz) (Qi (S := Unit) (fun (r : Int32) (_ : Unit) => r = (-1)) (fun (_ : Unit) => []) D (va_A [(z1, .inr (10, [.ref z3, .ref z4, .ref z5, .ref z6, .ref z7, .ref z8, .ref z9, .ref z10, .ref z11, .ref z12, .ref z13, .int 1, .int (-1), .int 0, .int (-1)])), (z5, .inr (0, [.ref z14, .ref z15, .ref z16, .ref z17, .ref z18, .ref z19, .int 0]))] sz)) 0 0 (va_A [(z1, .inr (10, [.ref z3, .ref z4, .ref z5, .ref z6, .ref z7, .ref z8, .ref z9, .ref z10, .ref z11, .ref z12, .ref z13, .int 1, .int (-1), .int 0, .int (-1)])), (z5, .inr (0, [.ref z14, .ref z15, .ref z16, .ref z17, .ref z18, .ref z19, .int 0]))] sz) := by
  refine ct_begin (Qc := Qi (S := Unit) (fun (r : Int32) (_ : Unit) => r = (-1)) (fun (_ : Unit) => []) D) (by decide +kernel) (Nat.le_of_ble_eq_true rfl) ?_
  intro p e s m below meth c A ls C0 hr hlocks hnm hE hA hP hD hS hl
  have hx := C0.1
  have hb := C0.2.1
  have hml := C0.2.2.1
  have hown := C0.2.2.2.1
  have hT := C0.2.2.2.2
  have hK := hE.1
  have hl : lv_has ls 2 [(0, .ref z1), (1, .int z2)] := hl
  refine lv_aload_n hx hb dX10_annul_0 rfl (lv_at hl 0 rfl) ?_
  refine r_get (v := .ref z5) C0 hE ffX10_2 mw_59 hP 0 rfl rfl dX10_annul_1 ?_
  refine lv_iload_n hx hb dX10_annul_4 rfl (lv_at hl 1 rfl) ?_
  refine r_calli (wr := [(z1, .inr (10, [.ref z3, .ref z4, .ref z5, .ref z6, .ref z7, .ref z8, .ref z9, .ref z10, .ref z11, .ref z12, .ref z13, .int 1, .int (-1), .int 0, .int (-1)]))]) (r_runV (As := [.int z2]) (rest := []) (wc := [(z5, .inr (0, [.ref z14, .ref z15, .ref z16, .ref z17, .ref z18, .ref z19, .int 0]))]) (ci := 0) C0 hE (c_X0_canVoid_1159 l D T s.heap.size z5 z2 z14 z15 z16 z17 z18 z19) mw_542 mw_543 mw_544 mw_38 mw_545 dn_541 rfl rfl ⟨Nat.le_of_ble_eq_true rfl, Nat.le_of_ble_eq_true rfl⟩ (hP.sub (ws' := [(z5, .inr (0, [.ref z14, .ref z15, .ref z16, .ref z17, .ref z18, .ref z19, .int 0]))]) [1] rfl) (hD.sub (ws' := [(z5, .inr (0, [.ref z14, .ref z15, .ref z16, .ref z17, .ref z18, .ref z19, .int 0]))]) [1] (by decide +kernel) rfl) rfl rfl rfl hl.1 rfl (Nat.le_of_ble_eq_true rfl) dX10_annul_5 ⟨Nat.le_of_ble_eq_true rfl, Nat.le_of_ble_eq_true rfl⟩) hP hD hS hA [1] [0] rfl rfl (by decide +kernel) (by decide +kernel) (fun r1163 u H locs hq hP hD hS => ?_)
  have hq : r1163 = 0 := hq
  subst hq
  have hP : va_P D vwCl [(z1, .inr (10, [.ref z3, .ref z4, .ref z5, .ref z6, .ref z7, .ref z8, .ref z9, .ref z10, .ref z11, .ref z12, .ref z13, .int 1, .int (-1), .int 0, .int (-1)])), (z5, .inr (0, [.ref z14, .ref z15, .ref z16, .ref z17, .ref z18, .ref z19, .int 0]))] H := hP
  have hD : va_D A [(z1, .inr (10, [.ref z3, .ref z4, .ref z5, .ref z6, .ref z7, .ref z8, .ref z9, .ref z10, .ref z11, .ref z12, .ref z13, .int 1, .int (-1), .int 0, .int (-1)])), (z5, .inr (0, [.ref z14, .ref z15, .ref z16, .ref z17, .ref z18, .ref z19, .int 0]))] := hD
  refine W.widen (k := 0) (n := 0) (Nat.le_of_ble_eq_true rfl) (Nat.le_of_ble_eq_true rfl) ?_
  refine lv_if_eq (tgt := 22) hx hb dX10_annul_8 (by decide) (fun _ => ?_) (fun hc => absurd (by decide +kernel) hc)
  refine lv_iconst (v := (-1)) hx hb dX10_annul_22 (by decide) ?_
  exact r_iret () C0 hr hlocks hS (Nat.le_of_ble_eq_true rfl) (Nat.le_of_ble_eq_true rfl) dX10_annul_23 (by first | rfl | decide +kernel | simp [bi, FO, TS]) P_nil D_nil
set_option maxHeartbeats 4000000 in
set_option maxRecDepth 100000 in
theorem c_X10_within_1169 (l : Launch) (D : va_G) (T : Nat → ClassId) (sz : Nat) (z1 : Int32) : Met l yX10_within (.code yX10_within cX10_within 3 (some .boolean) :: TB) { frames := 0, cells := 0, slots := 0, locals := 0 } (PC D T [.int z1, .int (-1), .int 0] [] sz) (Qi (S := Unit) (fun (r : Int32) (_ : Unit) => r = (bi (wi z1 (-1) 0))) (fun (_ : Unit) => []) D (va_A [] sz)) 0 0 (va_A [] sz) := by
  refine ct_begin (Qc := Qi (S := Unit) (fun (r : Int32) (_ : Unit) => r = (bi (wi z1 (-1) 0))) (fun (_ : Unit) => []) D) (by decide +kernel) (Nat.le_of_ble_eq_true rfl) ?_
  intro p e s m below meth c A ls C0 hr hlocks hnm hE hA hP hD hS hl
  have hx := C0.1
  have hb := C0.2.1
  have hml := C0.2.2.1
  have hown := C0.2.2.2.1
  have hT := C0.2.2.2.2
  have hK := hE.1
  have hl : lv_has ls 3 [(0, .int z1), (1, .int (-1)), (2, .int 0)] := hl
  refine lv_iload_n hx hb dX10_within_0 rfl (lv_at hl 0 rfl) ?_
  refine lv_iload_n hx hb dX10_within_1 rfl (lv_at hl 1 rfl) ?_
  refine lv_icmp_lt (tgt := 14) hx hb dX10_within_2 (by decide) (fun c_1167 => ?_) (fun c_1167 => ?_)
  · skip
    refine lv_iconst (v := 0) hx hb dX10_within_14 (by decide) ?_
    exact r_zret () C0 hr (by decide +kernel) hlocks hS (Nat.le_of_ble_eq_true rfl) (Nat.le_of_ble_eq_true rfl) dX10_within_15 (wi_a c_1167) P_nil D_nil
  · skip
    refine lv_iload_n hx hb dX10_within_5 rfl (lv_at hl 0 rfl) ?_
    refine lv_iload_n hx hb dX10_within_6 rfl (lv_at hl 2 rfl) ?_
    refine lv_icmp_gt (tgt := 14) hx hb dX10_within_7 (by decide) (fun c_1168 => ?_) (fun c_1168 => ?_)
    · skip
      refine lv_iconst (v := 0) hx hb dX10_within_14 (by decide) ?_
      exact r_zret () C0 hr (by decide +kernel) hlocks hS (Nat.le_of_ble_eq_true rfl) (Nat.le_of_ble_eq_true rfl) dX10_within_15 (wi_b c_1168) P_nil D_nil
    · skip
      refine lv_iconst (v := 1) hx hb dX10_within_10 (by decide) ?_
      refine lv_goto (tgt := 15) hx hb dX10_within_11 (by decide) ?_
      exact r_zret () C0 hr (by decide +kernel) hlocks hS (Nat.le_of_ble_eq_true rfl) (Nat.le_of_ble_eq_true rfl) dX10_within_15 (wi_c c_1167 c_1168) P_nil D_nil
set_option maxHeartbeats 4000000 in
set_option maxRecDepth 100000 in
theorem c_X10_as_1176 (l : Launch) (D : va_G) (T : Nat → ClassId) (sz : Nat) (z1 : Nat) (z2 : Int32) (z3 : Nat) (z4 : Nat) (z5 : Nat) (z6 : Nat) (z7 : Nat) (z8 : Nat) (z9 : Nat) (z10 : Nat) (z11 : Nat) (z12 : Nat) (z13 : Nat) (z14 : Nat) (z15 : Nat) (z16 : Nat) (z17 : Nat) (z18 : Nat) (z19 : Nat) : Met l yX10_as (.code yX10_as cX10_as 2 (some .boolean) :: TB) { frames := 1, cells := 0, slots := 0, locals := 22 } (PC D T [.ref z1, .int z2] [(z1, .inr (10, [.ref z3, .ref z4, .ref z5, .ref z6, .ref z7, .ref z8, .ref z9, .ref z10, .ref z11, .ref z12, .ref z13, .int 1, .int (-1), .int 0, .int (-1)])), (z5, .inr (0, [.ref z14, .ref z15, .ref z16, .ref z17, .ref z18, .ref z19, .int 0]))] sz) (Qi (S := Unit) (fun (r : Int32) (_ : Unit) => r = (bi (wi z2 (-1) 0))) (fun (_ : Unit) => []) D (va_A [(z1, .inr (10, [.ref z3, .ref z4, .ref z5, .ref z6, .ref z7, .ref z8, .ref z9, .ref z10, .ref z11, .ref z12, .ref z13, .int 1, .int (-1), .int 0, .int (-1)])), (z5, .inr (0, [.ref z14, .ref z15, .ref z16, .ref z17, .ref z18, .ref z19, .int 0]))] sz)) 0 0 (va_A [(z1, .inr (10, [.ref z3, .ref z4, .ref z5, .ref z6, .ref z7, .ref z8, .ref z9, .ref z10, .ref z11, .ref z12, .ref z13, .int 1, .int (-1), .int 0, .int (-1)])), (z5, .inr (0, [.ref z14, .ref z15, .ref z16, .ref z17, .ref z18, .ref z19, .int 0]))] sz) := by
  refine ct_begin (Qc := Qi (S := Unit) (fun (r : Int32) (_ : Unit) => r = (bi (wi z2 (-1) 0))) (fun (_ : Unit) => []) D) (by decide +kernel) (Nat.le_of_ble_eq_true rfl) ?_
  intro p e s m below meth c A ls C0 hr hlocks hnm hE hA hP hD hS hl
  have hx := C0.1
  have hb := C0.2.1
  have hml := C0.2.2.1
  have hown := C0.2.2.2.1
  have hT := C0.2.2.2.2
  have hK := hE.1
  have hl : lv_has ls 2 [(0, .ref z1), (1, .int z2)] := hl
  refine lv_iload_n hx hb dX10_as_0 rfl (lv_at hl 1 rfl) ?_
  refine lv_iconst (v := (-1)) hx hb dX10_as_1 (by decide) ?_
  refine lv_aload_n hx hb dX10_as_2 rfl (lv_at hl 0 rfl) ?_
  refine r_get (v := .ref z5) C0 hE ffX10_2 mw_59 hP 0 rfl rfl dX10_as_3 ?_
  refine r_get (v := .int 0) C0 hE ffX0_6 mw_515 hP 1 rfl rfl dX10_as_6 ?_
  refine r_calli (wr := [(z1, .inr (10, [.ref z3, .ref z4, .ref z5, .ref z6, .ref z7, .ref z8, .ref z9, .ref z10, .ref z11, .ref z12, .ref z13, .int 1, .int (-1), .int 0, .int (-1)])), (z5, .inr (0, [.ref z14, .ref z15, .ref z16, .ref z17, .ref z18, .ref z19, .int 0]))]) (r_runS (As := [.int z2, .int (-1), .int 0]) (rest := []) (wc := []) C0 hE (c_X10_within_1169 l D T s.heap.size z2) mw_483 mw_484 mw_7 mw_485 dn_482 rfl rfl ⟨Nat.le_of_ble_eq_true rfl, Nat.le_of_ble_eq_true rfl⟩ (hP.sub (ws' := []) [] rfl) (hD.sub (ws' := []) [] (by decide +kernel) rfl) hl.1 rfl (Nat.le_of_ble_eq_true rfl) dX10_as_9 ⟨Nat.le_of_ble_eq_true rfl, Nat.le_of_ble_eq_true rfl⟩) hP hD hS hA [] [0, 1] rfl rfl (by decide +kernel) (by decide +kernel) (fun r1174 u H locs hq hP hD hS => ?_)
  have hq : r1174 = (bi (wi z2 (-1) 0)) := hq
  subst hq
  have hP : va_P D vwCl [(z1, .inr (10, [.ref z3, .ref z4, .ref z5, .ref z6, .ref z7, .ref z8, .ref z9, .ref z10, .ref z11, .ref z12, .ref z13, .int 1, .int (-1), .int 0, .int (-1)])), (z5, .inr (0, [.ref z14, .ref z15, .ref z16, .ref z17, .ref z18, .ref z19, .int 0]))] H := hP
  have hD : va_D A [(z1, .inr (10, [.ref z3, .ref z4, .ref z5, .ref z6, .ref z7, .ref z8, .ref z9, .ref z10, .ref z11, .ref z12, .ref z13, .int 1, .int (-1), .int 0, .int (-1)])), (z5, .inr (0, [.ref z14, .ref z15, .ref z16, .ref z17, .ref z18, .ref z19, .int 0]))] := hD
  refine W.widen (k := 0) (n := 0) (Nat.le_of_ble_eq_true rfl) (Nat.le_of_ble_eq_true rfl) ?_
  refine lv_if_ne (tgt := 17) hx hb dX10_as_12 (by decide) (fun c_1175 => ?_) (fun c_1175 => ?_)
  · skip
    have c_1175 := bi_nz c_1175
    refine lv_aload_n hx hb dX10_as_17 rfl (lv_at hl 0 rfl) ?_
    refine lv_iload_n hx hb dX10_as_18 rfl (lv_at hl 1 rfl) ?_
    refine r_put (v := .int z2) (ty := .int) (fs1 := [.ref z3, .ref z4, .ref z5, .ref z6, .ref z7, .ref z8, .ref z9, .ref z10, .ref z11, .ref z12, .ref z13, .int 1, .int z2, .int 0, .int (-1)]) (ws1 := [(z1, .inr (10, [.ref z3, .ref z4, .ref z5, .ref z6, .ref z7, .ref z8, .ref z9, .ref z10, .ref z11, .ref z12, .ref z13, .int 1, .int z2, .int 0, .int (-1)])), (z5, .inr (0, [.ref z14, .ref z15, .ref z16, .ref z17, .ref z18, .ref z19, .int 0]))]) C0 hE ffX10_12 tyX10 tyX10_ok nmX10 mw_281 pf_29 hP hD hS 0 rfl rfl rfl (Nat.le_of_ble_eq_true rfl) rfl rfl dX10_as_19 (fun H locs hP hD hS => ?_)
    refine lv_iconst (v := 1) hx hb dX10_as_22 (by decide) ?_
    exact r_zret () C0 hr (by decide +kernel) hlocks hS (Nat.le_of_ble_eq_true rfl) (Nat.le_of_ble_eq_true rfl) dX10_as_23 (by first | rfl | decide +kernel | simp [bi, FO, TS, c_1175]) P_nil D_nil
  · skip
    have c_1175 := bi_z c_1175
    refine lv_iconst (v := 0) hx hb dX10_as_15 (by decide) ?_
    exact r_zret () C0 hr (by decide +kernel) hlocks hS (Nat.le_of_ble_eq_true rfl) (Nat.le_of_ble_eq_true rfl) dX10_as_16 (by first | rfl | decide +kernel | simp [bi, FO, TS, c_1175]) P_nil D_nil
