def B_X3 (T : Nat → ClassId) (a r0 : Nat) (w : va_W) : Prop := ∃ (v1 : Int32), ∃ (v2 : Int32), ∃ (g0 : Nat → Int64), w = [(a, .inr (3, [.ref r0, .int v1, .int v2])), (r0, .inl (T 1, 65, .inr (.inl g0)))] ∧ (0 ≤ v1.toInt ∧ v1.toInt ≤ 64) ∧ (0 ≤ v2.toInt ∧ v2.toInt ≤ 1)
set_option maxHeartbeats 4000000 in
set_option maxRecDepth 100000 in
theorem g_X3_begin_4125 (l : Launch) (D : va_G) (T : Nat → ClassId) (sq sv sz : Nat) (z1 : Nat) (z2 : Nat) (w1 : va_W) (hw1 : B_X3 T z1 z2 w1) : Met l yX3_begin (.code yX3_begin cX3_begin 1 none :: TB) { frames := 0, cells := 0, slots := 0, locals := 0 } (PC2 D T sq sv [.ref z1] (w1) sz) (Qv2 (S := va_W) (fun (u0 : va_W) => B_X3 T z1 z2 u0) (fun (u0 : va_W) => u0) D (va_A (w1) sz)) 0 0 (va_A (w1) sz) := by
  obtain ⟨x4129, x4130, f4131, rfl, hx4129, hx4130⟩ := hw1
  refine ct_begin2 (Qc := Qv2 (S := va_W) (fun (u0 : va_W) => B_X3 T z1 z2 u0) (fun (u0 : va_W) => u0) D) (by decide +kernel) (Nat.le_of_ble_eq_true rfl) ?_
  intro p e s m below meth c A ls C0 hr hlocks hnm hE hStr hA hP hD hl
  generalize ([.ref z1] : List Value).toArray = args at C0 ⊢
  have hx := C0.1
  have hb := C0.2.1
  have hml := C0.2.2.1
  have hown := C0.2.2.2.1
  have hT := C0.2.2.2.2
  have hK := hE.1
  generalize hH : s.heap = H at hP ⊢
  have hS : va_S A s.heap H [] := by rw [← hH]; exact va_S.rf
  have hP : va_P D vwCl [(z1, .inr (3, [.ref z2, .int x4129, .int x4130])), (z2, .inl (T 1, 65, .inr (.inl f4131)))] H := hP
  have hD : va_D A [(z1, .inr (3, [.ref z2, .int x4129, .int x4130])), (z2, .inl (T 1, 65, .inr (.inl f4131)))] := hD
  have hl : lv_has ls 1 [(0, .ref z1)] := hl
  refine lv_aload_n hx hb dX3_begin_0 rfl (lv_at hl 0 rfl) ?_
  refine lv_iconst (v := 1) hx hb dX3_begin_1 (by decide) ?_
  refine r_put (v := .int 1) (ty := .boolean) (fs1 := [.ref z2, .int x4129, .int 1]) (ws1 := [(z1, .inr (3, [.ref z2, .int x4129, .int 1])), (z2, .inl (T 1, 65, .inr (.inl f4131)))]) C0 hE ffX3_2 tyX3 tyX3_ok nmX3 mw_140 pf_1367 hP hD hS 0 rfl rfl rfl (Nat.le_of_ble_eq_true rfl) rfl rfl dX3_begin_2 (fun H locs hP hD hS => ?_)
  refine lv_aload_n hx hb dX3_begin_5 rfl (lv_at hl 0 rfl) ?_
  refine lv_iconst (v := 0) hx hb dX3_begin_6 (by decide) ?_
  refine r_put (v := .int 0) (ty := .int) (fs1 := [.ref z2, .int 0, .int 1]) (ws1 := [(z1, .inr (3, [.ref z2, .int 0, .int 1])), (z2, .inl (T 1, 65, .inr (.inl f4131)))]) C0 hE ffX3_1 tyX3 tyX3_ok nmX3 mw_138 pf_1358 hP hD hS 0 rfl rfl rfl (Nat.le_of_ble_eq_true rfl) rfl rfl dX3_begin_7 (fun H locs hP hD hS => ?_)
  refine lv_aload_n hx hb dX3_begin_10 rfl (lv_at hl 0 rfl) ?_
  refine r_get (v := .ref z2) C0 hE ffX3_0 mw_137 hP 0 rfl rfl dX3_begin_11 ?_
  refine lv_iconst (v := 0) hx hb dX3_begin_14 (by decide) ?_
  refine lv_ldc2 hx hb hown (hT _ mw_626) dX3_begin_15 ?_
  refine r_lastO hx hb hK hP hD hS 1 rfl (vp_lit (by decide +kernel)) dX3_begin_18 (fun f4132 H locs hP hD hS => ?_)
  have hP : va_P D vwCl [(z1, .inr (3, [.ref z2, .int 0, .int 1])), (z2, .inl (T 1, 65, .inr (.inl f4132)))] H := hP
  have hD : va_D A [(z1, .inr (3, [.ref z2, .int 0, .int 1])), (z2, .inl (T 1, 65, .inr (.inl f4132)))] := hD
  exact r_vret2 ([(z1, .inr (3, [.ref z2, .int 0, .int 1])), (z2, .inl (T 1, 65, .inr (.inl f4132)))] : va_W) C0 hr hlocks hS (Nat.le_refl _) (Nat.le_refl _) dX3_begin_19 ⟨0, 1, f4132, rfl, ⟨by decide, by decide⟩, ⟨by decide, by decide⟩⟩ (hP.sub (ws' := [(z1, .inr (3, [.ref z2, .int 0, .int 1])), (z2, .inl (T 1, 65, .inr (.inl f4132)))]) [0, 1] rfl) (hD.sub (ws' := [(z1, .inr (3, [.ref z2, .int 0, .int 1])), (z2, .inl (T 1, 65, .inr (.inl f4132)))]) [0, 1] (by decide +kernel) rfl)
set_option maxHeartbeats 4000000 in
set_option maxRecDepth 100000 in
theorem g_X3_addHook_4394 (l : Launch) (D : va_G) (T : Nat → ClassId) (sq sv sz : Nat) (z1 : Nat) (z2 : Nat) (p1 : Int32) (w1 : va_W) (hw1 : B_X3 T z1 z2 w1) : Met l yX3_addHook (.code yX3_addHook cX3_addHook 5 none :: TB) { frames := 0, cells := 0, slots := 0, locals := 0 } (PC2 D T sq sv [.ref z1, .int p1] (w1) sz) (Qv2 (S := va_W) (fun (u0 : va_W) => B_X3 T z1 z2 u0 ∧ fv u0 2 = fv w1 2) (fun (u0 : va_W) => u0) D (va_A (w1) sz)) 0 0 (va_A (w1) sz) := by
  obtain ⟨x4398, x4399, f4400, rfl, hx4398, hx4399⟩ := hw1
  refine ct_begin2 (Qc := Qv2 (S := va_W) (fun (u0 : va_W) => B_X3 T z1 z2 u0 ∧ fv u0 2 = fv ([(z1, .inr (3, [.ref z2, .int x4398, .int x4399])), (z2, .inl (T 1, 65, .inr (.inl f4400)))] : va_W) 2) (fun (u0 : va_W) => u0) D) (by decide +kernel) (Nat.le_of_ble_eq_true rfl) ?_
  intro p e s m below meth c A ls C0 hr hlocks hnm hE hStr hA hP hD hl
  generalize ([.ref z1, .int p1] : List Value).toArray = args at C0 ⊢
  have hx := C0.1
  have hb := C0.2.1
  have hml := C0.2.2.1
  have hown := C0.2.2.2.1
  have hT := C0.2.2.2.2
  have hK := hE.1
  generalize hH : s.heap = H at hP ⊢
  have hS : va_S A s.heap H [] := by rw [← hH]; exact va_S.rf
  have hP : va_P D vwCl [(z1, .inr (3, [.ref z2, .int x4398, .int x4399])), (z2, .inl (T 1, 65, .inr (.inl f4400)))] H := hP
  have hD : va_D A [(z1, .inr (3, [.ref z2, .int x4398, .int x4399])), (z2, .inl (T 1, 65, .inr (.inl f4400)))] := hD
  have hl : lv_has ls 5 [(0, .ref z1), (1, .int p1)] := hl
  refine lv_aload_n hx hb dX3_addHook_0 rfl (lv_at hl 0 rfl) ?_
  refine r_get (v := .int x4398) C0 hE ffX3_1 mw_138 hP 0 rfl rfl dX3_addHook_1 ?_
  refine lv_bipush (v := 64) hx hb dX3_addHook_4 (by decide) ?_
  refine lv_icmp_lt (tgt := 10) hx hb dX3_addHook_6 (by decide) (fun c4401 => ?_) (fun c4401 => ?_)
  · skip
    have kc4401 : x4398.toInt < 64 := lt_ti rfl (by decide) c4401
    refine lv_aload_n hx hb dX3_addHook_10 rfl (lv_at hl 0 rfl) ?_
    refine lv_dup hx hb dX3_addHook_11 rfl ?_
    refine r_get (v := .int x4398) C0 hE ffX3_1 mw_138 hP 0 rfl rfl dX3_addHook_12 ?_
    refine lv_iconst (v := 1) hx hb dX3_addHook_15 (by decide) ?_
    refine lv_iadd hx hb dX3_addHook_16 ?_
    refine lv_topi (fun x4402 ex4402 => ?_)
    have hx4402 : x4402.toInt = x4398.toInt + 1 := ti_add ex4402 rfl (by decide) (by omega) (by omega)
    refine r_put (v := .int x4402) (ty := .int) (fs1 := [.ref z2, .int x4402, .int x4399]) (ws1 := [(z1, .inr (3, [.ref z2, .int x4402, .int x4399])), (z2, .inl (T 1, 65, .inr (.inl f4400)))]) C0 hE ffX3_1 tyX3 tyX3_ok nmX3 mw_138 pf_1358 hP hD hS 0 rfl rfl rfl (Nat.le_of_ble_eq_true rfl) rfl rfl dX3_addHook_17 (fun H locs hP hD hS => ?_)
    refine lv_aload_n hx hb dX3_addHook_20 rfl (lv_at hl 0 rfl) ?_
    refine r_get (v := .ref z2) C0 hE ffX3_0 mw_137 hP 0 rfl rfl dX3_addHook_21 ?_
    refine lv_aload_n hx hb dX3_addHook_24 rfl (lv_at hl 0 rfl) ?_
    refine r_get (v := .int x4402) C0 hE ffX3_1 mw_138 hP 0 rfl rfl dX3_addHook_25 ?_
    refine lv_lconst (v := 0) hx hb dX3_addHook_28 (by decide) ?_
    refine r_lastO hx hb hK hP hD hS 1 rfl (in_ti rfl (by omega) (by omega)) dX3_addHook_29 (fun f4403 H locs hP hD hS => ?_)
    have hP : va_P D vwCl [(z1, .inr (3, [.ref z2, .int x4402, .int x4399])), (z2, .inl (T 1, 65, .inr (.inl f4403)))] H := hP
    have hD : va_D A [(z1, .inr (3, [.ref z2, .int x4402, .int x4399])), (z2, .inl (T 1, 65, .inr (.inl f4403)))] := hD
    refine lv_aload_n hx hb dX3_addHook_30 rfl (lv_at hl 0 rfl) ?_
    refine r_get (v := .int x4402) C0 hE ffX3_1 mw_138 hP 0 rfl rfl dX3_addHook_31 ?_
    refine lv_istore_n (lv' := [(2, .int x4402), (0, .ref z1), (1, .int p1)]) hx hb dX3_addHook_34 rfl hl (by decide) rfl (fun ls hl => ?_)
    have L4455 : ∀ (n : Nat) (x4437 : Int32) (f4438 : Nat → Int64) (H : Heap) (locs : List Loc) (ls : Array Slot), (-1 ≤ x4437.toInt ∧ x4437.toInt ≤ 64) → (x4437.toInt - (-2)).toNat < n → va_P D vwCl [(z1, .inr (3, [.ref z2, .int x4402, .int x4399])), (z2, .inl (T 1, 65, .inr (.inl f4438)))] H → va_D A [(z1, .inr (3, [.ref z2, .int x4402, .int x4399])), (z2, .inl (T 1, 65, .inr (.inl f4438)))] → va_S A s.heap H locs → lv_has ls 5 [(2, .int x4437), (0, .ref z1), (1, .int p1)] → W p l e { frames := 0, cells := 0, slots := 0, locals := 0 } s m args below meth c H locs 0 0 (MQ below ((Qv2 (S := va_W) (fun (u0 : va_W) => B_X3 T z1 z2 u0 ∧ fv u0 2 = fv ([(z1, .inr (3, [.ref z2, .int x4398, .int x4399])), (z2, .inl (T 1, 65, .inr (.inl f4400)))] : va_W) 2) (fun (u0 : va_W) => u0) D) A) args s 0 0 A) (F0 m 35 ls []) := by
      intro n
      induction n with
      | zero =>
        intro x4437 f4438 H locs ls hx4437 hms hP hD hS hl
        exact absurd hms (Nat.not_lt_zero _)
      | succ n ih =>
        intro x4437 f4438 H locs ls hx4437 hms hP hD hS hl
        refine lv_iload_n hx hb dX3_addHook_35 rfl (lv_at hl 0 rfl) ?_
        refine lv_if_lt (tgt := 94) hx hb dX3_addHook_36 (by decide) (fun c4456 => ?_) (fun c4456 => ?_)
        · skip
          have kc4456 : x4437.toInt < 0 := lt_ti rfl (by decide) c4456
          exact r_vret2 ([(z1, .inr (3, [.ref z2, .int x4402, .int x4399])), (z2, .inl (T 1, 65, .inr (.inl f4438)))] : va_W) C0 hr hlocks hS (Nat.le_refl _) (Nat.le_refl _) dX3_addHook_94 ⟨⟨x4402, x4399, f4438, rfl, ⟨by omega, by omega⟩, ⟨by omega, by omega⟩⟩, rfl⟩ (hP.sub (ws' := [(z1, .inr (3, [.ref z2, .int x4402, .int x4399])), (z2, .inl (T 1, 65, .inr (.inl f4438)))]) [0, 1] rfl) (hD.sub (ws' := [(z1, .inr (3, [.ref z2, .int x4402, .int x4399])), (z2, .inl (T 1, 65, .inr (.inl f4438)))]) [0, 1] (by decide +kernel) rfl)
        · skip
          have kc4456 : 0 ≤ x4437.toInt := nlt_ti rfl (by decide) c4456
          refine lv_iload_n hx hb dX3_addHook_39 rfl (lv_at hl 0 rfl) ?_
          have J4479 : ∀ (x4478 : Int64) (H : Heap) (locs : List Loc) (ls : Array Slot), va_P D vwCl [(z1, .inr (3, [.ref z2, .int x4402, .int x4399])), (z2, .inl (T 1, 65, .inr (.inl f4438)))] H → va_D A [(z1, .inr (3, [.ref z2, .int x4402, .int x4399])), (z2, .inl (T 1, 65, .inr (.inl f4438)))] → va_S A s.heap H locs → lv_has ls 5 [(2, .int x4437), (0, .ref z1), (1, .int p1)] → W p l e { frames := 0, cells := 0, slots := 0, locals := 0 } s m args below meth c H locs 0 0 (MQ below ((Qv2 (S := va_W) (fun (u0 : va_W) => B_X3 T z1 z2 u0 ∧ fv u0 2 = fv ([(z1, .inr (3, [.ref z2, .int x4398, .int x4399])), (z2, .inl (T 1, 65, .inr (.inl f4400)))] : va_W) 2) (fun (u0 : va_W) => u0) D) A) args s 0 0 A) (F0 m 62 ls [.long x4478]) := by
            intro x4478 H locs ls hP hD hS hl
            refine lv_lstore_n (lv' := [(3, .long x4478), (2, .int x4437), (0, .ref z1), (1, .int p1)]) hx hb dX3_addHook_62 rfl hl (by decide) rfl (fun ls hl => ?_)
            refine lv_aload_n hx hb dX3_addHook_63 rfl (lv_at hl 2 rfl) ?_
            refine r_get (v := .ref z2) C0 hE ffX3_0 mw_137 hP 0 rfl rfl dX3_addHook_64 ?_
            refine lv_iload_n hx hb dX3_addHook_67 rfl (lv_at hl 1 rfl) ?_
            refine lv_aload_n hx hb dX3_addHook_68 rfl (lv_at hl 2 rfl) ?_
            refine r_get (v := .ref z2) C0 hE ffX3_0 mw_137 hP 0 rfl rfl dX3_addHook_69 ?_
            refine lv_iload_n hx hb dX3_addHook_72 rfl (lv_at hl 1 rfl) ?_
            refine va_lald hx hb hK hP 1 1 rfl rfl (in_ti rfl (by omega) (by omega)) dX3_addHook_73 ?_
            refine lv_topl (fun x4480 ex4480 => ?_)
            refine lv_sipush (v := 1000) hx hb dX3_addHook_74 (by decide) ?_
            refine lv_iload_n hx hb dX3_addHook_77 rfl (lv_at hl 3 rfl) ?_
            refine lv_isub hx hb dX3_addHook_78 ?_
            refine lv_topi (fun x4481 ex4481 => ?_)
            refine lv_i2l hx hb dX3_addHook_79 rfl ?_
            refine lv_topl (fun x4482 ex4482 => ?_)
            refine lv_lmul hx hb dX3_addHook_80 ?_
            refine lv_topl (fun x4483 ex4483 => ?_)
            refine lv_ldc2 hx hb hown (hT _ mw_631) dX3_addHook_81 ?_
            refine lv_ldiv hx hb dX3_addHook_84 (by decide +kernel) ?_
            refine lv_topl (fun x4484 ex4484 => ?_)
            refine lv_lload_n hx hb dX3_addHook_85 rfl (lv_at hl 0 rfl) ?_
            refine lv_ladd hx hb dX3_addHook_86 ?_
            refine lv_topl (fun x4485 ex4485 => ?_)
            refine r_lastO hx hb hK hP hD hS 1 rfl (in_ti rfl (by omega) (by omega)) dX3_addHook_87 (fun f4486 H locs hP hD hS => ?_)
            have hP : va_P D vwCl [(z1, .inr (3, [.ref z2, .int x4402, .int x4399])), (z2, .inl (T 1, 65, .inr (.inl f4486)))] H := hP
            have hD : va_D A [(z1, .inr (3, [.ref z2, .int x4402, .int x4399])), (z2, .inl (T 1, 65, .inr (.inl f4486)))] := hD
            obtain ⟨x4487, ex4487⟩ : ∃ y : Int32, y = x4437 + (-1) := ⟨_, rfl⟩
            have hx4487 : x4487.toInt = x4437.toInt + (-1) := ti_add ex4487 rfl (by decide) (by omega) (by omega)
            refine lv_iinc (v := x4487) (lv' := [(2, .int x4487), (3, .long x4478), (0, .ref z1), (1, .int p1)]) hx hb dX3_addHook_88 hl (k := 1) rfl (by rw [ex4487]; rfl) (by decide) rfl (fun ls hl => ?_)
            refine lv_goto (tgt := 35) hx hb dX3_addHook_91 (by decide) ?_
            exact ih x4487 f4486 _ _ ls ⟨by omega, by omega⟩ (by omega) (hP.sub (ws' := [(z1, .inr (3, [.ref z2, .int x4402, .int x4399])), (z2, .inl (T 1, 65, .inr (.inl f4486)))]) [0, 1] rfl) (hD.sub (ws' := [(z1, .inr (3, [.ref z2, .int x4402, .int x4399])), (z2, .inl (T 1, 65, .inr (.inl f4486)))]) [0, 1] (by decide +kernel) rfl) hS (lv_sub hl [0, 2, 3] rfl)
          refine lv_if_le (tgt := 61) hx hb dX3_addHook_40 (by decide) (fun c4472 => ?_) (fun c4472 => ?_)
          · skip
            have kc4472 : x4437.toInt ≤ 0 := le_ti rfl (by decide) c4472
            refine lv_lconst (v := 0) hx hb dX3_addHook_61 (by decide) ?_
            exact J4479 0 _ _ ls (hP.sub (ws' := [(z1, .inr (3, [.ref z2, .int x4402, .int x4399])), (z2, .inl (T 1, 65, .inr (.inl f4438)))]) [0, 1] rfl) (hD.sub (ws' := [(z1, .inr (3, [.ref z2, .int x4402, .int x4399])), (z2, .inl (T 1, 65, .inr (.inl f4438)))]) [0, 1] (by decide +kernel) rfl) hS (lv_sub hl [0, 1, 2] rfl)
          · skip
            have kc4472 : 0 < x4437.toInt := nle_ti rfl (by decide) c4472
            refine lv_aload_n hx hb dX3_addHook_43 rfl (lv_at hl 1 rfl) ?_
            refine r_get (v := .ref z2) C0 hE ffX3_0 mw_137 hP 0 rfl rfl dX3_addHook_44 ?_
            refine lv_iload_n hx hb dX3_addHook_47 rfl (lv_at hl 0 rfl) ?_
            refine lv_iconst (v := 1) hx hb dX3_addHook_48 (by decide) ?_
            refine lv_isub hx hb dX3_addHook_49 ?_
            refine lv_topi (fun x4488 ex4488 => ?_)
            have hx4488 : x4488.toInt = x4437.toInt - 1 := ti_sub ex4488 rfl (by decide) (by omega) (by omega)
            refine va_lald hx hb hK hP 1 1 rfl rfl (in_ti rfl (by omega) (by omega)) dX3_addHook_50 ?_
            refine lv_topl (fun x4489 ex4489 => ?_)
            refine lv_iload_n hx hb dX3_addHook_51 rfl (lv_at hl 2 rfl) ?_
            refine lv_i2l hx hb dX3_addHook_52 rfl ?_
            refine lv_topl (fun x4490 ex4490 => ?_)
            refine lv_lmul hx hb dX3_addHook_53 ?_
            refine lv_topl (fun x4491 ex4491 => ?_)
            refine lv_ldc2 hx hb hown (hT _ mw_631) dX3_addHook_54 ?_
            refine lv_ldiv hx hb dX3_addHook_57 (by decide +kernel) ?_
            refine lv_topl (fun x4492 ex4492 => ?_)
            refine lv_goto (tgt := 62) hx hb dX3_addHook_58 (by decide) ?_
            exact J4479 x4492 _ _ ls (hP.sub (ws' := [(z1, .inr (3, [.ref z2, .int x4402, .int x4399])), (z2, .inl (T 1, 65, .inr (.inl f4438)))]) [0, 1] rfl) (hD.sub (ws' := [(z1, .inr (3, [.ref z2, .int x4402, .int x4399])), (z2, .inl (T 1, 65, .inr (.inl f4438)))]) [0, 1] (by decide +kernel) rfl) hS (lv_sub hl [0, 1, 2] rfl)
    exact L4455 _ x4402 f4403 _ _ ls ⟨by omega, by omega⟩ (Nat.lt_succ_self _) (hP.sub (ws' := [(z1, .inr (3, [.ref z2, .int x4402, .int x4399])), (z2, .inl (T 1, 65, .inr (.inl f4403)))]) [0, 1] rfl) (hD.sub (ws' := [(z1, .inr (3, [.ref z2, .int x4402, .int x4399])), (z2, .inl (T 1, 65, .inr (.inl f4403)))]) [0, 1] (by decide +kernel) rfl) hS (lv_sub hl [0, 1, 2] rfl)
  · skip
    have kc4401 : 64 ≤ x4398.toInt := nlt_ti rfl (by decide) c4401
    exact r_vret2 ([(z1, .inr (3, [.ref z2, .int x4398, .int x4399])), (z2, .inl (T 1, 65, .inr (.inl f4400)))] : va_W) C0 hr hlocks hS (Nat.le_refl _) (Nat.le_refl _) dX3_addHook_9 ⟨⟨x4398, x4399, f4400, rfl, ⟨by omega, by omega⟩, ⟨by omega, by omega⟩⟩, rfl⟩ (hP.sub (ws' := [(z1, .inr (3, [.ref z2, .int x4398, .int x4399])), (z2, .inl (T 1, 65, .inr (.inl f4400)))]) [0, 1] rfl) (hD.sub (ws' := [(z1, .inr (3, [.ref z2, .int x4398, .int x4399])), (z2, .inl (T 1, 65, .inr (.inl f4400)))]) [0, 1] (by decide +kernel) rfl)
set_option maxHeartbeats 4000000 in
set_option maxRecDepth 100000 in
theorem g_X3_from_4642 (l : Launch) (D : va_G) (T : Nat → ClassId) (sq sv sz : Nat) (z1 : Nat) (z2 : Nat) (p1 : Int32) (w1 : va_W) (hw1 : B_X3 T z1 z2 w1) (hp1 : 0 ≤ p1.toInt ∧ p1.toInt ≤ 64) : Met l yX3_from (.code yX3_from cX3_from 5 (some .long) :: TB) { frames := 0, cells := 0, slots := 0, locals := 0 } (PC2 D T sq sv [.ref z1, .int p1] (w1) sz) (Ql (S := Unit) (fun (r : Int64) (_ : Unit) => True) (fun (_ : Unit) => w1) D (va_A (w1) sz)) 0 0 (va_A (w1) sz) := by
  obtain ⟨x4646, x4647, f4648, rfl, hx4646, hx4647⟩ := hw1
  refine ct_begin2 (Qc := Ql (S := Unit) (fun (r : Int64) (_ : Unit) => True) (fun (_ : Unit) => ([(z1, .inr (3, [.ref z2, .int x4646, .int x4647])), (z2, .inl (T 1, 65, .inr (.inl f4648)))] : va_W)) D) (by decide +kernel) (Nat.le_of_ble_eq_true rfl) ?_
  intro p e s m below meth c A ls C0 hr hlocks hnm hE hStr hA hP hD hl
  generalize ([.ref z1, .int p1] : List Value).toArray = args at C0 ⊢
  have hx := C0.1
  have hb := C0.2.1
  have hml := C0.2.2.1
  have hown := C0.2.2.2.1
  have hT := C0.2.2.2.2
  have hK := hE.1
  generalize hH : s.heap = H at hP ⊢
  have hS : va_S A s.heap H [] := by rw [← hH]; exact va_S.rf
  have hP : va_P D vwCl [(z1, .inr (3, [.ref z2, .int x4646, .int x4647])), (z2, .inl (T 1, 65, .inr (.inl f4648)))] H := hP
  have hD : va_D A [(z1, .inr (3, [.ref z2, .int x4646, .int x4647])), (z2, .inl (T 1, 65, .inr (.inl f4648)))] := hD
  have hl : lv_has ls 5 [(0, .ref z1), (1, .int p1)] := hl
  refine lv_lconst (v := 0) hx hb dX3_from_0 (by decide) ?_
  refine lv_lstore_n (lv' := [(2, .long 0), (0, .ref z1), (1, .int p1)]) hx hb dX3_from_1 rfl hl (by decide) rfl (fun ls hl => ?_)
  refine lv_iload_n hx hb dX3_from_2 rfl (lv_at hl 2 rfl) ?_
  refine lv_istore (lv' := [(4, .int p1), (2, .long 0), (0, .ref z1), (1, .int p1)]) hx hb dX3_from_3 hl (by decide) rfl (fun ls hl => ?_)
  have L4659 : ∀ (n : Nat) (x4653 : Int32) (x4654 : Int64) (H : Heap) (locs : List Loc) (ls : Array Slot), (0 ≤ x4653.toInt ∧ x4653.toInt ≤ 65) → (66 - x4653.toInt).toNat < n → va_P D vwCl [(z1, .inr (3, [.ref z2, .int x4646, .int x4647])), (z2, .inl (T 1, 65, .inr (.inl f4648)))] H → va_D A [(z1, .inr (3, [.ref z2, .int x4646, .int x4647])), (z2, .inl (T 1, 65, .inr (.inl f4648)))] → va_S A s.heap H locs → lv_has ls 5 [(4, .int x4653), (2, .long x4654), (0, .ref z1), (1, .int p1)] → W p l e { frames := 0, cells := 0, slots := 0, locals := 0 } s m args below meth c H locs 0 0 (MQ below ((Ql (S := Unit) (fun (r : Int64) (_ : Unit) => True) (fun (_ : Unit) => ([(z1, .inr (3, [.ref z2, .int x4646, .int x4647])), (z2, .inl (T 1, 65, .inr (.inl f4648)))] : va_W)) D) A) args s 0 0 A) (F0 m 5 ls []) := by
    intro n
    induction n with
    | zero =>
      intro x4653 x4654 H locs ls hx4653 hms hP hD hS hl
      exact absurd hms (Nat.not_lt_zero _)
    | succ n ih =>
      intro x4653 x4654 H locs ls hx4653 hms hP hD hS hl
      refine lv_iload hx hb dX3_from_5 (lv_at hl 0 rfl) ?_
      refine lv_aload_n hx hb dX3_from_7 rfl (lv_at hl 2 rfl) ?_
      refine r_get (v := .int x4646) C0 hE ffX3_1 mw_138 hP 0 rfl rfl dX3_from_8 ?_
      refine lv_icmp_gt (tgt := 30) hx hb dX3_from_11 (by decide) (fun c4660 => ?_) (fun c4660 => ?_)
      · skip
        have kc4660 : x4646.toInt < x4653.toInt := lt_ti rfl rfl c4660
        refine lv_lload_n hx hb dX3_from_30 rfl (lv_at hl 1 rfl) ?_
        exact r_lret () C0 hr hlocks hS (Nat.le_refl _) (Nat.le_refl _) dX3_from_31 trivial (hP.sub (ws' := [(z1, .inr (3, [.ref z2, .int x4646, .int x4647])), (z2, .inl (T 1, 65, .inr (.inl f4648)))]) [0, 1] rfl) (hD.sub (ws' := [(z1, .inr (3, [.ref z2, .int x4646, .int x4647])), (z2, .inl (T 1, 65, .inr (.inl f4648)))]) [0, 1] (by decide +kernel) rfl)
      · skip
        have kc4660 : x4653.toInt ≤ x4646.toInt := nlt_ti rfl rfl c4660
        refine lv_lload_n hx hb dX3_from_14 rfl (lv_at hl 1 rfl) ?_
        refine lv_aload_n hx hb dX3_from_15 rfl (lv_at hl 2 rfl) ?_
        refine r_get (v := .ref z2) C0 hE ffX3_0 mw_137 hP 0 rfl rfl dX3_from_16 ?_
        refine lv_iload hx hb dX3_from_19 (lv_at hl 0 rfl) ?_
        refine va_lald hx hb hK hP 1 1 rfl rfl (in_ti rfl (by omega) (by omega)) dX3_from_21 ?_
        refine lv_topl (fun x4664 ex4664 => ?_)
        refine lv_ladd hx hb dX3_from_22 ?_
        refine lv_topl (fun x4665 ex4665 => ?_)
        refine lv_lstore_n (lv' := [(2, .long x4665), (4, .int x4653), (0, .ref z1), (1, .int p1)]) hx hb dX3_from_23 rfl hl (by decide) rfl (fun ls hl => ?_)
        obtain ⟨x4666, ex4666⟩ : ∃ y : Int32, y = x4653 + 1 := ⟨_, rfl⟩
        have hx4666 : x4666.toInt = x4653.toInt + 1 := ti_add ex4666 rfl (by decide) (by omega) (by omega)
        refine lv_iinc (v := x4666) (lv' := [(4, .int x4666), (2, .long x4665), (0, .ref z1), (1, .int p1)]) hx hb dX3_from_24 hl (k := 1) rfl (by rw [ex4666]; rfl) (by decide) rfl (fun ls hl => ?_)
        refine lv_goto (tgt := 5) hx hb dX3_from_27 (by decide) ?_
        exact ih x4666 x4665 _ _ ls ⟨by omega, by omega⟩ (by omega) (hP.sub (ws' := [(z1, .inr (3, [.ref z2, .int x4646, .int x4647])), (z2, .inl (T 1, 65, .inr (.inl f4648)))]) [0, 1] rfl) (hD.sub (ws' := [(z1, .inr (3, [.ref z2, .int x4646, .int x4647])), (z2, .inl (T 1, 65, .inr (.inl f4648)))]) [0, 1] (by decide +kernel) rfl) hS (lv_sub hl [0, 1, 2, 3] rfl)
  exact L4659 _ p1 0 _ _ ls ⟨by omega, by omega⟩ (Nat.lt_succ_self _) (hP.sub (ws' := [(z1, .inr (3, [.ref z2, .int x4646, .int x4647])), (z2, .inl (T 1, 65, .inr (.inl f4648)))]) [0, 1] rfl) (hD.sub (ws' := [(z1, .inr (3, [.ref z2, .int x4646, .int x4647])), (z2, .inl (T 1, 65, .inr (.inl f4648)))]) [0, 1] (by decide +kernel) rfl) hS (lv_sub hl [0, 1, 2, 3] rfl)
set_option maxHeartbeats 4000000 in
set_option maxRecDepth 100000 in
theorem g_X3_surest_4834 (l : Launch) (D : va_G) (T : Nat → ClassId) (sq sv sz : Nat) (z1 : Nat) (z2 : Nat) (p1 : Int32) (w1 : va_W) (hw1 : B_X3 T z1 z2 w1) : Met l yX3_surest (.code yX3_surest cX3_surest 7 (some .int) :: TB) { frames := 0, cells := 0, slots := 0, locals := 0 } (PC2 D T sq sv [.ref z1, .int p1] (w1) sz) (Qi (S := Unit) (fun (r : Int32) (_ : Unit) => (0 ≤ r.toInt ∧ r.toInt ≤ 64)) (fun (_ : Unit) => w1) D (va_A (w1) sz)) 0 0 (va_A (w1) sz) := by
  obtain ⟨x4838, x4839, f4840, rfl, hx4838, hx4839⟩ := hw1
  refine ct_begin2 (Qc := Qi (S := Unit) (fun (r : Int32) (_ : Unit) => (0 ≤ r.toInt ∧ r.toInt ≤ 64)) (fun (_ : Unit) => ([(z1, .inr (3, [.ref z2, .int x4838, .int x4839])), (z2, .inl (T 1, 65, .inr (.inl f4840)))] : va_W)) D) (by decide +kernel) (Nat.le_of_ble_eq_true rfl) ?_
  intro p e s m below meth c A ls C0 hr hlocks hnm hE hStr hA hP hD hl
  generalize ([.ref z1, .int p1] : List Value).toArray = args at C0 ⊢
  have hx := C0.1
  have hb := C0.2.1
  have hml := C0.2.2.1
  have hown := C0.2.2.2.1
  have hT := C0.2.2.2.2
  have hK := hE.1
  generalize hH : s.heap = H at hP ⊢
  have hS : va_S A s.heap H [] := by rw [← hH]; exact va_S.rf
  have hP : va_P D vwCl [(z1, .inr (3, [.ref z2, .int x4838, .int x4839])), (z2, .inl (T 1, 65, .inr (.inl f4840)))] H := hP
  have hD : va_D A [(z1, .inr (3, [.ref z2, .int x4838, .int x4839])), (z2, .inl (T 1, 65, .inr (.inl f4840)))] := hD
  have hl : lv_has ls 7 [(0, .ref z1), (1, .int p1)] := hl
  refine lv_ldc2 hx hb hown (hT _ mw_626) dX3_surest_0 ?_
  refine lv_iload_n hx hb dX3_surest_3 rfl (lv_at hl 1 rfl) ?_
  refine lv_i2l hx hb dX3_surest_4 rfl ?_
  refine lv_topl (fun x4841 ex4841 => ?_)
  refine lv_lmul hx hb dX3_surest_5 ?_
  refine lv_topl (fun x4842 ex4842 => ?_)
  refine lv_ldc2 hx hb hown (hT _ mw_631) dX3_surest_6 ?_
  refine lv_ldiv hx hb dX3_surest_9 (by decide +kernel) ?_
  refine lv_topl (fun x4843 ex4843 => ?_)
  refine lv_lstore_n (lv' := [(2, .long x4843), (0, .ref z1), (1, .int p1)]) hx hb dX3_surest_10 rfl hl (by decide) rfl (fun ls hl => ?_)
  refine lv_lconst (v := 0) hx hb dX3_surest_11 (by decide) ?_
  refine lv_lstore (lv' := [(4, .long 0), (2, .long x4843), (0, .ref z1), (1, .int p1)]) hx hb dX3_surest_12 hl (by decide) rfl (fun ls hl => ?_)
  refine lv_aload_n hx hb dX3_surest_14 rfl (lv_at hl 2 rfl) ?_
  refine r_get (v := .int x4838) C0 hE ffX3_1 mw_138 hP 0 rfl rfl dX3_surest_15 ?_
  refine lv_istore (lv' := [(6, .int x4838), (4, .long 0), (2, .long x4843), (0, .ref z1), (1, .int p1)]) hx hb dX3_surest_18 hl (by decide) rfl (fun ls hl => ?_)
  have L4858 : ∀ (n : Nat) (x4850 : Int32) (x4851 : Int64) (H : Heap) (locs : List Loc) (ls : Array Slot), (-1 ≤ x4850.toInt ∧ x4850.toInt ≤ 64) → (x4850.toInt - (-2)).toNat < n → va_P D vwCl [(z1, .inr (3, [.ref z2, .int x4838, .int x4839])), (z2, .inl (T 1, 65, .inr (.inl f4840)))] H → va_D A [(z1, .inr (3, [.ref z2, .int x4838, .int x4839])), (z2, .inl (T 1, 65, .inr (.inl f4840)))] → va_S A s.heap H locs → lv_has ls 7 [(6, .int x4850), (4, .long x4851), (2, .long x4843), (0, .ref z1), (1, .int p1)] → W p l e { frames := 0, cells := 0, slots := 0, locals := 0 } s m args below meth c H locs 0 0 (MQ below ((Qi (S := Unit) (fun (r : Int32) (_ : Unit) => (0 ≤ r.toInt ∧ r.toInt ≤ 64)) (fun (_ : Unit) => ([(z1, .inr (3, [.ref z2, .int x4838, .int x4839])), (z2, .inl (T 1, 65, .inr (.inl f4840)))] : va_W)) D) A) args s 0 0 A) (F0 m 20 ls []) := by
    intro n
    induction n with
    | zero =>
      intro x4850 x4851 H locs ls hx4850 hms hP hD hS hl
      exact absurd hms (Nat.not_lt_zero _)
    | succ n ih =>
      intro x4850 x4851 H locs ls hx4850 hms hP hD hS hl
      refine lv_iload hx hb dX3_surest_20 (lv_at hl 0 rfl) ?_
      refine lv_if_lt (tgt := 53) hx hb dX3_surest_22 (by decide) (fun c4859 => ?_) (fun c4859 => ?_)
      · skip
        have kc4859 : x4850.toInt < 0 := lt_ti rfl (by decide) c4859
        refine lv_iconst (v := 0) hx hb dX3_surest_53 (by decide) ?_
        exact r_iret () C0 hr hlocks hS (Nat.le_refl _) (Nat.le_refl _) dX3_surest_54 ⟨by decide, by decide⟩ (hP.sub (ws' := [(z1, .inr (3, [.ref z2, .int x4838, .int x4839])), (z2, .inl (T 1, 65, .inr (.inl f4840)))]) [0, 1] rfl) (hD.sub (ws' := [(z1, .inr (3, [.ref z2, .int x4838, .int x4839])), (z2, .inl (T 1, 65, .inr (.inl f4840)))]) [0, 1] (by decide +kernel) rfl)
      · skip
        have kc4859 : 0 ≤ x4850.toInt := nlt_ti rfl (by decide) c4859
        refine lv_lload hx hb dX3_surest_25 (lv_at hl 1 rfl) ?_
        refine lv_aload_n hx hb dX3_surest_27 rfl (lv_at hl 3 rfl) ?_
        refine r_get (v := .ref z2) C0 hE ffX3_0 mw_137 hP 0 rfl rfl dX3_surest_28 ?_
        refine lv_iload hx hb dX3_surest_31 (lv_at hl 0 rfl) ?_
        refine va_lald hx hb hK hP 1 1 rfl rfl (in_ti rfl (by omega) (by omega)) dX3_surest_33 ?_
        refine lv_topl (fun x4860 ex4860 => ?_)
        refine lv_ladd hx hb dX3_surest_34 ?_
        refine lv_topl (fun x4861 ex4861 => ?_)
        refine lv_lstore (lv' := [(4, .long x4861), (6, .int x4850), (2, .long x4843), (0, .ref z1), (1, .int p1)]) hx hb dX3_surest_35 hl (by decide) rfl (fun ls hl => ?_)
        refine lv_lload hx hb dX3_surest_37 (lv_at hl 0 rfl) ?_
        refine lv_lload_n hx hb dX3_surest_39 rfl (lv_at hl 2 rfl) ?_
        refine W.lcmp hx hb dX3_surest_40 ?_
        refine lv_topi (fun x4862 ex4862 => ?_)
        refine lv_if_lt (tgt := 47) hx hb dX3_surest_41 (by decide) (fun c4863 => ?_) (fun c4863 => ?_)
        · skip
          have kc4863 : x4862.toInt < 0 := lt_ti rfl (by decide) c4863
          obtain ⟨x4864, ex4864⟩ : ∃ y : Int32, y = x4850 + (-1) := ⟨_, rfl⟩
          have hx4864 : x4864.toInt = x4850.toInt + (-1) := ti_add ex4864 rfl (by decide) (by omega) (by omega)
          refine lv_iinc (v := x4864) (lv' := [(6, .int x4864), (4, .long x4861), (2, .long x4843), (0, .ref z1), (1, .int p1)]) hx hb dX3_surest_47 hl (k := 1) rfl (by rw [ex4864]; rfl) (by decide) rfl (fun ls hl => ?_)
          refine lv_goto (tgt := 20) hx hb dX3_surest_50 (by decide) ?_
          exact ih x4864 x4861 _ _ ls ⟨by omega, by omega⟩ (by omega) (hP.sub (ws' := [(z1, .inr (3, [.ref z2, .int x4838, .int x4839])), (z2, .inl (T 1, 65, .inr (.inl f4840)))]) [0, 1] rfl) (hD.sub (ws' := [(z1, .inr (3, [.ref z2, .int x4838, .int x4839])), (z2, .inl (T 1, 65, .inr (.inl f4840)))]) [0, 1] (by decide +kernel) rfl) hS (lv_sub hl [0, 1, 2, 3, 4] rfl)
        · skip
          have kc4863 : 0 ≤ x4862.toInt := nlt_ti rfl (by decide) c4863
          refine lv_iload hx hb dX3_surest_44 (lv_at hl 1 rfl) ?_
          exact r_iret () C0 hr hlocks hS (Nat.le_refl _) (Nat.le_refl _) dX3_surest_46 ⟨by omega, by omega⟩ (hP.sub (ws' := [(z1, .inr (3, [.ref z2, .int x4838, .int x4839])), (z2, .inl (T 1, 65, .inr (.inl f4840)))]) [0, 1] rfl) (hD.sub (ws' := [(z1, .inr (3, [.ref z2, .int x4838, .int x4839])), (z2, .inl (T 1, 65, .inr (.inl f4840)))]) [0, 1] (by decide +kernel) rfl)
  exact L4858 _ x4838 0 _ _ ls ⟨by omega, by omega⟩ (Nat.lt_succ_self _) (hP.sub (ws' := [(z1, .inr (3, [.ref z2, .int x4838, .int x4839])), (z2, .inl (T 1, 65, .inr (.inl f4840)))]) [0, 1] rfl) (hD.sub (ws' := [(z1, .inr (3, [.ref z2, .int x4838, .int x4839])), (z2, .inl (T 1, 65, .inr (.inl f4840)))]) [0, 1] (by decide +kernel) rfl) hS (lv_sub hl [0, 1, 2, 3, 4] rfl)
def B_X6 (T : Nat → ClassId) (a r0 r1 r2 r3 : Nat) (w : va_W) : Prop := ∃ (v4 : Int32), ∃ (v5 : Int64), ∃ (v6 : Int32), ∃ (g0 : Nat → Int32), ∃ (g1 : Nat → Int32), ∃ (g2 : Nat → Int32), ∃ (g3 : Nat → Int32), w = [(a, .inr (6, [.ref r0, .ref r1, .ref r2, .ref r3, .int v4, .long v5, .int v6])), (r0, .inl (T 0, 64, .inl g0)), (r1, .inl (T 0, 64, .inl g1)), (r2, .inl (T 0, 64, .inl g2)), (r3, .inl (T 0, 64, .inl g3))] ∧ (0 ≤ v4.toInt ∧ v4.toInt ≤ 64) ∧ (0 ≤ v6.toInt ∧ v6.toInt ≤ 1)
set_option maxHeartbeats 4000000 in
set_option maxRecDepth 100000 in
theorem g_X6_insert_5172 (l : Launch) (D : va_G) (T : Nat → ClassId) (sq sv sz : Nat) (z1 : Nat) (z2 : Nat) (z3 : Nat) (z4 : Nat) (z5 : Nat) (p1 : Int32) (p2 : Int32) (p3 : Int32) (p4 : Int32) (w1 : va_W) (hw1 : B_X6 T z1 z2 z3 z4 z5 w1) : Met l yX6_insert (.code yX6_insert cX6_insert 7 none :: TB) { frames := 0, cells := 0, slots := 0, locals := 0 } (PC2 D T sq sv [.ref z1, .int p1, .int p2, .int p3, .int p4] (w1) sz) (Qv2 (S := va_W) (fun (u0 : va_W) => B_X6 T z1 z2 z3 z4 z5 u0 ∧ fv u0 5 = fv w1 5 ∧ fv u0 6 = fv w1 6) (fun (u0 : va_W) => u0) D (va_A (w1) sz)) 0 0 (va_A (w1) sz) := by
  obtain ⟨x5180, x5181, x5182, f5183, f5184, f5185, f5186, rfl, hx5180, hx5182⟩ := hw1
  refine ct_begin2 (Qc := Qv2 (S := va_W) (fun (u0 : va_W) => B_X6 T z1 z2 z3 z4 z5 u0 ∧ fv u0 5 = fv ([(z1, .inr (6, [.ref z2, .ref z3, .ref z4, .ref z5, .int x5180, .long x5181, .int x5182])), (z2, .inl (T 0, 64, .inl f5183)), (z3, .inl (T 0, 64, .inl f5184)), (z4, .inl (T 0, 64, .inl f5185)), (z5, .inl (T 0, 64, .inl f5186))] : va_W) 5 ∧ fv u0 6 = fv ([(z1, .inr (6, [.ref z2, .ref z3, .ref z4, .ref z5, .int x5180, .long x5181, .int x5182])), (z2, .inl (T 0, 64, .inl f5183)), (z3, .inl (T 0, 64, .inl f5184)), (z4, .inl (T 0, 64, .inl f5185)), (z5, .inl (T 0, 64, .inl f5186))] : va_W) 6) (fun (u0 : va_W) => u0) D) (by decide +kernel) (Nat.le_of_ble_eq_true rfl) ?_
  intro p e s m below meth c A ls C0 hr hlocks hnm hE hStr hA hP hD hl
  generalize ([.ref z1, .int p1, .int p2, .int p3, .int p4] : List Value).toArray = args at C0 ⊢
  have hx := C0.1
  have hb := C0.2.1
  have hml := C0.2.2.1
  have hown := C0.2.2.2.1
  have hT := C0.2.2.2.2
  have hK := hE.1
  generalize hH : s.heap = H at hP ⊢
  have hS : va_S A s.heap H [] := by rw [← hH]; exact va_S.rf
  have hP : va_P D vwCl [(z1, .inr (6, [.ref z2, .ref z3, .ref z4, .ref z5, .int x5180, .long x5181, .int x5182])), (z2, .inl (T 0, 64, .inl f5183)), (z3, .inl (T 0, 64, .inl f5184)), (z4, .inl (T 0, 64, .inl f5185)), (z5, .inl (T 0, 64, .inl f5186))] H := hP
  have hD : va_D A [(z1, .inr (6, [.ref z2, .ref z3, .ref z4, .ref z5, .int x5180, .long x5181, .int x5182])), (z2, .inl (T 0, 64, .inl f5183)), (z3, .inl (T 0, 64, .inl f5184)), (z4, .inl (T 0, 64, .inl f5185)), (z5, .inl (T 0, 64, .inl f5186))] := hD
  have hl : lv_has ls 7 [(0, .ref z1), (1, .int p1), (2, .int p2), (3, .int p3), (4, .int p4)] := hl
  refine lv_aload_n hx hb dX6_insert_0 rfl (lv_at hl 0 rfl) ?_
  refine r_get (v := .int x5180) C0 hE ffX6_4 mw_101 hP 0 rfl rfl dX6_insert_1 ?_
  refine lv_bipush (v := 64) hx hb dX6_insert_4 (by decide) ?_
  refine lv_icmp_lt (tgt := 10) hx hb dX6_insert_6 (by decide) (fun c5187 => ?_) (fun c5187 => ?_)
  · skip
    have kc5187 : x5180.toInt < 64 := lt_ti rfl (by decide) c5187
    refine lv_aload_n hx hb dX6_insert_10 rfl (lv_at hl 0 rfl) ?_
    refine r_get (v := .int x5180) C0 hE ffX6_4 mw_101 hP 0 rfl rfl dX6_insert_11 ?_
    refine lv_istore (lv' := [(5, .int x5180), (0, .ref z1), (1, .int p1), (2, .int p2), (3, .int p3), (4, .int p4)]) hx hb dX6_insert_14 hl (by decide) rfl (fun ls hl => ?_)
    refine lv_iload_n hx hb dX6_insert_16 rfl (lv_at hl 4 rfl) ?_
    refine lv_iload_n hx hb dX6_insert_17 rfl (lv_at hl 3 rfl) ?_
    refine lv_imul hx hb dX6_insert_18 ?_
    refine lv_topi (fun x5188 ex5188 => ?_)
    refine lv_iload hx hb dX6_insert_19 (lv_at hl 5 rfl) ?_
    refine lv_iadd hx hb dX6_insert_21 ?_
    refine lv_topi (fun x5189 ex5189 => ?_)
    refine lv_istore (lv' := [(6, .int x5189), (5, .int x5180), (0, .ref z1), (1, .int p1), (2, .int p2), (3, .int p3), (4, .int p4)]) hx hb dX6_insert_22 hl (by decide) rfl (fun ls hl => ?_)
    have J5252 : ∀ (x5247 : Int32) (f5248 : Nat → Int32) (f5249 : Nat → Int32) (f5250 : Nat → Int32) (f5251 : Nat → Int32) (H : Heap) (locs : List Loc) (ls : Array Slot), (0 ≤ x5247.toInt ∧ x5247.toInt ≤ 63) → va_P D vwCl [(z1, .inr (6, [.ref z2, .ref z3, .ref z4, .ref z5, .int x5180, .long x5181, .int x5182])), (z2, .inl (T 0, 64, .inl f5248)), (z3, .inl (T 0, 64, .inl f5249)), (z4, .inl (T 0, 64, .inl f5250)), (z5, .inl (T 0, 64, .inl f5251))] H → va_D A [(z1, .inr (6, [.ref z2, .ref z3, .ref z4, .ref z5, .int x5180, .long x5181, .int x5182])), (z2, .inl (T 0, 64, .inl f5248)), (z3, .inl (T 0, 64, .inl f5249)), (z4, .inl (T 0, 64, .inl f5250)), (z5, .inl (T 0, 64, .inl f5251))] → va_S A s.heap H locs → lv_has ls 7 [(6, .int x5189), (5, .int x5247), (0, .ref z1), (1, .int p1), (2, .int p2), (3, .int p3), (4, .int p4)] → W p l e { frames := 0, cells := 0, slots := 0, locals := 0 } s m args below meth c H locs 0 0 (MQ below ((Qv2 (S := va_W) (fun (u0 : va_W) => B_X6 T z1 z2 z3 z4 z5 u0 ∧ fv u0 5 = fv ([(z1, .inr (6, [.ref z2, .ref z3, .ref z4, .ref z5, .int x5180, .long x5181, .int x5182])), (z2, .inl (T 0, 64, .inl f5183)), (z3, .inl (T 0, 64, .inl f5184)), (z4, .inl (T 0, 64, .inl f5185)), (z5, .inl (T 0, 64, .inl f5186))] : va_W) 5 ∧ fv u0 6 = fv ([(z1, .inr (6, [.ref z2, .ref z3, .ref z4, .ref z5, .int x5180, .long x5181, .int x5182])), (z2, .inl (T 0, 64, .inl f5183)), (z3, .inl (T 0, 64, .inl f5184)), (z4, .inl (T 0, 64, .inl f5185)), (z5, .inl (T 0, 64, .inl f5186))] : va_W) 6) (fun (u0 : va_W) => u0) D) A) args s 0 0 A) (F0 m 130 ls []) := by
      intro x5247 f5248 f5249 f5250 f5251 H locs ls hx5247 hP hD hS hl
      refine lv_aload_n hx hb dX6_insert_130 rfl (lv_at hl 2 rfl) ?_
      refine r_get (v := .ref z2) C0 hE ffX6_0 mw_95 hP 0 rfl rfl dX6_insert_131 ?_
      refine lv_iload hx hb dX6_insert_134 (lv_at hl 1 rfl) ?_
      refine lv_iload_n hx hb dX6_insert_136 rfl (lv_at hl 3 rfl) ?_
      refine r_iastO hx hb hK hP hD hS 1 rfl (in_ti rfl (by omega) (by omega)) dX6_insert_137 (fun f5253 H locs hP hD hS => ?_)
      have hP : va_P D vwCl [(z1, .inr (6, [.ref z2, .ref z3, .ref z4, .ref z5, .int x5180, .long x5181, .int x5182])), (z2, .inl (T 0, 64, .inl f5253)), (z3, .inl (T 0, 64, .inl f5249)), (z4, .inl (T 0, 64, .inl f5250)), (z5, .inl (T 0, 64, .inl f5251))] H := hP
      have hD : va_D A [(z1, .inr (6, [.ref z2, .ref z3, .ref z4, .ref z5, .int x5180, .long x5181, .int x5182])), (z2, .inl (T 0, 64, .inl f5253)), (z3, .inl (T 0, 64, .inl f5249)), (z4, .inl (T 0, 64, .inl f5250)), (z5, .inl (T 0, 64, .inl f5251))] := hD
      refine lv_aload_n hx hb dX6_insert_138 rfl (lv_at hl 2 rfl) ?_
      refine r_get (v := .ref z3) C0 hE ffX6_1 mw_97 hP 0 rfl rfl dX6_insert_139 ?_
      refine lv_iload hx hb dX6_insert_142 (lv_at hl 1 rfl) ?_
      refine lv_iload_n hx hb dX6_insert_144 rfl (lv_at hl 4 rfl) ?_
      refine r_iastO hx hb hK hP hD hS 2 rfl (in_ti rfl (by omega) (by omega)) dX6_insert_145 (fun f5254 H locs hP hD hS => ?_)
      have hP : va_P D vwCl [(z1, .inr (6, [.ref z2, .ref z3, .ref z4, .ref z5, .int x5180, .long x5181, .int x5182])), (z2, .inl (T 0, 64, .inl f5253)), (z3, .inl (T 0, 64, .inl f5254)), (z4, .inl (T 0, 64, .inl f5250)), (z5, .inl (T 0, 64, .inl f5251))] H := hP
      have hD : va_D A [(z1, .inr (6, [.ref z2, .ref z3, .ref z4, .ref z5, .int x5180, .long x5181, .int x5182])), (z2, .inl (T 0, 64, .inl f5253)), (z3, .inl (T 0, 64, .inl f5254)), (z4, .inl (T 0, 64, .inl f5250)), (z5, .inl (T 0, 64, .inl f5251))] := hD
      refine lv_aload_n hx hb dX6_insert_146 rfl (lv_at hl 2 rfl) ?_
      refine r_get (v := .ref z4) C0 hE ffX6_2 mw_99 hP 0 rfl rfl dX6_insert_147 ?_
      refine lv_iload hx hb dX6_insert_150 (lv_at hl 1 rfl) ?_
      refine lv_iload_n hx hb dX6_insert_152 rfl (lv_at hl 5 rfl) ?_
      refine r_iastO hx hb hK hP hD hS 3 rfl (in_ti rfl (by omega) (by omega)) dX6_insert_153 (fun f5255 H locs hP hD hS => ?_)
      have hP : va_P D vwCl [(z1, .inr (6, [.ref z2, .ref z3, .ref z4, .ref z5, .int x5180, .long x5181, .int x5182])), (z2, .inl (T 0, 64, .inl f5253)), (z3, .inl (T 0, 64, .inl f5254)), (z4, .inl (T 0, 64, .inl f5255)), (z5, .inl (T 0, 64, .inl f5251))] H := hP
      have hD : va_D A [(z1, .inr (6, [.ref z2, .ref z3, .ref z4, .ref z5, .int x5180, .long x5181, .int x5182])), (z2, .inl (T 0, 64, .inl f5253)), (z3, .inl (T 0, 64, .inl f5254)), (z4, .inl (T 0, 64, .inl f5255)), (z5, .inl (T 0, 64, .inl f5251))] := hD
      refine lv_aload_n hx hb dX6_insert_154 rfl (lv_at hl 2 rfl) ?_
      refine r_get (v := .ref z5) C0 hE ffX6_3 mw_100 hP 0 rfl rfl dX6_insert_155 ?_
      refine lv_iload hx hb dX6_insert_158 (lv_at hl 1 rfl) ?_
      refine lv_iload hx hb dX6_insert_160 (lv_at hl 0 rfl) ?_
      refine r_iastO hx hb hK hP hD hS 4 rfl (in_ti rfl (by omega) (by omega)) dX6_insert_162 (fun f5256 H locs hP hD hS => ?_)
      have hP : va_P D vwCl [(z1, .inr (6, [.ref z2, .ref z3, .ref z4, .ref z5, .int x5180, .long x5181, .int x5182])), (z2, .inl (T 0, 64, .inl f5253)), (z3, .inl (T 0, 64, .inl f5254)), (z4, .inl (T 0, 64, .inl f5255)), (z5, .inl (T 0, 64, .inl f5256))] H := hP
      have hD : va_D A [(z1, .inr (6, [.ref z2, .ref z3, .ref z4, .ref z5, .int x5180, .long x5181, .int x5182])), (z2, .inl (T 0, 64, .inl f5253)), (z3, .inl (T 0, 64, .inl f5254)), (z4, .inl (T 0, 64, .inl f5255)), (z5, .inl (T 0, 64, .inl f5256))] := hD
      refine lv_aload_n hx hb dX6_insert_163 rfl (lv_at hl 2 rfl) ?_
      refine lv_dup hx hb dX6_insert_164 rfl ?_
      refine r_get (v := .int x5180) C0 hE ffX6_4 mw_101 hP 0 rfl rfl dX6_insert_165 ?_
      refine lv_iconst (v := 1) hx hb dX6_insert_168 (by decide) ?_
      refine lv_iadd hx hb dX6_insert_169 ?_
      refine lv_topi (fun x5257 ex5257 => ?_)
      have hx5257 : x5257.toInt = x5180.toInt + 1 := ti_add ex5257 rfl (by decide) (by omega) (by omega)
      refine r_put (v := .int x5257) (ty := .int) (fs1 := [.ref z2, .ref z3, .ref z4, .ref z5, .int x5257, .long x5181, .int x5182]) (ws1 := [(z1, .inr (6, [.ref z2, .ref z3, .ref z4, .ref z5, .int x5257, .long x5181, .int x5182])), (z2, .inl (T 0, 64, .inl f5253)), (z3, .inl (T 0, 64, .inl f5254)), (z4, .inl (T 0, 64, .inl f5255)), (z5, .inl (T 0, 64, .inl f5256))]) C0 hE ffX6_4 tyX6 tyX6_ok nmX6 mw_101 pf_1358 hP hD hS 0 rfl rfl rfl (Nat.le_of_ble_eq_true rfl) rfl rfl dX6_insert_170 (fun H locs hP hD hS => ?_)
      exact r_vret2 ([(z1, .inr (6, [.ref z2, .ref z3, .ref z4, .ref z5, .int x5257, .long x5181, .int x5182])), (z2, .inl (T 0, 64, .inl f5253)), (z3, .inl (T 0, 64, .inl f5254)), (z4, .inl (T 0, 64, .inl f5255)), (z5, .inl (T 0, 64, .inl f5256))] : va_W) C0 hr hlocks hS (Nat.le_refl _) (Nat.le_refl _) dX6_insert_173 ⟨⟨x5257, x5181, x5182, f5253, f5254, f5255, f5256, rfl, ⟨by omega, by omega⟩, ⟨by omega, by omega⟩⟩, rfl, rfl⟩ (hP.sub (ws' := [(z1, .inr (6, [.ref z2, .ref z3, .ref z4, .ref z5, .int x5257, .long x5181, .int x5182])), (z2, .inl (T 0, 64, .inl f5253)), (z3, .inl (T 0, 64, .inl f5254)), (z4, .inl (T 0, 64, .inl f5255)), (z5, .inl (T 0, 64, .inl f5256))]) [0, 1, 2, 3, 4] rfl) (hD.sub (ws' := [(z1, .inr (6, [.ref z2, .ref z3, .ref z4, .ref z5, .int x5257, .long x5181, .int x5182])), (z2, .inl (T 0, 64, .inl f5253)), (z3, .inl (T 0, 64, .inl f5254)), (z4, .inl (T 0, 64, .inl f5255)), (z5, .inl (T 0, 64, .inl f5256))]) [0, 1, 2, 3, 4] (by decide +kernel) rfl)
    have L5258 : ∀ (n : Nat) (x5216 : Int32) (f5217 : Nat → Int32) (f5218 : Nat → Int32) (f5219 : Nat → Int32) (f5220 : Nat → Int32) (H : Heap) (locs : List Loc) (ls : Array Slot), (0 ≤ x5216.toInt ∧ x5216.toInt ≤ 63) → (x5216.toInt - (-1)).toNat < n → va_P D vwCl [(z1, .inr (6, [.ref z2, .ref z3, .ref z4, .ref z5, .int x5180, .long x5181, .int x5182])), (z2, .inl (T 0, 64, .inl f5217)), (z3, .inl (T 0, 64, .inl f5218)), (z4, .inl (T 0, 64, .inl f5219)), (z5, .inl (T 0, 64, .inl f5220))] H → va_D A [(z1, .inr (6, [.ref z2, .ref z3, .ref z4, .ref z5, .int x5180, .long x5181, .int x5182])), (z2, .inl (T 0, 64, .inl f5217)), (z3, .inl (T 0, 64, .inl f5218)), (z4, .inl (T 0, 64, .inl f5219)), (z5, .inl (T 0, 64, .inl f5220))] → va_S A s.heap H locs → lv_has ls 7 [(6, .int x5189), (5, .int x5216), (0, .ref z1), (1, .int p1), (2, .int p2), (3, .int p3), (4, .int p4)] → W p l e { frames := 0, cells := 0, slots := 0, locals := 0 } s m args below meth c H locs 0 0 (MQ below ((Qv2 (S := va_W) (fun (u0 : va_W) => B_X6 T z1 z2 z3 z4 z5 u0 ∧ fv u0 5 = fv ([(z1, .inr (6, [.ref z2, .ref z3, .ref z4, .ref z5, .int x5180, .long x5181, .int x5182])), (z2, .inl (T 0, 64, .inl f5183)), (z3, .inl (T 0, 64, .inl f5184)), (z4, .inl (T 0, 64, .inl f5185)), (z5, .inl (T 0, 64, .inl f5186))] : va_W) 5 ∧ fv u0 6 = fv ([(z1, .inr (6, [.ref z2, .ref z3, .ref z4, .ref z5, .int x5180, .long x5181, .int x5182])), (z2, .inl (T 0, 64, .inl f5183)), (z3, .inl (T 0, 64, .inl f5184)), (z4, .inl (T 0, 64, .inl f5185)), (z5, .inl (T 0, 64, .inl f5186))] : va_W) 6) (fun (u0 : va_W) => u0) D) A) args s 0 0 A) (F0 m 24 ls []) := by
      intro n
      induction n with
      | zero =>
        intro x5216 f5217 f5218 f5219 f5220 H locs ls hx5216 hms hP hD hS hl
        exact absurd hms (Nat.not_lt_zero _)
      | succ n ih =>
        intro x5216 f5217 f5218 f5219 f5220 H locs ls hx5216 hms hP hD hS hl
        refine lv_iload hx hb dX6_insert_24 (lv_at hl 1 rfl) ?_
        refine lv_if_le (tgt := 130) hx hb dX6_insert_26 (by decide) (fun c5259 => ?_) (fun c5259 => ?_)
        · skip
          have kc5259 : x5216.toInt ≤ 0 := le_ti rfl (by decide) c5259
          exact J5252 x5216 f5217 f5218 f5219 f5220 _ _ ls ⟨by omega, by omega⟩ (hP.sub (ws' := [(z1, .inr (6, [.ref z2, .ref z3, .ref z4, .ref z5, .int x5180, .long x5181, .int x5182])), (z2, .inl (T 0, 64, .inl f5217)), (z3, .inl (T 0, 64, .inl f5218)), (z4, .inl (T 0, 64, .inl f5219)), (z5, .inl (T 0, 64, .inl f5220))]) [0, 1, 2, 3, 4] rfl) (hD.sub (ws' := [(z1, .inr (6, [.ref z2, .ref z3, .ref z4, .ref z5, .int x5180, .long x5181, .int x5182])), (z2, .inl (T 0, 64, .inl f5217)), (z3, .inl (T 0, 64, .inl f5218)), (z4, .inl (T 0, 64, .inl f5219)), (z5, .inl (T 0, 64, .inl f5220))]) [0, 1, 2, 3, 4] (by decide +kernel) rfl) hS (lv_sub hl [0, 1, 2, 3, 4, 5, 6] rfl)
        · skip
          have kc5259 : 0 < x5216.toInt := nle_ti rfl (by decide) c5259
          refine lv_aload_n hx hb dX6_insert_29 rfl (lv_at hl 2 rfl) ?_
          refine r_get (v := .ref z5) C0 hE ffX6_3 mw_100 hP 0 rfl rfl dX6_insert_30 ?_
          refine lv_iload hx hb dX6_insert_33 (lv_at hl 1 rfl) ?_
          refine lv_iconst (v := 1) hx hb dX6_insert_35 (by decide) ?_
          refine lv_isub hx hb dX6_insert_36 ?_
          refine lv_topi (fun x5260 ex5260 => ?_)
          have hx5260 : x5260.toInt = x5216.toInt - 1 := ti_sub ex5260 rfl (by decide) (by omega) (by omega)
          refine va_iald hx hb hK hP 4 0 rfl rfl (in_ti rfl (by omega) (by omega)) dX6_insert_37 ?_
          refine lv_topi (fun x5261 ex5261 => ?_)
          refine lv_i2l hx hb dX6_insert_38 rfl ?_
          refine lv_topl (fun x5262 ex5262 => ?_)
          refine lv_iload_n hx hb dX6_insert_39 rfl (lv_at hl 4 rfl) ?_
          refine lv_i2l hx hb dX6_insert_40 rfl ?_
          refine lv_topl (fun x5263 ex5263 => ?_)
          refine lv_lmul hx hb dX6_insert_41 ?_
          refine lv_topl (fun x5264 ex5264 => ?_)
          refine lv_iload hx hb dX6_insert_42 (lv_at hl 0 rfl) ?_
          refine lv_i2l hx hb dX6_insert_44 rfl ?_
          refine lv_topl (fun x5265 ex5265 => ?_)
          refine lv_aload_n hx hb dX6_insert_45 rfl (lv_at hl 2 rfl) ?_
          refine r_get (v := .ref z3) C0 hE ffX6_1 mw_97 hP 0 rfl rfl dX6_insert_46 ?_
          refine lv_iload hx hb dX6_insert_49 (lv_at hl 1 rfl) ?_
          refine lv_iconst (v := 1) hx hb dX6_insert_51 (by decide) ?_
          refine lv_isub hx hb dX6_insert_52 ?_
          refine lv_topi (fun x5266 ex5266 => ?_)
          have hx5266 : x5266.toInt = x5216.toInt - 1 := ti_sub ex5266 rfl (by decide) (by omega) (by omega)
          refine va_iald hx hb hK hP 2 0 rfl rfl (in_ti rfl (by omega) (by omega)) dX6_insert_53 ?_
          refine lv_topi (fun x5267 ex5267 => ?_)
          refine lv_i2l hx hb dX6_insert_54 rfl ?_
          refine lv_topl (fun x5268 ex5268 => ?_)
          refine lv_lmul hx hb dX6_insert_55 ?_
          refine lv_topl (fun x5269 ex5269 => ?_)
          refine W.lcmp hx hb dX6_insert_56 ?_
          refine lv_topi (fun x5270 ex5270 => ?_)
          refine lv_if_le (tgt := 130) hx hb dX6_insert_57 (by decide) (fun c5271 => ?_) (fun c5271 => ?_)
          · skip
            have kc5271 : x5270.toInt ≤ 0 := le_ti rfl (by decide) c5271
            exact J5252 x5216 f5217 f5218 f5219 f5220 _ _ ls ⟨by omega, by omega⟩ (hP.sub (ws' := [(z1, .inr (6, [.ref z2, .ref z3, .ref z4, .ref z5, .int x5180, .long x5181, .int x5182])), (z2, .inl (T 0, 64, .inl f5217)), (z3, .inl (T 0, 64, .inl f5218)), (z4, .inl (T 0, 64, .inl f5219)), (z5, .inl (T 0, 64, .inl f5220))]) [0, 1, 2, 3, 4] rfl) (hD.sub (ws' := [(z1, .inr (6, [.ref z2, .ref z3, .ref z4, .ref z5, .int x5180, .long x5181, .int x5182])), (z2, .inl (T 0, 64, .inl f5217)), (z3, .inl (T 0, 64, .inl f5218)), (z4, .inl (T 0, 64, .inl f5219)), (z5, .inl (T 0, 64, .inl f5220))]) [0, 1, 2, 3, 4] (by decide +kernel) rfl) hS (lv_sub hl [0, 1, 2, 3, 4, 5, 6] rfl)
          · skip
            have kc5271 : 0 < x5270.toInt := nle_ti rfl (by decide) c5271
            refine lv_aload_n hx hb dX6_insert_60 rfl (lv_at hl 2 rfl) ?_
            refine r_get (v := .ref z2) C0 hE ffX6_0 mw_95 hP 0 rfl rfl dX6_insert_61 ?_
            refine lv_iload hx hb dX6_insert_64 (lv_at hl 1 rfl) ?_
            refine lv_aload_n hx hb dX6_insert_66 rfl (lv_at hl 2 rfl) ?_
            refine r_get (v := .ref z2) C0 hE ffX6_0 mw_95 hP 0 rfl rfl dX6_insert_67 ?_
            refine lv_iload hx hb dX6_insert_70 (lv_at hl 1 rfl) ?_
            refine lv_iconst (v := 1) hx hb dX6_insert_72 (by decide) ?_
            refine lv_isub hx hb dX6_insert_73 ?_
            refine lv_topi (fun x5272 ex5272 => ?_)
            have hx5272 : x5272.toInt = x5216.toInt - 1 := ti_sub ex5272 rfl (by decide) (by omega) (by omega)
            refine va_iald hx hb hK hP 1 0 rfl rfl (in_ti rfl (by omega) (by omega)) dX6_insert_74 ?_
            refine lv_topi (fun x5273 ex5273 => ?_)
            refine r_iastO hx hb hK hP hD hS 1 rfl (in_ti rfl (by omega) (by omega)) dX6_insert_75 (fun f5274 H locs hP hD hS => ?_)
            have hP : va_P D vwCl [(z1, .inr (6, [.ref z2, .ref z3, .ref z4, .ref z5, .int x5180, .long x5181, .int x5182])), (z2, .inl (T 0, 64, .inl f5274)), (z3, .inl (T 0, 64, .inl f5218)), (z4, .inl (T 0, 64, .inl f5219)), (z5, .inl (T 0, 64, .inl f5220))] H := hP
            have hD : va_D A [(z1, .inr (6, [.ref z2, .ref z3, .ref z4, .ref z5, .int x5180, .long x5181, .int x5182])), (z2, .inl (T 0, 64, .inl f5274)), (z3, .inl (T 0, 64, .inl f5218)), (z4, .inl (T 0, 64, .inl f5219)), (z5, .inl (T 0, 64, .inl f5220))] := hD
            refine lv_aload_n hx hb dX6_insert_76 rfl (lv_at hl 2 rfl) ?_
            refine r_get (v := .ref z3) C0 hE ffX6_1 mw_97 hP 0 rfl rfl dX6_insert_77 ?_
            refine lv_iload hx hb dX6_insert_80 (lv_at hl 1 rfl) ?_
            refine lv_aload_n hx hb dX6_insert_82 rfl (lv_at hl 2 rfl) ?_
            refine r_get (v := .ref z3) C0 hE ffX6_1 mw_97 hP 0 rfl rfl dX6_insert_83 ?_
            refine lv_iload hx hb dX6_insert_86 (lv_at hl 1 rfl) ?_
            refine lv_iconst (v := 1) hx hb dX6_insert_88 (by decide) ?_
            refine lv_isub hx hb dX6_insert_89 ?_
            refine lv_topi (fun x5275 ex5275 => ?_)
            have hx5275 : x5275.toInt = x5216.toInt - 1 := ti_sub ex5275 rfl (by decide) (by omega) (by omega)
            refine va_iald hx hb hK hP 2 0 rfl rfl (in_ti rfl (by omega) (by omega)) dX6_insert_90 ?_
            refine lv_topi (fun x5276 ex5276 => ?_)
            refine r_iastO hx hb hK hP hD hS 2 rfl (in_ti rfl (by omega) (by omega)) dX6_insert_91 (fun f5277 H locs hP hD hS => ?_)
            have hP : va_P D vwCl [(z1, .inr (6, [.ref z2, .ref z3, .ref z4, .ref z5, .int x5180, .long x5181, .int x5182])), (z2, .inl (T 0, 64, .inl f5274)), (z3, .inl (T 0, 64, .inl f5277)), (z4, .inl (T 0, 64, .inl f5219)), (z5, .inl (T 0, 64, .inl f5220))] H := hP
            have hD : va_D A [(z1, .inr (6, [.ref z2, .ref z3, .ref z4, .ref z5, .int x5180, .long x5181, .int x5182])), (z2, .inl (T 0, 64, .inl f5274)), (z3, .inl (T 0, 64, .inl f5277)), (z4, .inl (T 0, 64, .inl f5219)), (z5, .inl (T 0, 64, .inl f5220))] := hD
            refine lv_aload_n hx hb dX6_insert_92 rfl (lv_at hl 2 rfl) ?_
            refine r_get (v := .ref z4) C0 hE ffX6_2 mw_99 hP 0 rfl rfl dX6_insert_93 ?_
            refine lv_iload hx hb dX6_insert_96 (lv_at hl 1 rfl) ?_
            refine lv_aload_n hx hb dX6_insert_98 rfl (lv_at hl 2 rfl) ?_
            refine r_get (v := .ref z4) C0 hE ffX6_2 mw_99 hP 0 rfl rfl dX6_insert_99 ?_
            refine lv_iload hx hb dX6_insert_102 (lv_at hl 1 rfl) ?_
            refine lv_iconst (v := 1) hx hb dX6_insert_104 (by decide) ?_
            refine lv_isub hx hb dX6_insert_105 ?_
            refine lv_topi (fun x5278 ex5278 => ?_)
            have hx5278 : x5278.toInt = x5216.toInt - 1 := ti_sub ex5278 rfl (by decide) (by omega) (by omega)
            refine va_iald hx hb hK hP 3 0 rfl rfl (in_ti rfl (by omega) (by omega)) dX6_insert_106 ?_
            refine lv_topi (fun x5279 ex5279 => ?_)
            refine r_iastO hx hb hK hP hD hS 3 rfl (in_ti rfl (by omega) (by omega)) dX6_insert_107 (fun f5280 H locs hP hD hS => ?_)
            have hP : va_P D vwCl [(z1, .inr (6, [.ref z2, .ref z3, .ref z4, .ref z5, .int x5180, .long x5181, .int x5182])), (z2, .inl (T 0, 64, .inl f5274)), (z3, .inl (T 0, 64, .inl f5277)), (z4, .inl (T 0, 64, .inl f5280)), (z5, .inl (T 0, 64, .inl f5220))] H := hP
            have hD : va_D A [(z1, .inr (6, [.ref z2, .ref z3, .ref z4, .ref z5, .int x5180, .long x5181, .int x5182])), (z2, .inl (T 0, 64, .inl f5274)), (z3, .inl (T 0, 64, .inl f5277)), (z4, .inl (T 0, 64, .inl f5280)), (z5, .inl (T 0, 64, .inl f5220))] := hD
            refine lv_aload_n hx hb dX6_insert_108 rfl (lv_at hl 2 rfl) ?_
            refine r_get (v := .ref z5) C0 hE ffX6_3 mw_100 hP 0 rfl rfl dX6_insert_109 ?_
            refine lv_iload hx hb dX6_insert_112 (lv_at hl 1 rfl) ?_
            refine lv_aload_n hx hb dX6_insert_114 rfl (lv_at hl 2 rfl) ?_
            refine r_get (v := .ref z5) C0 hE ffX6_3 mw_100 hP 0 rfl rfl dX6_insert_115 ?_
            refine lv_iload hx hb dX6_insert_118 (lv_at hl 1 rfl) ?_
            refine lv_iconst (v := 1) hx hb dX6_insert_120 (by decide) ?_
            refine lv_isub hx hb dX6_insert_121 ?_
            refine lv_topi (fun x5281 ex5281 => ?_)
            have hx5281 : x5281.toInt = x5216.toInt - 1 := ti_sub ex5281 rfl (by decide) (by omega) (by omega)
            refine va_iald hx hb hK hP 4 0 rfl rfl (in_ti rfl (by omega) (by omega)) dX6_insert_122 ?_
            refine lv_topi (fun x5282 ex5282 => ?_)
            refine r_iastO hx hb hK hP hD hS 4 rfl (in_ti rfl (by omega) (by omega)) dX6_insert_123 (fun f5283 H locs hP hD hS => ?_)
            have hP : va_P D vwCl [(z1, .inr (6, [.ref z2, .ref z3, .ref z4, .ref z5, .int x5180, .long x5181, .int x5182])), (z2, .inl (T 0, 64, .inl f5274)), (z3, .inl (T 0, 64, .inl f5277)), (z4, .inl (T 0, 64, .inl f5280)), (z5, .inl (T 0, 64, .inl f5283))] H := hP
            have hD : va_D A [(z1, .inr (6, [.ref z2, .ref z3, .ref z4, .ref z5, .int x5180, .long x5181, .int x5182])), (z2, .inl (T 0, 64, .inl f5274)), (z3, .inl (T 0, 64, .inl f5277)), (z4, .inl (T 0, 64, .inl f5280)), (z5, .inl (T 0, 64, .inl f5283))] := hD
            obtain ⟨x5284, ex5284⟩ : ∃ y : Int32, y = x5216 + (-1) := ⟨_, rfl⟩
            have hx5284 : x5284.toInt = x5216.toInt + (-1) := ti_add ex5284 rfl (by decide) (by omega) (by omega)
            refine lv_iinc (v := x5284) (lv' := [(5, .int x5284), (6, .int x5189), (0, .ref z1), (1, .int p1), (2, .int p2), (3, .int p3), (4, .int p4)]) hx hb dX6_insert_124 hl (k := 1) rfl (by rw [ex5284]; rfl) (by decide) rfl (fun ls hl => ?_)
            refine lv_goto (tgt := 24) hx hb dX6_insert_127 (by decide) ?_
            exact ih x5284 f5274 f5277 f5280 f5283 _ _ ls ⟨by omega, by omega⟩ (by omega) (hP.sub (ws' := [(z1, .inr (6, [.ref z2, .ref z3, .ref z4, .ref z5, .int x5180, .long x5181, .int x5182])), (z2, .inl (T 0, 64, .inl f5274)), (z3, .inl (T 0, 64, .inl f5277)), (z4, .inl (T 0, 64, .inl f5280)), (z5, .inl (T 0, 64, .inl f5283))]) [0, 1, 2, 3, 4] rfl) (hD.sub (ws' := [(z1, .inr (6, [.ref z2, .ref z3, .ref z4, .ref z5, .int x5180, .long x5181, .int x5182])), (z2, .inl (T 0, 64, .inl f5274)), (z3, .inl (T 0, 64, .inl f5277)), (z4, .inl (T 0, 64, .inl f5280)), (z5, .inl (T 0, 64, .inl f5283))]) [0, 1, 2, 3, 4] (by decide +kernel) rfl) hS (lv_sub hl [1, 0, 2, 3, 4, 5, 6] rfl)
    exact L5258 _ x5180 f5183 f5184 f5185 f5186 _ _ ls ⟨by omega, by omega⟩ (Nat.lt_succ_self _) (hP.sub (ws' := [(z1, .inr (6, [.ref z2, .ref z3, .ref z4, .ref z5, .int x5180, .long x5181, .int x5182])), (z2, .inl (T 0, 64, .inl f5183)), (z3, .inl (T 0, 64, .inl f5184)), (z4, .inl (T 0, 64, .inl f5185)), (z5, .inl (T 0, 64, .inl f5186))]) [0, 1, 2, 3, 4] rfl) (hD.sub (ws' := [(z1, .inr (6, [.ref z2, .ref z3, .ref z4, .ref z5, .int x5180, .long x5181, .int x5182])), (z2, .inl (T 0, 64, .inl f5183)), (z3, .inl (T 0, 64, .inl f5184)), (z4, .inl (T 0, 64, .inl f5185)), (z5, .inl (T 0, 64, .inl f5186))]) [0, 1, 2, 3, 4] (by decide +kernel) rfl) hS (lv_sub hl [0, 1, 2, 3, 4, 5, 6] rfl)
  · skip
    have kc5187 : 64 ≤ x5180.toInt := nlt_ti rfl (by decide) c5187
    exact r_vret2 ([(z1, .inr (6, [.ref z2, .ref z3, .ref z4, .ref z5, .int x5180, .long x5181, .int x5182])), (z2, .inl (T 0, 64, .inl f5183)), (z3, .inl (T 0, 64, .inl f5184)), (z4, .inl (T 0, 64, .inl f5185)), (z5, .inl (T 0, 64, .inl f5186))] : va_W) C0 hr hlocks hS (Nat.le_refl _) (Nat.le_refl _) dX6_insert_9 ⟨⟨x5180, x5181, x5182, f5183, f5184, f5185, f5186, rfl, ⟨by omega, by omega⟩, ⟨by omega, by omega⟩⟩, rfl, rfl⟩ (hP.sub (ws' := [(z1, .inr (6, [.ref z2, .ref z3, .ref z4, .ref z5, .int x5180, .long x5181, .int x5182])), (z2, .inl (T 0, 64, .inl f5183)), (z3, .inl (T 0, 64, .inl f5184)), (z4, .inl (T 0, 64, .inl f5185)), (z5, .inl (T 0, 64, .inl f5186))]) [0, 1, 2, 3, 4] rfl) (hD.sub (ws' := [(z1, .inr (6, [.ref z2, .ref z3, .ref z4, .ref z5, .int x5180, .long x5181, .int x5182])), (z2, .inl (T 0, 64, .inl f5183)), (z3, .inl (T 0, 64, .inl f5184)), (z4, .inl (T 0, 64, .inl f5185)), (z5, .inl (T 0, 64, .inl f5186))]) [0, 1, 2, 3, 4] (by decide +kernel) rfl)
set_option maxHeartbeats 4000000 in
set_option maxRecDepth 100000 in
theorem g_X6_loadAbove_5538 (l : Launch) (D : va_G) (T : Nat → ClassId) (sq sv sz : Nat) (z1 : Nat) (z2 : Nat) (z3 : Nat) (z4 : Nat) (z5 : Nat) (p1 : Int32) (w1 : va_W) (hw1 : B_X6 T z1 z2 z3 z4 z5 w1) (hp1 : 0 ≤ p1.toInt ∧ p1.toInt ≤ 63) : Met l yX6_loadAbove (.code yX6_loadAbove cX6_loadAbove 9 (some .long) :: TB) { frames := 1, cells := 0, slots := 0, locals := 19 } (PC2 D T sq sv [.ref z1, .int p1] (w1) sz) (Ql (S := Unit) (fun (r : Int64) (_ : Unit) => True) (fun (_ : Unit) => w1) D (va_A (w1) sz)) 0 0 (va_A (w1) sz) := by
  obtain ⟨x5546, x5547, x5548, f5549, f5550, f5551, f5552, rfl, hx5546, hx5548⟩ := hw1
  refine ct_begin2 (Qc := Ql (S := Unit) (fun (r : Int64) (_ : Unit) => True) (fun (_ : Unit) => ([(z1, .inr (6, [.ref z2, .ref z3, .ref z4, .ref z5, .int x5546, .long x5547, .int x5548])), (z2, .inl (T 0, 64, .inl f5549)), (z3, .inl (T 0, 64, .inl f5550)), (z4, .inl (T 0, 64, .inl f5551)), (z5, .inl (T 0, 64, .inl f5552))] : va_W)) D) (by decide +kernel) (Nat.le_of_ble_eq_true rfl) ?_
  intro p e s m below meth c A ls C0 hr hlocks hnm hE hStr hA hP hD hl
  generalize ([.ref z1, .int p1] : List Value).toArray = args at C0 ⊢
  have hx := C0.1
  have hb := C0.2.1
  have hml := C0.2.2.1
  have hown := C0.2.2.2.1
  have hT := C0.2.2.2.2
  have hK := hE.1
  generalize hH : s.heap = H at hP ⊢
  have hS : va_S A s.heap H [] := by rw [← hH]; exact va_S.rf
  have hP : va_P D vwCl [(z1, .inr (6, [.ref z2, .ref z3, .ref z4, .ref z5, .int x5546, .long x5547, .int x5548])), (z2, .inl (T 0, 64, .inl f5549)), (z3, .inl (T 0, 64, .inl f5550)), (z4, .inl (T 0, 64, .inl f5551)), (z5, .inl (T 0, 64, .inl f5552))] H := hP
  have hD : va_D A [(z1, .inr (6, [.ref z2, .ref z3, .ref z4, .ref z5, .int x5546, .long x5547, .int x5548])), (z2, .inl (T 0, 64, .inl f5549)), (z3, .inl (T 0, 64, .inl f5550)), (z4, .inl (T 0, 64, .inl f5551)), (z5, .inl (T 0, 64, .inl f5552))] := hD
  have hl : lv_has ls 9 [(0, .ref z1), (1, .int p1)] := hl
  refine lv_aload_n hx hb dX6_loadAbove_0 rfl (lv_at hl 0 rfl) ?_
  refine r_get (v := .ref z5) C0 hE ffX6_3 mw_100 hP 0 rfl rfl dX6_loadAbove_1 ?_
  refine lv_iload_n hx hb dX6_loadAbove_4 rfl (lv_at hl 1 rfl) ?_
  refine va_iald hx hb hK hP 4 0 rfl rfl (in_ti rfl (by omega) (by omega)) dX6_loadAbove_5 ?_
  refine lv_topi (fun x5553 ex5553 => ?_)
  refine lv_i2l hx hb dX6_loadAbove_6 rfl ?_
  refine lv_topl (fun x5554 ex5554 => ?_)
  refine lv_lstore_n (lv' := [(2, .long x5554), (0, .ref z1), (1, .int p1)]) hx hb dX6_loadAbove_7 rfl hl (by decide) rfl (fun ls hl => ?_)
  refine lv_aload_n hx hb dX6_loadAbove_8 rfl (lv_at hl 1 rfl) ?_
  refine r_get (v := .ref z3) C0 hE ffX6_1 mw_97 hP 0 rfl rfl dX6_loadAbove_9 ?_
  refine lv_iload_n hx hb dX6_loadAbove_12 rfl (lv_at hl 2 rfl) ?_
  refine va_iald hx hb hK hP 2 0 rfl rfl (in_ti rfl (by omega) (by omega)) dX6_loadAbove_13 ?_
  refine lv_topi (fun x5555 ex5555 => ?_)
  refine lv_i2l hx hb dX6_loadAbove_14 rfl ?_
  refine lv_topl (fun x5556 ex5556 => ?_)
  refine lv_lstore (lv' := [(4, .long x5556), (2, .long x5554), (0, .ref z1), (1, .int p1)]) hx hb dX6_loadAbove_15 hl (by decide) rfl (fun ls hl => ?_)
  refine lv_lconst (v := 0) hx hb dX6_loadAbove_17 (by decide) ?_
  refine lv_lstore (lv' := [(6, .long 0), (4, .long x5556), (2, .long x5554), (0, .ref z1), (1, .int p1)]) hx hb dX6_loadAbove_18 hl (by decide) rfl (fun ls hl => ?_)
  refine lv_aload_n hx hb dX6_loadAbove_20 rfl (lv_at hl 3 rfl) ?_
  refine r_get (v := .int x5546) C0 hE ffX6_4 mw_101 hP 0 rfl rfl dX6_loadAbove_21 ?_
  refine lv_iconst (v := 1) hx hb dX6_loadAbove_24 (by decide) ?_
  refine lv_isub hx hb dX6_loadAbove_25 ?_
  refine lv_topi (fun x5557 ex5557 => ?_)
  have hx5557 : x5557.toInt = x5546.toInt - 1 := ti_sub ex5557 rfl (by decide) (by omega) (by omega)
  refine lv_istore (lv' := [(8, .int x5557), (6, .long 0), (4, .long x5556), (2, .long x5554), (0, .ref z1), (1, .int p1)]) hx hb dX6_loadAbove_26 hl (by decide) rfl (fun ls hl => ?_)
  have J5600 : ∀ (x5598 : Int32) (x5599 : Int64) (H : Heap) (locs : List Loc) (ls : Array Slot), (-1 ≤ x5598.toInt ∧ x5598.toInt ≤ 63) → va_P D vwCl [(z1, .inr (6, [.ref z2, .ref z3, .ref z4, .ref z5, .int x5546, .long x5547, .int x5548])), (z2, .inl (T 0, 64, .inl f5549)), (z3, .inl (T 0, 64, .inl f5550)), (z4, .inl (T 0, 64, .inl f5551)), (z5, .inl (T 0, 64, .inl f5552))] H → va_D A [(z1, .inr (6, [.ref z2, .ref z3, .ref z4, .ref z5, .int x5546, .long x5547, .int x5548])), (z2, .inl (T 0, 64, .inl f5549)), (z3, .inl (T 0, 64, .inl f5550)), (z4, .inl (T 0, 64, .inl f5551)), (z5, .inl (T 0, 64, .inl f5552))] → va_S A s.heap H locs → lv_has ls 9 [(8, .int x5598), (6, .long x5599), (4, .long x5556), (2, .long x5554), (0, .ref z1), (1, .int p1)] → W p l e { frames := 1, cells := 0, slots := 0, locals := 19 } s m args below meth c H locs 0 0 (MQ below ((Ql (S := Unit) (fun (r : Int64) (_ : Unit) => True) (fun (_ : Unit) => ([(z1, .inr (6, [.ref z2, .ref z3, .ref z4, .ref z5, .int x5546, .long x5547, .int x5548])), (z2, .inl (T 0, 64, .inl f5549)), (z3, .inl (T 0, 64, .inl f5550)), (z4, .inl (T 0, 64, .inl f5551)), (z5, .inl (T 0, 64, .inl f5552))] : va_W)) D) A) args s 0 0 A) (F0 m 98 ls []) := by
    intro x5598 x5599 H locs ls hx5598 hP hD hS hl
    refine lv_lload hx hb dX6_loadAbove_98 (lv_at hl 1 rfl) ?_
    exact r_lret () C0 hr hlocks hS (Nat.le_refl _) (Nat.le_refl _) dX6_loadAbove_100 trivial (hP.sub (ws' := [(z1, .inr (6, [.ref z2, .ref z3, .ref z4, .ref z5, .int x5546, .long x5547, .int x5548])), (z2, .inl (T 0, 64, .inl f5549)), (z3, .inl (T 0, 64, .inl f5550)), (z4, .inl (T 0, 64, .inl f5551)), (z5, .inl (T 0, 64, .inl f5552))]) [0, 1, 2, 3, 4] rfl) (hD.sub (ws' := [(z1, .inr (6, [.ref z2, .ref z3, .ref z4, .ref z5, .int x5546, .long x5547, .int x5548])), (z2, .inl (T 0, 64, .inl f5549)), (z3, .inl (T 0, 64, .inl f5550)), (z4, .inl (T 0, 64, .inl f5551)), (z5, .inl (T 0, 64, .inl f5552))]) [0, 1, 2, 3, 4] (by decide +kernel) rfl)
  have L5601 : ∀ (n : Nat) (x5577 : Int32) (x5578 : Int64) (H : Heap) (locs : List Loc) (ls : Array Slot), (-1 ≤ x5577.toInt ∧ x5577.toInt ≤ 63) → (x5577.toInt - (-2)).toNat < n → va_P D vwCl [(z1, .inr (6, [.ref z2, .ref z3, .ref z4, .ref z5, .int x5546, .long x5547, .int x5548])), (z2, .inl (T 0, 64, .inl f5549)), (z3, .inl (T 0, 64, .inl f5550)), (z4, .inl (T 0, 64, .inl f5551)), (z5, .inl (T 0, 64, .inl f5552))] H → va_D A [(z1, .inr (6, [.ref z2, .ref z3, .ref z4, .ref z5, .int x5546, .long x5547, .int x5548])), (z2, .inl (T 0, 64, .inl f5549)), (z3, .inl (T 0, 64, .inl f5550)), (z4, .inl (T 0, 64, .inl f5551)), (z5, .inl (T 0, 64, .inl f5552))] → va_S A s.heap H locs → lv_has ls 9 [(8, .int x5577), (6, .long x5578), (4, .long x5556), (2, .long x5554), (0, .ref z1), (1, .int p1)] → W p l e { frames := 1, cells := 0, slots := 0, locals := 19 } s m args below meth c H locs 0 0 (MQ below ((Ql (S := Unit) (fun (r : Int64) (_ : Unit) => True) (fun (_ : Unit) => ([(z1, .inr (6, [.ref z2, .ref z3, .ref z4, .ref z5, .int x5546, .long x5547, .int x5548])), (z2, .inl (T 0, 64, .inl f5549)), (z3, .inl (T 0, 64, .inl f5550)), (z4, .inl (T 0, 64, .inl f5551)), (z5, .inl (T 0, 64, .inl f5552))] : va_W)) D) A) args s 0 0 A) (F0 m 28 ls []) := by
    intro n
    induction n with
    | zero =>
      intro x5577 x5578 H locs ls hx5577 hms hP hD hS hl
      exact absurd hms (Nat.not_lt_zero _)
    | succ n ih =>
      intro x5577 x5578 H locs ls hx5577 hms hP hD hS hl
      refine lv_iload hx hb dX6_loadAbove_28 (lv_at hl 0 rfl) ?_
      refine lv_if_lt (tgt := 98) hx hb dX6_loadAbove_30 (by decide) (fun c5602 => ?_) (fun c5602 => ?_)
      · skip
        have kc5602 : x5577.toInt < 0 := lt_ti rfl (by decide) c5602
        exact J5600 x5577 x5578 _ _ ls ⟨by omega, by omega⟩ (hP.sub (ws' := [(z1, .inr (6, [.ref z2, .ref z3, .ref z4, .ref z5, .int x5546, .long x5547, .int x5548])), (z2, .inl (T 0, 64, .inl f5549)), (z3, .inl (T 0, 64, .inl f5550)), (z4, .inl (T 0, 64, .inl f5551)), (z5, .inl (T 0, 64, .inl f5552))]) [0, 1, 2, 3, 4] rfl) (hD.sub (ws' := [(z1, .inr (6, [.ref z2, .ref z3, .ref z4, .ref z5, .int x5546, .long x5547, .int x5548])), (z2, .inl (T 0, 64, .inl f5549)), (z3, .inl (T 0, 64, .inl f5550)), (z4, .inl (T 0, 64, .inl f5551)), (z5, .inl (T 0, 64, .inl f5552))]) [0, 1, 2, 3, 4] (by decide +kernel) rfl) hS (lv_sub hl [0, 1, 2, 3, 4, 5] rfl)
      · skip
        have kc5602 : 0 ≤ x5577.toInt := nlt_ti rfl (by decide) c5602
        refine lv_aload_n hx hb dX6_loadAbove_33 rfl (lv_at hl 4 rfl) ?_
        refine r_get (v := .ref z5) C0 hE ffX6_3 mw_100 hP 0 rfl rfl dX6_loadAbove_34 ?_
        refine lv_iload hx hb dX6_loadAbove_37 (lv_at hl 0 rfl) ?_
        refine va_iald hx hb hK hP 4 0 rfl rfl (in_ti rfl (by omega) (by omega)) dX6_loadAbove_39 ?_
        refine lv_topi (fun x5603 ex5603 => ?_)
        refine lv_i2l hx hb dX6_loadAbove_40 rfl ?_
        refine lv_topl (fun x5604 ex5604 => ?_)
        refine lv_lload hx hb dX6_loadAbove_41 (lv_at hl 2 rfl) ?_
        refine lv_lmul hx hb dX6_loadAbove_43 ?_
        refine lv_topl (fun x5605 ex5605 => ?_)
        refine lv_lload_n hx hb dX6_loadAbove_44 rfl (lv_at hl 3 rfl) ?_
        refine lv_aload_n hx hb dX6_loadAbove_45 rfl (lv_at hl 4 rfl) ?_
        refine r_get (v := .ref z3) C0 hE ffX6_1 mw_97 hP 0 rfl rfl dX6_loadAbove_46 ?_
        refine lv_iload hx hb dX6_loadAbove_49 (lv_at hl 0 rfl) ?_
        refine va_iald hx hb hK hP 2 0 rfl rfl (in_ti rfl (by omega) (by omega)) dX6_loadAbove_51 ?_
        refine lv_topi (fun x5606 ex5606 => ?_)
        refine lv_i2l hx hb dX6_loadAbove_52 rfl ?_
        refine lv_topl (fun x5607 ex5607 => ?_)
        refine lv_lmul hx hb dX6_loadAbove_53 ?_
        refine lv_topl (fun x5608 ex5608 => ?_)
        refine W.lcmp hx hb dX6_loadAbove_54 ?_
        refine lv_topi (fun x5609 ex5609 => ?_)
        refine lv_if_ge (tgt := 61) hx hb dX6_loadAbove_55 (by decide) (fun c5610 => ?_) (fun c5610 => ?_)
        · skip
          have kc5610 : 0 ≤ x5609.toInt := le_ti (by decide) rfl c5610
          refine lv_lload hx hb dX6_loadAbove_61 (lv_at hl 1 rfl) ?_
          refine lv_aload_n hx hb dX6_loadAbove_63 rfl (lv_at hl 4 rfl) ?_
          refine r_get (v := .ref z3) C0 hE ffX6_1 mw_97 hP 0 rfl rfl dX6_loadAbove_64 ?_
          refine lv_iload hx hb dX6_loadAbove_67 (lv_at hl 0 rfl) ?_
          refine va_iald hx hb hK hP 2 0 rfl rfl (in_ti rfl (by omega) (by omega)) dX6_loadAbove_69 ?_
          refine lv_topi (fun x5611 ex5611 => ?_)
          refine lv_i2l hx hb dX6_loadAbove_70 rfl ?_
          refine lv_topl (fun x5612 ex5612 => ?_)
          refine lv_lconst (v := 0) hx hb dX6_loadAbove_71 (by decide) ?_
          refine lv_lload_n hx hb dX6_loadAbove_72 rfl (lv_at hl 3 rfl) ?_
          refine lv_aload_n hx hb dX6_loadAbove_73 rfl (lv_at hl 4 rfl) ?_
          refine r_get (v := .ref z4) C0 hE ffX6_2 mw_99 hP 0 rfl rfl dX6_loadAbove_74 ?_
          refine lv_iload hx hb dX6_loadAbove_77 (lv_at hl 0 rfl) ?_
          refine va_iald hx hb hK hP 3 0 rfl rfl (in_ti rfl (by omega) (by omega)) dX6_loadAbove_79 ?_
          refine lv_topi (fun x5613 ex5613 => ?_)
          refine lv_i2l hx hb dX6_loadAbove_80 rfl ?_
          refine lv_topl (fun x5614 ex5614 => ?_)
          refine lv_lload hx hb dX6_loadAbove_81 (lv_at hl 2 rfl) ?_
          refine lv_lmul hx hb dX6_loadAbove_83 ?_
          refine lv_topl (fun x5615 ex5615 => ?_)
          refine lv_lsub hx hb dX6_loadAbove_84 ?_
          refine lv_topl (fun x5616 ex5616 => ?_)
          refine va_mmax_long hx hb (by rw [hml]; exact hl.1.symm) hown (hT _ mw_590) (hT _ mw_567) (hT _ mw_12) (hT _ mw_568) (Nat.le_of_ble_eq_true rfl) (Nat.le_of_ble_eq_true rfl) (Nat.le_of_ble_eq_true rfl) (Nat.le_of_ble_eq_true rfl) dX6_loadAbove_85 ?_
          refine lv_topl (fun x5617 ex5617 => ?_)
          refine lv_lmul hx hb dX6_loadAbove_88 ?_
          refine lv_topl (fun x5618 ex5618 => ?_)
          refine lv_ladd hx hb dX6_loadAbove_89 ?_
          refine lv_topl (fun x5619 ex5619 => ?_)
          refine lv_lstore (lv' := [(6, .long x5619), (8, .int x5577), (4, .long x5556), (2, .long x5554), (0, .ref z1), (1, .int p1)]) hx hb dX6_loadAbove_90 hl (by decide) rfl (fun ls hl => ?_)
          obtain ⟨x5620, ex5620⟩ : ∃ y : Int32, y = x5577 + (-1) := ⟨_, rfl⟩
          have hx5620 : x5620.toInt = x5577.toInt + (-1) := ti_add ex5620 rfl (by decide) (by omega) (by omega)
          refine lv_iinc (v := x5620) (lv' := [(8, .int x5620), (6, .long x5619), (4, .long x5556), (2, .long x5554), (0, .ref z1), (1, .int p1)]) hx hb dX6_loadAbove_92 hl (k := 1) rfl (by rw [ex5620]; rfl) (by decide) rfl (fun ls hl => ?_)
          refine lv_goto (tgt := 28) hx hb dX6_loadAbove_95 (by decide) ?_
          exact ih x5620 x5619 _ _ ls ⟨by omega, by omega⟩ (by omega) (hP.sub (ws' := [(z1, .inr (6, [.ref z2, .ref z3, .ref z4, .ref z5, .int x5546, .long x5547, .int x5548])), (z2, .inl (T 0, 64, .inl f5549)), (z3, .inl (T 0, 64, .inl f5550)), (z4, .inl (T 0, 64, .inl f5551)), (z5, .inl (T 0, 64, .inl f5552))]) [0, 1, 2, 3, 4] rfl) (hD.sub (ws' := [(z1, .inr (6, [.ref z2, .ref z3, .ref z4, .ref z5, .int x5546, .long x5547, .int x5548])), (z2, .inl (T 0, 64, .inl f5549)), (z3, .inl (T 0, 64, .inl f5550)), (z4, .inl (T 0, 64, .inl f5551)), (z5, .inl (T 0, 64, .inl f5552))]) [0, 1, 2, 3, 4] (by decide +kernel) rfl) hS (lv_sub hl [0, 1, 2, 3, 4, 5] rfl)
        · skip
          have kc5610 : x5609.toInt < 0 := nle_ti (by decide) rfl c5610
          refine lv_goto (tgt := 98) hx hb dX6_loadAbove_58 (by decide) ?_
          exact J5600 x5577 x5578 _ _ ls ⟨by omega, by omega⟩ (hP.sub (ws' := [(z1, .inr (6, [.ref z2, .ref z3, .ref z4, .ref z5, .int x5546, .long x5547, .int x5548])), (z2, .inl (T 0, 64, .inl f5549)), (z3, .inl (T 0, 64, .inl f5550)), (z4, .inl (T 0, 64, .inl f5551)), (z5, .inl (T 0, 64, .inl f5552))]) [0, 1, 2, 3, 4] rfl) (hD.sub (ws' := [(z1, .inr (6, [.ref z2, .ref z3, .ref z4, .ref z5, .int x5546, .long x5547, .int x5548])), (z2, .inl (T 0, 64, .inl f5549)), (z3, .inl (T 0, 64, .inl f5550)), (z4, .inl (T 0, 64, .inl f5551)), (z5, .inl (T 0, 64, .inl f5552))]) [0, 1, 2, 3, 4] (by decide +kernel) rfl) hS (lv_sub hl [0, 1, 2, 3, 4, 5] rfl)
  exact L5601 _ x5557 0 _ _ ls ⟨by omega, by omega⟩ (Nat.lt_succ_self _) (hP.sub (ws' := [(z1, .inr (6, [.ref z2, .ref z3, .ref z4, .ref z5, .int x5546, .long x5547, .int x5548])), (z2, .inl (T 0, 64, .inl f5549)), (z3, .inl (T 0, 64, .inl f5550)), (z4, .inl (T 0, 64, .inl f5551)), (z5, .inl (T 0, 64, .inl f5552))]) [0, 1, 2, 3, 4] rfl) (hD.sub (ws' := [(z1, .inr (6, [.ref z2, .ref z3, .ref z4, .ref z5, .int x5546, .long x5547, .int x5548])), (z2, .inl (T 0, 64, .inl f5549)), (z3, .inl (T 0, 64, .inl f5550)), (z4, .inl (T 0, 64, .inl f5551)), (z5, .inl (T 0, 64, .inl f5552))]) [0, 1, 2, 3, 4] (by decide +kernel) rfl) hS (lv_sub hl [0, 1, 2, 3, 4, 5] rfl)
