set_option maxHeartbeats 4000000 in
set_option maxRecDepth 100000 in
theorem h_X11_puts_25400003 (l : Launch) (D : va_G) (T : Nat → ClassId) (sq sv sz : Nat) (a : Nat) (z : Nat → Nat) (i1 i2 i3 i4 i5 i6 i7 i8 i30 i43 i45 i46 i47 i48 i49 i50 i51 i58 i59 i65 i68 i69 i72 i78 i80 i81 i82 i87 i92 i96 i100 i103 i104 : Int32) (p1 : Int64) (g67 : Nat → Int64) (hi68 : 0 ≤ i68.toInt ∧ i68.toInt ≤ 799) : Met l yX11_puts (.code yX11_puts cX11_puts 3 none :: TB) { frames := 0, cells := 0, slots := 0, locals := 0 } (PC2 D T sq sv [.ref a, .long p1] [(a, .inr (11, OX z i1 i2 i3 i4 i5 i6 i7 i8 i30 i43 i45 i46 i47 i48 i49 i50 i51 i58 i59 i65 i68 i69 i72 i78 i80 i81 i82 i87 i92 i96 i100 i103 i104)), ((z 67), .inl (T 1, 800, .inr (.inl g67)))] sz) (Qv2 (S := Int32 × (Nat → Int64)) (fun (u : Int32 × (Nat → Int64)) => match u with | (ui68, ug67) => (1 ≤ ui68.toInt ∧ ui68.toInt ≤ 800) ∧ (ui68.toInt = i68.toInt + 1)) (fun (u : Int32 × (Nat → Int64)) => match u with | (ui68, ug67) => [(a, .inr (11, OX z i1 i2 i3 i4 i5 i6 i7 i8 i30 i43 i45 i46 i47 i48 i49 i50 i51 i58 i59 i65 ui68 i69 i72 i78 i80 i81 i82 i87 i92 i96 i100 i103 i104)), ((z 67), .inl (T 1, 800, .inr (.inl ug67)))]) D (va_A [(a, .inr (11, OX z i1 i2 i3 i4 i5 i6 i7 i8 i30 i43 i45 i46 i47 i48 i49 i50 i51 i58 i59 i65 i68 i69 i72 i78 i80 i81 i82 i87 i92 i96 i100 i103 i104)), ((z 67), .inl (T 1, 800, .inr (.inl g67)))] sz)) 0 0 (va_A [(a, .inr (11, OX z i1 i2 i3 i4 i5 i6 i7 i8 i30 i43 i45 i46 i47 i48 i49 i50 i51 i58 i59 i65 i68 i69 i72 i78 i80 i81 i82 i87 i92 i96 i100 i103 i104)), ((z 67), .inl (T 1, 800, .inr (.inl g67)))] sz) := by
  refine ct_begin2 (Qc := Qv2 (S := Int32 × (Nat → Int64)) (fun (u : Int32 × (Nat → Int64)) => match u with | (ui68, ug67) => (1 ≤ ui68.toInt ∧ ui68.toInt ≤ 800) ∧ (ui68.toInt = i68.toInt + 1)) (fun (u : Int32 × (Nat → Int64)) => match u with | (ui68, ug67) => [(a, .inr (11, OX z i1 i2 i3 i4 i5 i6 i7 i8 i30 i43 i45 i46 i47 i48 i49 i50 i51 i58 i59 i65 ui68 i69 i72 i78 i80 i81 i82 i87 i92 i96 i100 i103 i104)), ((z 67), .inl (T 1, 800, .inr (.inl ug67)))]) D) (by decide +kernel) (Nat.le_of_ble_eq_true rfl) ?_
  intro p e s m below meth c A ls C0 hr hlocks hnm hE hStr hA hP hD hl
  generalize ([.ref a, .long p1] : List Value).toArray = args at C0 ⊢
  have hx := C0.1
  have hb := C0.2.1
  have hml := C0.2.2.1
  have hown := C0.2.2.2.1
  have hT := C0.2.2.2.2
  have hK := hE.1
  generalize hH : s.heap = H at hP ⊢
  have hS : va_S A s.heap H [] := by rw [← hH]; exact va_S.rf
  have hP : va_P D vwCl [(a, .inr (11, OX z i1 i2 i3 i4 i5 i6 i7 i8 i30 i43 i45 i46 i47 i48 i49 i50 i51 i58 i59 i65 i68 i69 i72 i78 i80 i81 i82 i87 i92 i96 i100 i103 i104)), ((z 67), .inl (T 1, 800, .inr (.inl g67)))] H := hP
  have hD : va_D A [(a, .inr (11, OX z i1 i2 i3 i4 i5 i6 i7 i8 i30 i43 i45 i46 i47 i48 i49 i50 i51 i58 i59 i65 i68 i69 i72 i78 i80 i81 i82 i87 i92 i96 i100 i103 i104)), ((z 67), .inl (T 1, 800, .inr (.inl g67)))] := hD
  have hl : lv_has ls 3 [(0, .ref a), (1, .long p1)] := hl
  refine lv_aload_n hx hb dX11_puts_0 rfl (lv_at hl 0 rfl) ?_
  refine r_get (v := .ref (z 67)) C0 hE ffX11_67 mw_857 hP 0 rfl ox_67 dX11_puts_1 ?_
  refine lv_aload_n hx hb dX11_puts_4 rfl (lv_at hl 0 rfl) ?_
  refine r_get (v := .int i68) C0 hE ffX11_68 mw_858 hP 0 rfl ox_68 dX11_puts_5 ?_
  refine lv_lload_n hx hb dX11_puts_8 rfl (lv_at hl 1 rfl) ?_
  refine r_lastX hx hb hK hP hD hS 1 rfl (in_ti rfl (by omega) (by omega)) dX11_puts_9 (fun f25400004 ef25400004 H locs hP hD hS => ?_)
  have hP : va_P D vwCl [(a, .inr (11, OX z i1 i2 i3 i4 i5 i6 i7 i8 i30 i43 i45 i46 i47 i48 i49 i50 i51 i58 i59 i65 i68 i69 i72 i78 i80 i81 i82 i87 i92 i96 i100 i103 i104)), ((z 67), .inl (T 1, 800, .inr (.inl f25400004)))] H := hP
  have hD : va_D A [(a, .inr (11, OX z i1 i2 i3 i4 i5 i6 i7 i8 i30 i43 i45 i46 i47 i48 i49 i50 i51 i58 i59 i65 i68 i69 i72 i78 i80 i81 i82 i87 i92 i96 i100 i103 i104)), ((z 67), .inl (T 1, 800, .inr (.inl f25400004)))] := hD
  refine lv_aload_n hx hb dX11_puts_10 rfl (lv_at hl 0 rfl) ?_
  refine lv_dup hx hb dX11_puts_11 rfl ?_
  refine r_get (v := .int i68) C0 hE ffX11_68 mw_858 hP 0 rfl ox_68 dX11_puts_12 ?_
  refine lv_iconst (v := 1) hx hb dX11_puts_15 (by decide) ?_
  refine lv_iadd hx hb dX11_puts_16 ?_
  refine lv_topi (fun x25400005 ex25400005 => ?_)
  have hx25400005 : x25400005.toInt = i68.toInt + 1 := ti_add ex25400005 rfl (by decide) (by omega) (by omega)
  refine r_put (v := .int x25400005) (ty := .int) (ws1 := [(a, .inr (11, OX z i1 i2 i3 i4 i5 i6 i7 i8 i30 i43 i45 i46 i47 i48 i49 i50 i51 i58 i59 i65 x25400005 i69 i72 i78 i80 i81 i82 i87 i92 i96 i100 i103 i104)), ((z 67), .inl (T 1, 800, .inr (.inl f25400004)))]) C0 hE ffX11_68 tyX11 tyX11_ok nmX11 mw_858 pf_1358 hP hD hS 0 rfl rfl rfl ol_68 os_68 rfl dX11_puts_17 (fun H locs hP hD hS => ?_)
  exact r_vret2 (x25400005, f25400004) C0 hr hlocks hS (Nat.le_refl _) (Nat.le_refl _) dX11_puts_20 ⟨⟨by omega, by omega⟩, (by omega)⟩ (hP.sub (ws' := [(a, .inr (11, OX z i1 i2 i3 i4 i5 i6 i7 i8 i30 i43 i45 i46 i47 i48 i49 i50 i51 i58 i59 i65 x25400005 i69 i72 i78 i80 i81 i82 i87 i92 i96 i100 i103 i104)), ((z 67), .inl (T 1, 800, .inr (.inl f25400004)))]) [0, 1] rfl) (hD.sub (ws' := [(a, .inr (11, OX z i1 i2 i3 i4 i5 i6 i7 i8 i30 i43 i45 i46 i47 i48 i49 i50 i51 i58 i59 i65 x25400005 i69 i72 i78 i80 i81 i82 i87 i92 i96 i100 i103 i104)), ((z 67), .inl (T 1, 800, .inr (.inl f25400004)))]) [0, 1] (by decide +kernel) rfl)
set_option maxHeartbeats 4000000 in
set_option maxRecDepth 100000 in
theorem h_X11_joins_25500137 (l : Launch) (D : va_G) (T : Nat → ClassId) (sq sv sz : Nat) (a : Nat) (z : Nat → Nat) (i1 i2 i3 i4 i5 i6 i7 i8 i30 i43 i45 i46 i47 i48 i49 i50 i51 i58 i59 i65 i68 i69 i72 i78 i80 i81 i82 i87 i92 i96 i100 i103 i104 : Int32) (p1 : Int32) (g67 : Nat → Int64) (hi68 : 2 ≤ i68.toInt ∧ i68.toInt ≤ 800) : Met l yX11_joins (.code yX11_joins cX11_joins 6 none :: TB) { frames := 1, cells := 0, slots := 0, locals := 25 } (PC2 D T sq sv [.ref a, .int p1] [(a, .inr (11, OX z i1 i2 i3 i4 i5 i6 i7 i8 i30 i43 i45 i46 i47 i48 i49 i50 i51 i58 i59 i65 i68 i69 i72 i78 i80 i81 i82 i87 i92 i96 i100 i103 i104)), ((z 67), .inl (T 1, 800, .inr (.inl g67)))] sz) (Qv2 (S := Int32 × (Nat → Int64)) (fun (u : Int32 × (Nat → Int64)) => match u with | (ui68, ug67) => (1 ≤ ui68.toInt ∧ ui68.toInt ≤ 800) ∧ (ui68.toInt = i68.toInt - 1)) (fun (u : Int32 × (Nat → Int64)) => match u with | (ui68, ug67) => [(a, .inr (11, OX z i1 i2 i3 i4 i5 i6 i7 i8 i30 i43 i45 i46 i47 i48 i49 i50 i51 i58 i59 i65 ui68 i69 i72 i78 i80 i81 i82 i87 i92 i96 i100 i103 i104)), ((z 67), .inl (T 1, 800, .inr (.inl ug67)))]) D (va_A [(a, .inr (11, OX z i1 i2 i3 i4 i5 i6 i7 i8 i30 i43 i45 i46 i47 i48 i49 i50 i51 i58 i59 i65 i68 i69 i72 i78 i80 i81 i82 i87 i92 i96 i100 i103 i104)), ((z 67), .inl (T 1, 800, .inr (.inl g67)))] sz)) 0 0 (va_A [(a, .inr (11, OX z i1 i2 i3 i4 i5 i6 i7 i8 i30 i43 i45 i46 i47 i48 i49 i50 i51 i58 i59 i65 i68 i69 i72 i78 i80 i81 i82 i87 i92 i96 i100 i103 i104)), ((z 67), .inl (T 1, 800, .inr (.inl g67)))] sz) := by
  refine ct_begin2 (Qc := Qv2 (S := Int32 × (Nat → Int64)) (fun (u : Int32 × (Nat → Int64)) => match u with | (ui68, ug67) => (1 ≤ ui68.toInt ∧ ui68.toInt ≤ 800) ∧ (ui68.toInt = i68.toInt - 1)) (fun (u : Int32 × (Nat → Int64)) => match u with | (ui68, ug67) => [(a, .inr (11, OX z i1 i2 i3 i4 i5 i6 i7 i8 i30 i43 i45 i46 i47 i48 i49 i50 i51 i58 i59 i65 ui68 i69 i72 i78 i80 i81 i82 i87 i92 i96 i100 i103 i104)), ((z 67), .inl (T 1, 800, .inr (.inl ug67)))]) D) (by decide +kernel) (Nat.le_of_ble_eq_true rfl) ?_
  intro p e s m below meth c A ls C0 hr hlocks hnm hE hStr hA hP hD hl
  generalize ([.ref a, .int p1] : List Value).toArray = args at C0 ⊢
  have hx := C0.1
  have hb := C0.2.1
  have hml := C0.2.2.1
  have hown := C0.2.2.2.1
  have hT := C0.2.2.2.2
  have hK := hE.1
  generalize hH : s.heap = H at hP ⊢
  have hS : va_S A s.heap H [] := by rw [← hH]; exact va_S.rf
  have hP : va_P D vwCl [(a, .inr (11, OX z i1 i2 i3 i4 i5 i6 i7 i8 i30 i43 i45 i46 i47 i48 i49 i50 i51 i58 i59 i65 i68 i69 i72 i78 i80 i81 i82 i87 i92 i96 i100 i103 i104)), ((z 67), .inl (T 1, 800, .inr (.inl g67)))] H := hP
  have hD : va_D A [(a, .inr (11, OX z i1 i2 i3 i4 i5 i6 i7 i8 i30 i43 i45 i46 i47 i48 i49 i50 i51 i58 i59 i65 i68 i69 i72 i78 i80 i81 i82 i87 i92 i96 i100 i103 i104)), ((z 67), .inl (T 1, 800, .inr (.inl g67)))] := hD
  have hl : lv_has ls 6 [(0, .ref a), (1, .int p1)] := hl
  refine lv_aload_n hx hb dX11_joins_0 rfl (lv_at hl 0 rfl) ?_
  refine r_get (v := .ref (z 67)) C0 hE ffX11_67 mw_857 hP 0 rfl ox_67 dX11_joins_1 ?_
  refine lv_aload_n hx hb dX11_joins_4 rfl (lv_at hl 0 rfl) ?_
  refine r_get (v := .int i68) C0 hE ffX11_68 mw_858 hP 0 rfl ox_68 dX11_joins_5 ?_
  refine lv_iconst (v := 1) hx hb dX11_joins_8 (by decide) ?_
  refine lv_isub hx hb dX11_joins_9 ?_
  refine lv_topi (fun x25500138 ex25500138 => ?_)
  have hx25500138 : x25500138.toInt = i68.toInt - 1 := ti_sub ex25500138 rfl (by decide) (by omega) (by omega)
  refine va_lald hx hb hK hP 1 1 rfl rfl (in_ti rfl (by omega) (by omega)) dX11_joins_10 ?_
  refine lv_topl (fun x25500139 ex25500139 => ?_)
  refine lv_lstore_n (lv' := [(2, .long x25500139), (0, .ref a), (1, .int p1)]) hx hb dX11_joins_11 rfl hl (by decide) rfl (fun ls hl => ?_)
  refine lv_aload_n hx hb dX11_joins_12 rfl (lv_at hl 1 rfl) ?_
  refine r_get (v := .ref (z 67)) C0 hE ffX11_67 mw_857 hP 0 rfl ox_67 dX11_joins_13 ?_
  refine lv_aload_n hx hb dX11_joins_16 rfl (lv_at hl 1 rfl) ?_
  refine r_get (v := .int i68) C0 hE ffX11_68 mw_858 hP 0 rfl ox_68 dX11_joins_17 ?_
  refine lv_iconst (v := 2) hx hb dX11_joins_20 (by decide) ?_
  refine lv_isub hx hb dX11_joins_21 ?_
  refine lv_topi (fun x25500140 ex25500140 => ?_)
  have hx25500140 : x25500140.toInt = i68.toInt - 2 := ti_sub ex25500140 rfl (by decide) (by omega) (by omega)
  refine va_lald hx hb hK hP 1 1 rfl rfl (in_ti rfl (by omega) (by omega)) dX11_joins_22 ?_
  refine lv_topl (fun x25500141 ex25500141 => ?_)
  refine lv_lstore (lv' := [(4, .long x25500141), (2, .long x25500139), (0, .ref a), (1, .int p1)]) hx hb dX11_joins_23 hl (by decide) rfl (fun ls hl => ?_)
  refine lv_aload_n hx hb dX11_joins_25 rfl (lv_at hl 2 rfl) ?_
  refine lv_dup hx hb dX11_joins_26 rfl ?_
  refine r_get (v := .int i68) C0 hE ffX11_68 mw_858 hP 0 rfl ox_68 dX11_joins_27 ?_
  refine lv_iconst (v := 2) hx hb dX11_joins_30 (by decide) ?_
  refine lv_isub hx hb dX11_joins_31 ?_
  refine lv_topi (fun x25500142 ex25500142 => ?_)
  have hx25500142 : x25500142.toInt = i68.toInt - 2 := ti_sub ex25500142 rfl (by decide) (by omega) (by omega)
  refine r_put (v := .int x25500142) (ty := .int) (ws1 := [(a, .inr (11, OX z i1 i2 i3 i4 i5 i6 i7 i8 i30 i43 i45 i46 i47 i48 i49 i50 i51 i58 i59 i65 x25500142 i69 i72 i78 i80 i81 i82 i87 i92 i96 i100 i103 i104)), ((z 67), .inl (T 1, 800, .inr (.inl g67)))]) C0 hE ffX11_68 tyX11 tyX11_ok nmX11 mw_858 pf_1358 hP hD hS 0 rfl rfl rfl ol_68 os_68 rfl dX11_joins_32 (fun H locs hP hD hS => ?_)
  refine lv_iload_n hx hb dX11_joins_35 rfl (lv_at hl 3 rfl) ?_
  by_cases c25500143 : p1 = 1
  · skip
    have kc25500143 : p1.toInt = 1 := eq_ti rfl (by decide) c25500143
    refine lv_tableIn (off := 72) (tgt := 108) hx hb dX11_joins_36 (by omega) (by omega) (by rw [kc25500143]; rfl) (by decide) ?_
    refine lv_aload_n hx hb dX11_joins_108 rfl (lv_at hl 2 rfl) ?_
    refine lv_lload hx hb dX11_joins_109 (lv_at hl 0 rfl) ?_
    refine lv_lload_n hx hb dX11_joins_111 rfl (lv_at hl 1 rfl) ?_
    refine lv_ladd hx hb dX11_joins_112 ?_
    refine lv_topl (fun x25500144 ex25500144 => ?_)
    refine r_calll (wr := [(a, .inr (11, OX z i1 i2 i3 i4 i5 i6 i7 i8 i30 i43 i45 i46 i47 i48 i49 i50 i51 i58 i59 i65 x25500142 i69 i72 i78 i80 i81 i82 i87 i92 i96 i100 i103 i104)), ((z 67), .inl (T 1, 800, .inr (.inl g67)))]) (r_runS2 (As := [.long x25500144]) (rest := [.ref a]) (wc := []) C0 hE hStr hS (va_free (wc := []) hD hS hA [] rfl) (h_X11_clip_22100007 l D T sq sv H.size x25500144) mw_1101 mw_1102 mw_14 mw_1103 dn_1762 rfl rfl ⟨Nat.le_of_ble_eq_true rfl, Nat.le_of_ble_eq_true rfl⟩ (hP.sub (ws' := []) [] rfl) (hD.sub (ws' := []) [] (by decide +kernel) rfl) hl.1 rfl (Nat.le_of_ble_eq_true rfl) dX11_joins_113 ⟨Nat.le_of_ble_eq_true rfl, Nat.le_of_ble_eq_true rfl⟩) hP hD hS hA [] [0, 1] rfl rfl (by decide +kernel) (by decide +kernel) (fun x25500145 u H locs hq hP hD hS => ?_)
    have hP : va_P D vwCl [(a, .inr (11, OX z i1 i2 i3 i4 i5 i6 i7 i8 i30 i43 i45 i46 i47 i48 i49 i50 i51 i58 i59 i65 x25500142 i69 i72 i78 i80 i81 i82 i87 i92 i96 i100 i103 i104)), ((z 67), .inl (T 1, 800, .inr (.inl g67)))] H := hP
    have hD : va_D A [(a, .inr (11, OX z i1 i2 i3 i4 i5 i6 i7 i8 i30 i43 i45 i46 i47 i48 i49 i50 i51 i58 i59 i65 x25500142 i69 i72 i78 i80 i81 i82 i87 i92 i96 i100 i103 i104)), ((z 67), .inl (T 1, 800, .inr (.inl g67)))] := hD
    refine W.widen (k := 0) (n := 0) (Nat.le_refl _) (Nat.le_refl _) ?_
    refine r_callv2 (wr := []) (r_runV2 (As := [.long x25500145]) (rest := []) (wc := [(a, .inr (11, OX z i1 i2 i3 i4 i5 i6 i7 i8 i30 i43 i45 i46 i47 i48 i49 i50 i51 i58 i59 i65 x25500142 i69 i72 i78 i80 i81 i82 i87 i92 i96 i100 i103 i104)), ((z 67), .inl (T 1, 800, .inr (.inl g67)))]) (ci := 11) C0 hE hStr hS (va_free (wc := [(a, .inr (11, OX z i1 i2 i3 i4 i5 i6 i7 i8 i30 i43 i45 i46 i47 i48 i49 i50 i51 i58 i59 i65 x25500142 i69 i72 i78 i80 i81 i82 i87 i92 i96 i100 i103 i104)), ((z 67), .inl (T 1, 800, .inr (.inl g67)))]) hD hS hA [0, 1] rfl) (h_X11_puts_25400003 l D T sq sv H.size a z i1 i2 i3 i4 i5 i6 i7 i8 i30 i43 i45 i46 i47 i48 i49 i50 i51 i58 i59 i65 x25500142 i69 i72 i78 i80 i81 i82 i87 i92 i96 i100 i103 i104 x25500145 g67 ⟨by omega, by omega⟩) mw_1095 mw_1096 mw_1339 mw_14 mw_1097 dn_1764 rfl rfl ⟨Nat.le_of_ble_eq_true rfl, Nat.le_of_ble_eq_true rfl⟩ (hP.sub (ws' := [(a, .inr (11, OX z i1 i2 i3 i4 i5 i6 i7 i8 i30 i43 i45 i46 i47 i48 i49 i50 i51 i58 i59 i65 x25500142 i69 i72 i78 i80 i81 i82 i87 i92 i96 i100 i103 i104)), ((z 67), .inl (T 1, 800, .inr (.inl g67)))]) [0, 1] rfl) (hD.sub (ws' := [(a, .inr (11, OX z i1 i2 i3 i4 i5 i6 i7 i8 i30 i43 i45 i46 i47 i48 i49 i50 i51 i58 i59 i65 x25500142 i69 i72 i78 i80 i81 i82 i87 i92 i96 i100 i103 i104)), ((z 67), .inl (T 1, 800, .inr (.inl g67)))]) [0, 1] (by decide +kernel) rfl) rfl rfl rfl hl.1 rfl (Nat.le_of_ble_eq_true rfl) dX11_joins_116 ⟨Nat.le_of_ble_eq_true rfl, Nat.le_of_ble_eq_true rfl⟩) hP hD hS hA [0, 1] [] rfl rfl (by decide +kernel) (by decide +kernel) (fun u H locs hq hP hD hS => ?_)
    obtain ⟨x25500146, f25500147⟩ := u
    obtain ⟨hx25500146, hp25500148⟩ := hq
    have hx25500146 : 1 ≤ x25500146.toInt ∧ x25500146.toInt ≤ 800 := hx25500146
    have hp25500148 : x25500146.toInt = x25500142.toInt + 1 := hp25500148
    have hP : va_P D vwCl [(a, .inr (11, OX z i1 i2 i3 i4 i5 i6 i7 i8 i30 i43 i45 i46 i47 i48 i49 i50 i51 i58 i59 i65 x25500146 i69 i72 i78 i80 i81 i82 i87 i92 i96 i100 i103 i104)), ((z 67), .inl (T 1, 800, .inr (.inl f25500147)))] H := hP
    have hD : va_D A [(a, .inr (11, OX z i1 i2 i3 i4 i5 i6 i7 i8 i30 i43 i45 i46 i47 i48 i49 i50 i51 i58 i59 i65 x25500146 i69 i72 i78 i80 i81 i82 i87 i92 i96 i100 i103 i104)), ((z 67), .inl (T 1, 800, .inr (.inl f25500147)))] := hD
    refine W.widen (k := 0) (n := 0) (Nat.le_refl _) (Nat.le_refl _) ?_
    refine lv_goto (tgt := 289) hx hb dX11_joins_119 (by decide) ?_
    exact r_vret2 (x25500146, f25500147) C0 hr hlocks hS (Nat.le_refl _) (Nat.le_refl _) dX11_joins_289 ⟨⟨by omega, by omega⟩, (by omega)⟩ (hP.sub (ws' := [(a, .inr (11, OX z i1 i2 i3 i4 i5 i6 i7 i8 i30 i43 i45 i46 i47 i48 i49 i50 i51 i58 i59 i65 x25500146 i69 i72 i78 i80 i81 i82 i87 i92 i96 i100 i103 i104)), ((z 67), .inl (T 1, 800, .inr (.inl f25500147)))]) [0, 1] rfl) (hD.sub (ws' := [(a, .inr (11, OX z i1 i2 i3 i4 i5 i6 i7 i8 i30 i43 i45 i46 i47 i48 i49 i50 i51 i58 i59 i65 x25500146 i69 i72 i78 i80 i81 i82 i87 i92 i96 i100 i103 i104)), ((z 67), .inl (T 1, 800, .inr (.inl f25500147)))]) [0, 1] (by decide +kernel) rfl)
  · skip
    have kc25500143 : p1.toInt ≠ 1 := ne_ti rfl (by decide) c25500143
    by_cases c25500149 : p1 = 2
    · skip
      have kc25500149 : p1.toInt = 2 := eq_ti rfl (by decide) c25500149
      refine lv_tableIn (off := 86) (tgt := 122) hx hb dX11_joins_36 (by omega) (by omega) (by rw [kc25500149]; rfl) (by decide) ?_
      refine lv_aload_n hx hb dX11_joins_122 rfl (lv_at hl 2 rfl) ?_
      refine lv_lload hx hb dX11_joins_123 (lv_at hl 0 rfl) ?_
      refine lv_lload_n hx hb dX11_joins_125 rfl (lv_at hl 1 rfl) ?_
      refine lv_lsub hx hb dX11_joins_126 ?_
      refine lv_topl (fun x25500150 ex25500150 => ?_)
      refine r_calll (wr := [(a, .inr (11, OX z i1 i2 i3 i4 i5 i6 i7 i8 i30 i43 i45 i46 i47 i48 i49 i50 i51 i58 i59 i65 x25500142 i69 i72 i78 i80 i81 i82 i87 i92 i96 i100 i103 i104)), ((z 67), .inl (T 1, 800, .inr (.inl g67)))]) (r_runS2 (As := [.long x25500150]) (rest := [.ref a]) (wc := []) C0 hE hStr hS (va_free (wc := []) hD hS hA [] rfl) (h_X11_clip_22100007 l D T sq sv H.size x25500150) mw_1101 mw_1102 mw_14 mw_1103 dn_1762 rfl rfl ⟨Nat.le_of_ble_eq_true rfl, Nat.le_of_ble_eq_true rfl⟩ (hP.sub (ws' := []) [] rfl) (hD.sub (ws' := []) [] (by decide +kernel) rfl) hl.1 rfl (Nat.le_of_ble_eq_true rfl) dX11_joins_127 ⟨Nat.le_of_ble_eq_true rfl, Nat.le_of_ble_eq_true rfl⟩) hP hD hS hA [] [0, 1] rfl rfl (by decide +kernel) (by decide +kernel) (fun x25500151 u H locs hq hP hD hS => ?_)
      have hP : va_P D vwCl [(a, .inr (11, OX z i1 i2 i3 i4 i5 i6 i7 i8 i30 i43 i45 i46 i47 i48 i49 i50 i51 i58 i59 i65 x25500142 i69 i72 i78 i80 i81 i82 i87 i92 i96 i100 i103 i104)), ((z 67), .inl (T 1, 800, .inr (.inl g67)))] H := hP
      have hD : va_D A [(a, .inr (11, OX z i1 i2 i3 i4 i5 i6 i7 i8 i30 i43 i45 i46 i47 i48 i49 i50 i51 i58 i59 i65 x25500142 i69 i72 i78 i80 i81 i82 i87 i92 i96 i100 i103 i104)), ((z 67), .inl (T 1, 800, .inr (.inl g67)))] := hD
      refine W.widen (k := 0) (n := 0) (Nat.le_refl _) (Nat.le_refl _) ?_
      refine r_callv2 (wr := []) (r_runV2 (As := [.long x25500151]) (rest := []) (wc := [(a, .inr (11, OX z i1 i2 i3 i4 i5 i6 i7 i8 i30 i43 i45 i46 i47 i48 i49 i50 i51 i58 i59 i65 x25500142 i69 i72 i78 i80 i81 i82 i87 i92 i96 i100 i103 i104)), ((z 67), .inl (T 1, 800, .inr (.inl g67)))]) (ci := 11) C0 hE hStr hS (va_free (wc := [(a, .inr (11, OX z i1 i2 i3 i4 i5 i6 i7 i8 i30 i43 i45 i46 i47 i48 i49 i50 i51 i58 i59 i65 x25500142 i69 i72 i78 i80 i81 i82 i87 i92 i96 i100 i103 i104)), ((z 67), .inl (T 1, 800, .inr (.inl g67)))]) hD hS hA [0, 1] rfl) (h_X11_puts_25400003 l D T sq sv H.size a z i1 i2 i3 i4 i5 i6 i7 i8 i30 i43 i45 i46 i47 i48 i49 i50 i51 i58 i59 i65 x25500142 i69 i72 i78 i80 i81 i82 i87 i92 i96 i100 i103 i104 x25500151 g67 ⟨by omega, by omega⟩) mw_1095 mw_1096 mw_1339 mw_14 mw_1097 dn_1764 rfl rfl ⟨Nat.le_of_ble_eq_true rfl, Nat.le_of_ble_eq_true rfl⟩ (hP.sub (ws' := [(a, .inr (11, OX z i1 i2 i3 i4 i5 i6 i7 i8 i30 i43 i45 i46 i47 i48 i49 i50 i51 i58 i59 i65 x25500142 i69 i72 i78 i80 i81 i82 i87 i92 i96 i100 i103 i104)), ((z 67), .inl (T 1, 800, .inr (.inl g67)))]) [0, 1] rfl) (hD.sub (ws' := [(a, .inr (11, OX z i1 i2 i3 i4 i5 i6 i7 i8 i30 i43 i45 i46 i47 i48 i49 i50 i51 i58 i59 i65 x25500142 i69 i72 i78 i80 i81 i82 i87 i92 i96 i100 i103 i104)), ((z 67), .inl (T 1, 800, .inr (.inl g67)))]) [0, 1] (by decide +kernel) rfl) rfl rfl rfl hl.1 rfl (Nat.le_of_ble_eq_true rfl) dX11_joins_130 ⟨Nat.le_of_ble_eq_true rfl, Nat.le_of_ble_eq_true rfl⟩) hP hD hS hA [0, 1] [] rfl rfl (by decide +kernel) (by decide +kernel) (fun u H locs hq hP hD hS => ?_)
      obtain ⟨x25500152, f25500153⟩ := u
      obtain ⟨hx25500152, hp25500154⟩ := hq
      have hx25500152 : 1 ≤ x25500152.toInt ∧ x25500152.toInt ≤ 800 := hx25500152
      have hp25500154 : x25500152.toInt = x25500142.toInt + 1 := hp25500154
      have hP : va_P D vwCl [(a, .inr (11, OX z i1 i2 i3 i4 i5 i6 i7 i8 i30 i43 i45 i46 i47 i48 i49 i50 i51 i58 i59 i65 x25500152 i69 i72 i78 i80 i81 i82 i87 i92 i96 i100 i103 i104)), ((z 67), .inl (T 1, 800, .inr (.inl f25500153)))] H := hP
      have hD : va_D A [(a, .inr (11, OX z i1 i2 i3 i4 i5 i6 i7 i8 i30 i43 i45 i46 i47 i48 i49 i50 i51 i58 i59 i65 x25500152 i69 i72 i78 i80 i81 i82 i87 i92 i96 i100 i103 i104)), ((z 67), .inl (T 1, 800, .inr (.inl f25500153)))] := hD
      refine W.widen (k := 0) (n := 0) (Nat.le_refl _) (Nat.le_refl _) ?_
      refine lv_goto (tgt := 289) hx hb dX11_joins_133 (by decide) ?_
      exact r_vret2 (x25500152, f25500153) C0 hr hlocks hS (Nat.le_refl _) (Nat.le_refl _) dX11_joins_289 ⟨⟨by omega, by omega⟩, (by omega)⟩ (hP.sub (ws' := [(a, .inr (11, OX z i1 i2 i3 i4 i5 i6 i7 i8 i30 i43 i45 i46 i47 i48 i49 i50 i51 i58 i59 i65 x25500152 i69 i72 i78 i80 i81 i82 i87 i92 i96 i100 i103 i104)), ((z 67), .inl (T 1, 800, .inr (.inl f25500153)))]) [0, 1] rfl) (hD.sub (ws' := [(a, .inr (11, OX z i1 i2 i3 i4 i5 i6 i7 i8 i30 i43 i45 i46 i47 i48 i49 i50 i51 i58 i59 i65 x25500152 i69 i72 i78 i80 i81 i82 i87 i92 i96 i100 i103 i104)), ((z 67), .inl (T 1, 800, .inr (.inl f25500153)))]) [0, 1] (by decide +kernel) rfl)
    · skip
      have kc25500149 : p1.toInt ≠ 2 := ne_ti rfl (by decide) c25500149
      by_cases c25500155 : p1 = 3
      · skip
        have kc25500155 : p1.toInt = 3 := eq_ti rfl (by decide) c25500155
        refine lv_tableIn (off := 100) (tgt := 136) hx hb dX11_joins_36 (by omega) (by omega) (by rw [kc25500155]; rfl) (by decide) ?_
        refine lv_aload_n hx hb dX11_joins_136 rfl (lv_at hl 2 rfl) ?_
        refine lv_lload hx hb dX11_joins_137 (lv_at hl 0 rfl) ?_
        refine lv_lload_n hx hb dX11_joins_139 rfl (lv_at hl 1 rfl) ?_
        refine lv_lmul hx hb dX11_joins_140 ?_
        refine lv_topl (fun x25500156 ex25500156 => ?_)
        refine r_calll (wr := [(a, .inr (11, OX z i1 i2 i3 i4 i5 i6 i7 i8 i30 i43 i45 i46 i47 i48 i49 i50 i51 i58 i59 i65 x25500142 i69 i72 i78 i80 i81 i82 i87 i92 i96 i100 i103 i104)), ((z 67), .inl (T 1, 800, .inr (.inl g67)))]) (r_runS2 (As := [.long x25500156]) (rest := [.ref a]) (wc := []) C0 hE hStr hS (va_free (wc := []) hD hS hA [] rfl) (h_X11_clip_22100007 l D T sq sv H.size x25500156) mw_1101 mw_1102 mw_14 mw_1103 dn_1762 rfl rfl ⟨Nat.le_of_ble_eq_true rfl, Nat.le_of_ble_eq_true rfl⟩ (hP.sub (ws' := []) [] rfl) (hD.sub (ws' := []) [] (by decide +kernel) rfl) hl.1 rfl (Nat.le_of_ble_eq_true rfl) dX11_joins_141 ⟨Nat.le_of_ble_eq_true rfl, Nat.le_of_ble_eq_true rfl⟩) hP hD hS hA [] [0, 1] rfl rfl (by decide +kernel) (by decide +kernel) (fun x25500157 u H locs hq hP hD hS => ?_)
        have hP : va_P D vwCl [(a, .inr (11, OX z i1 i2 i3 i4 i5 i6 i7 i8 i30 i43 i45 i46 i47 i48 i49 i50 i51 i58 i59 i65 x25500142 i69 i72 i78 i80 i81 i82 i87 i92 i96 i100 i103 i104)), ((z 67), .inl (T 1, 800, .inr (.inl g67)))] H := hP
        have hD : va_D A [(a, .inr (11, OX z i1 i2 i3 i4 i5 i6 i7 i8 i30 i43 i45 i46 i47 i48 i49 i50 i51 i58 i59 i65 x25500142 i69 i72 i78 i80 i81 i82 i87 i92 i96 i100 i103 i104)), ((z 67), .inl (T 1, 800, .inr (.inl g67)))] := hD
        refine W.widen (k := 0) (n := 0) (Nat.le_refl _) (Nat.le_refl _) ?_
        refine r_callv2 (wr := []) (r_runV2 (As := [.long x25500157]) (rest := []) (wc := [(a, .inr (11, OX z i1 i2 i3 i4 i5 i6 i7 i8 i30 i43 i45 i46 i47 i48 i49 i50 i51 i58 i59 i65 x25500142 i69 i72 i78 i80 i81 i82 i87 i92 i96 i100 i103 i104)), ((z 67), .inl (T 1, 800, .inr (.inl g67)))]) (ci := 11) C0 hE hStr hS (va_free (wc := [(a, .inr (11, OX z i1 i2 i3 i4 i5 i6 i7 i8 i30 i43 i45 i46 i47 i48 i49 i50 i51 i58 i59 i65 x25500142 i69 i72 i78 i80 i81 i82 i87 i92 i96 i100 i103 i104)), ((z 67), .inl (T 1, 800, .inr (.inl g67)))]) hD hS hA [0, 1] rfl) (h_X11_puts_25400003 l D T sq sv H.size a z i1 i2 i3 i4 i5 i6 i7 i8 i30 i43 i45 i46 i47 i48 i49 i50 i51 i58 i59 i65 x25500142 i69 i72 i78 i80 i81 i82 i87 i92 i96 i100 i103 i104 x25500157 g67 ⟨by omega, by omega⟩) mw_1095 mw_1096 mw_1339 mw_14 mw_1097 dn_1764 rfl rfl ⟨Nat.le_of_ble_eq_true rfl, Nat.le_of_ble_eq_true rfl⟩ (hP.sub (ws' := [(a, .inr (11, OX z i1 i2 i3 i4 i5 i6 i7 i8 i30 i43 i45 i46 i47 i48 i49 i50 i51 i58 i59 i65 x25500142 i69 i72 i78 i80 i81 i82 i87 i92 i96 i100 i103 i104)), ((z 67), .inl (T 1, 800, .inr (.inl g67)))]) [0, 1] rfl) (hD.sub (ws' := [(a, .inr (11, OX z i1 i2 i3 i4 i5 i6 i7 i8 i30 i43 i45 i46 i47 i48 i49 i50 i51 i58 i59 i65 x25500142 i69 i72 i78 i80 i81 i82 i87 i92 i96 i100 i103 i104)), ((z 67), .inl (T 1, 800, .inr (.inl g67)))]) [0, 1] (by decide +kernel) rfl) rfl rfl rfl hl.1 rfl (Nat.le_of_ble_eq_true rfl) dX11_joins_144 ⟨Nat.le_of_ble_eq_true rfl, Nat.le_of_ble_eq_true rfl⟩) hP hD hS hA [0, 1] [] rfl rfl (by decide +kernel) (by decide +kernel) (fun u H locs hq hP hD hS => ?_)
        obtain ⟨x25500158, f25500159⟩ := u
        obtain ⟨hx25500158, hp25500160⟩ := hq
        have hx25500158 : 1 ≤ x25500158.toInt ∧ x25500158.toInt ≤ 800 := hx25500158
        have hp25500160 : x25500158.toInt = x25500142.toInt + 1 := hp25500160
        have hP : va_P D vwCl [(a, .inr (11, OX z i1 i2 i3 i4 i5 i6 i7 i8 i30 i43 i45 i46 i47 i48 i49 i50 i51 i58 i59 i65 x25500158 i69 i72 i78 i80 i81 i82 i87 i92 i96 i100 i103 i104)), ((z 67), .inl (T 1, 800, .inr (.inl f25500159)))] H := hP
        have hD : va_D A [(a, .inr (11, OX z i1 i2 i3 i4 i5 i6 i7 i8 i30 i43 i45 i46 i47 i48 i49 i50 i51 i58 i59 i65 x25500158 i69 i72 i78 i80 i81 i82 i87 i92 i96 i100 i103 i104)), ((z 67), .inl (T 1, 800, .inr (.inl f25500159)))] := hD
        refine W.widen (k := 0) (n := 0) (Nat.le_refl _) (Nat.le_refl _) ?_
        refine lv_goto (tgt := 289) hx hb dX11_joins_147 (by decide) ?_
        exact r_vret2 (x25500158, f25500159) C0 hr hlocks hS (Nat.le_refl _) (Nat.le_refl _) dX11_joins_289 ⟨⟨by omega, by omega⟩, (by omega)⟩ (hP.sub (ws' := [(a, .inr (11, OX z i1 i2 i3 i4 i5 i6 i7 i8 i30 i43 i45 i46 i47 i48 i49 i50 i51 i58 i59 i65 x25500158 i69 i72 i78 i80 i81 i82 i87 i92 i96 i100 i103 i104)), ((z 67), .inl (T 1, 800, .inr (.inl f25500159)))]) [0, 1] rfl) (hD.sub (ws' := [(a, .inr (11, OX z i1 i2 i3 i4 i5 i6 i7 i8 i30 i43 i45 i46 i47 i48 i49 i50 i51 i58 i59 i65 x25500158 i69 i72 i78 i80 i81 i82 i87 i92 i96 i100 i103 i104)), ((z 67), .inl (T 1, 800, .inr (.inl f25500159)))]) [0, 1] (by decide +kernel) rfl)
      · skip
        have kc25500155 : p1.toInt ≠ 3 := ne_ti rfl (by decide) c25500155
        by_cases c25500161 : p1 = 4
        · skip
          have kc25500161 : p1.toInt = 4 := eq_ti rfl (by decide) c25500161
          refine lv_tableIn (off := 114) (tgt := 150) hx hb dX11_joins_36 (by omega) (by omega) (by rw [kc25500161]; rfl) (by decide) ?_
          refine lv_aload_n hx hb dX11_joins_150 rfl (lv_at hl 2 rfl) ?_
          refine lv_lload hx hb dX11_joins_151 (lv_at hl 0 rfl) ?_
          refine lv_lload_n hx hb dX11_joins_153 rfl (lv_at hl 1 rfl) ?_
          refine r_calll (wr := [(a, .inr (11, OX z i1 i2 i3 i4 i5 i6 i7 i8 i30 i43 i45 i46 i47 i48 i49 i50 i51 i58 i59 i65 x25500142 i69 i72 i78 i80 i81 i82 i87 i92 i96 i100 i103 i104)), ((z 67), .inl (T 1, 800, .inr (.inl g67)))]) (r_runS2 (As := [.long x25500141, .long x25500139]) (rest := [.ref a]) (wc := []) C0 hE hStr hS (va_free (wc := []) hD hS hA [] rfl) (h_X11_floor_22200016 l D T sq sv H.size x25500141 x25500139) mw_1106 mw_1107 mw_14 mw_1108 dn_1763 rfl rfl ⟨Nat.le_of_ble_eq_true rfl, Nat.le_of_ble_eq_true rfl⟩ (hP.sub (ws' := []) [] rfl) (hD.sub (ws' := []) [] (by decide +kernel) rfl) hl.1 rfl (Nat.le_of_ble_eq_true rfl) dX11_joins_154 ⟨Nat.le_of_ble_eq_true rfl, Nat.le_of_ble_eq_true rfl⟩) hP hD hS hA [] [0, 1] rfl rfl (by decide +kernel) (by decide +kernel) (fun x25500162 u H locs hq hP hD hS => ?_)
          have hP : va_P D vwCl [(a, .inr (11, OX z i1 i2 i3 i4 i5 i6 i7 i8 i30 i43 i45 i46 i47 i48 i49 i50 i51 i58 i59 i65 x25500142 i69 i72 i78 i80 i81 i82 i87 i92 i96 i100 i103 i104)), ((z 67), .inl (T 1, 800, .inr (.inl g67)))] H := hP
          have hD : va_D A [(a, .inr (11, OX z i1 i2 i3 i4 i5 i6 i7 i8 i30 i43 i45 i46 i47 i48 i49 i50 i51 i58 i59 i65 x25500142 i69 i72 i78 i80 i81 i82 i87 i92 i96 i100 i103 i104)), ((z 67), .inl (T 1, 800, .inr (.inl g67)))] := hD
          refine W.widen (k := 0) (n := 0) (Nat.le_refl _) (Nat.le_refl _) ?_
          refine r_callv2 (wr := []) (r_runV2 (As := [.long x25500162]) (rest := []) (wc := [(a, .inr (11, OX z i1 i2 i3 i4 i5 i6 i7 i8 i30 i43 i45 i46 i47 i48 i49 i50 i51 i58 i59 i65 x25500142 i69 i72 i78 i80 i81 i82 i87 i92 i96 i100 i103 i104)), ((z 67), .inl (T 1, 800, .inr (.inl g67)))]) (ci := 11) C0 hE hStr hS (va_free (wc := [(a, .inr (11, OX z i1 i2 i3 i4 i5 i6 i7 i8 i30 i43 i45 i46 i47 i48 i49 i50 i51 i58 i59 i65 x25500142 i69 i72 i78 i80 i81 i82 i87 i92 i96 i100 i103 i104)), ((z 67), .inl (T 1, 800, .inr (.inl g67)))]) hD hS hA [0, 1] rfl) (h_X11_puts_25400003 l D T sq sv H.size a z i1 i2 i3 i4 i5 i6 i7 i8 i30 i43 i45 i46 i47 i48 i49 i50 i51 i58 i59 i65 x25500142 i69 i72 i78 i80 i81 i82 i87 i92 i96 i100 i103 i104 x25500162 g67 ⟨by omega, by omega⟩) mw_1095 mw_1096 mw_1339 mw_14 mw_1097 dn_1764 rfl rfl ⟨Nat.le_of_ble_eq_true rfl, Nat.le_of_ble_eq_true rfl⟩ (hP.sub (ws' := [(a, .inr (11, OX z i1 i2 i3 i4 i5 i6 i7 i8 i30 i43 i45 i46 i47 i48 i49 i50 i51 i58 i59 i65 x25500142 i69 i72 i78 i80 i81 i82 i87 i92 i96 i100 i103 i104)), ((z 67), .inl (T 1, 800, .inr (.inl g67)))]) [0, 1] rfl) (hD.sub (ws' := [(a, .inr (11, OX z i1 i2 i3 i4 i5 i6 i7 i8 i30 i43 i45 i46 i47 i48 i49 i50 i51 i58 i59 i65 x25500142 i69 i72 i78 i80 i81 i82 i87 i92 i96 i100 i103 i104)), ((z 67), .inl (T 1, 800, .inr (.inl g67)))]) [0, 1] (by decide +kernel) rfl) rfl rfl rfl hl.1 rfl (Nat.le_of_ble_eq_true rfl) dX11_joins_157 ⟨Nat.le_of_ble_eq_true rfl, Nat.le_of_ble_eq_true rfl⟩) hP hD hS hA [0, 1] [] rfl rfl (by decide +kernel) (by decide +kernel) (fun u H locs hq hP hD hS => ?_)
          obtain ⟨x25500163, f25500164⟩ := u
          obtain ⟨hx25500163, hp25500165⟩ := hq
          have hx25500163 : 1 ≤ x25500163.toInt ∧ x25500163.toInt ≤ 800 := hx25500163
          have hp25500165 : x25500163.toInt = x25500142.toInt + 1 := hp25500165
          have hP : va_P D vwCl [(a, .inr (11, OX z i1 i2 i3 i4 i5 i6 i7 i8 i30 i43 i45 i46 i47 i48 i49 i50 i51 i58 i59 i65 x25500163 i69 i72 i78 i80 i81 i82 i87 i92 i96 i100 i103 i104)), ((z 67), .inl (T 1, 800, .inr (.inl f25500164)))] H := hP
          have hD : va_D A [(a, .inr (11, OX z i1 i2 i3 i4 i5 i6 i7 i8 i30 i43 i45 i46 i47 i48 i49 i50 i51 i58 i59 i65 x25500163 i69 i72 i78 i80 i81 i82 i87 i92 i96 i100 i103 i104)), ((z 67), .inl (T 1, 800, .inr (.inl f25500164)))] := hD
          refine W.widen (k := 0) (n := 0) (Nat.le_refl _) (Nat.le_refl _) ?_
          refine lv_goto (tgt := 289) hx hb dX11_joins_160 (by decide) ?_
          exact r_vret2 (x25500163, f25500164) C0 hr hlocks hS (Nat.le_refl _) (Nat.le_refl _) dX11_joins_289 ⟨⟨by omega, by omega⟩, (by omega)⟩ (hP.sub (ws' := [(a, .inr (11, OX z i1 i2 i3 i4 i5 i6 i7 i8 i30 i43 i45 i46 i47 i48 i49 i50 i51 i58 i59 i65 x25500163 i69 i72 i78 i80 i81 i82 i87 i92 i96 i100 i103 i104)), ((z 67), .inl (T 1, 800, .inr (.inl f25500164)))]) [0, 1] rfl) (hD.sub (ws' := [(a, .inr (11, OX z i1 i2 i3 i4 i5 i6 i7 i8 i30 i43 i45 i46 i47 i48 i49 i50 i51 i58 i59 i65 x25500163 i69 i72 i78 i80 i81 i82 i87 i92 i96 i100 i103 i104)), ((z 67), .inl (T 1, 800, .inr (.inl f25500164)))]) [0, 1] (by decide +kernel) rfl)
        · skip
          have kc25500161 : p1.toInt ≠ 4 := ne_ti rfl (by decide) c25500161
          by_cases c25500166 : p1 = 5
          · skip
            have kc25500166 : p1.toInt = 5 := eq_ti rfl (by decide) c25500166
            refine lv_tableIn (off := 127) (tgt := 163) hx hb dX11_joins_36 (by omega) (by omega) (by rw [kc25500166]; rfl) (by decide) ?_
            refine lv_aload_n hx hb dX11_joins_163 rfl (lv_at hl 2 rfl) ?_
            refine lv_lload hx hb dX11_joins_164 (lv_at hl 0 rfl) ?_
            refine lv_lload_n hx hb dX11_joins_166 rfl (lv_at hl 1 rfl) ?_
            refine W.lcmp hx hb dX11_joins_167 ?_
            refine lv_topi (fun x25500167 ex25500167 => ?_)
            refine lv_if_ge (tgt := 176) hx hb dX11_joins_168 (by decide) (fun c25500168 => ?_) (fun c25500168 => ?_)
            · skip
              have kc25500168 : 0 ≤ x25500167.toInt := le_ti (by decide) rfl c25500168
              have qc25500168 : x25500139.toInt ≤ x25500141.toInt := lc_ge ex25500167 rfl rfl kc25500168
              refine lv_lload_n hx hb dX11_joins_176 rfl (lv_at hl 1 rfl) ?_
              refine r_callv2 (wr := []) (r_runV2 (As := [.long x25500139]) (rest := []) (wc := [(a, .inr (11, OX z i1 i2 i3 i4 i5 i6 i7 i8 i30 i43 i45 i46 i47 i48 i49 i50 i51 i58 i59 i65 x25500142 i69 i72 i78 i80 i81 i82 i87 i92 i96 i100 i103 i104)), ((z 67), .inl (T 1, 800, .inr (.inl g67)))]) (ci := 11) C0 hE hStr hS (va_free (wc := [(a, .inr (11, OX z i1 i2 i3 i4 i5 i6 i7 i8 i30 i43 i45 i46 i47 i48 i49 i50 i51 i58 i59 i65 x25500142 i69 i72 i78 i80 i81 i82 i87 i92 i96 i100 i103 i104)), ((z 67), .inl (T 1, 800, .inr (.inl g67)))]) hD hS hA [0, 1] rfl) (h_X11_puts_25400003 l D T sq sv H.size a z i1 i2 i3 i4 i5 i6 i7 i8 i30 i43 i45 i46 i47 i48 i49 i50 i51 i58 i59 i65 x25500142 i69 i72 i78 i80 i81 i82 i87 i92 i96 i100 i103 i104 x25500139 g67 ⟨by omega, by omega⟩) mw_1095 mw_1096 mw_1339 mw_14 mw_1097 dn_1764 rfl rfl ⟨Nat.le_of_ble_eq_true rfl, Nat.le_of_ble_eq_true rfl⟩ (hP.sub (ws' := [(a, .inr (11, OX z i1 i2 i3 i4 i5 i6 i7 i8 i30 i43 i45 i46 i47 i48 i49 i50 i51 i58 i59 i65 x25500142 i69 i72 i78 i80 i81 i82 i87 i92 i96 i100 i103 i104)), ((z 67), .inl (T 1, 800, .inr (.inl g67)))]) [0, 1] rfl) (hD.sub (ws' := [(a, .inr (11, OX z i1 i2 i3 i4 i5 i6 i7 i8 i30 i43 i45 i46 i47 i48 i49 i50 i51 i58 i59 i65 x25500142 i69 i72 i78 i80 i81 i82 i87 i92 i96 i100 i103 i104)), ((z 67), .inl (T 1, 800, .inr (.inl g67)))]) [0, 1] (by decide +kernel) rfl) rfl rfl rfl hl.1 rfl (Nat.le_of_ble_eq_true rfl) dX11_joins_177 ⟨Nat.le_of_ble_eq_true rfl, Nat.le_of_ble_eq_true rfl⟩) hP hD hS hA [0, 1] [] rfl rfl (by decide +kernel) (by decide +kernel) (fun u H locs hq hP hD hS => ?_)
              obtain ⟨x25500169, f25500170⟩ := u
              obtain ⟨hx25500169, hp25500171⟩ := hq
              have hx25500169 : 1 ≤ x25500169.toInt ∧ x25500169.toInt ≤ 800 := hx25500169
              have hp25500171 : x25500169.toInt = x25500142.toInt + 1 := hp25500171
              have hP : va_P D vwCl [(a, .inr (11, OX z i1 i2 i3 i4 i5 i6 i7 i8 i30 i43 i45 i46 i47 i48 i49 i50 i51 i58 i59 i65 x25500169 i69 i72 i78 i80 i81 i82 i87 i92 i96 i100 i103 i104)), ((z 67), .inl (T 1, 800, .inr (.inl f25500170)))] H := hP
              have hD : va_D A [(a, .inr (11, OX z i1 i2 i3 i4 i5 i6 i7 i8 i30 i43 i45 i46 i47 i48 i49 i50 i51 i58 i59 i65 x25500169 i69 i72 i78 i80 i81 i82 i87 i92 i96 i100 i103 i104)), ((z 67), .inl (T 1, 800, .inr (.inl f25500170)))] := hD
              refine W.widen (k := 0) (n := 0) (Nat.le_refl _) (Nat.le_refl _) ?_
              refine lv_goto (tgt := 289) hx hb dX11_joins_180 (by decide) ?_
              exact r_vret2 (x25500169, f25500170) C0 hr hlocks hS (Nat.le_refl _) (Nat.le_refl _) dX11_joins_289 ⟨⟨by omega, by omega⟩, (by omega)⟩ (hP.sub (ws' := [(a, .inr (11, OX z i1 i2 i3 i4 i5 i6 i7 i8 i30 i43 i45 i46 i47 i48 i49 i50 i51 i58 i59 i65 x25500169 i69 i72 i78 i80 i81 i82 i87 i92 i96 i100 i103 i104)), ((z 67), .inl (T 1, 800, .inr (.inl f25500170)))]) [0, 1] rfl) (hD.sub (ws' := [(a, .inr (11, OX z i1 i2 i3 i4 i5 i6 i7 i8 i30 i43 i45 i46 i47 i48 i49 i50 i51 i58 i59 i65 x25500169 i69 i72 i78 i80 i81 i82 i87 i92 i96 i100 i103 i104)), ((z 67), .inl (T 1, 800, .inr (.inl f25500170)))]) [0, 1] (by decide +kernel) rfl)
            · skip
              have kc25500168 : x25500167.toInt < 0 := nle_ti (by decide) rfl c25500168
              have qc25500168 : x25500141.toInt < x25500139.toInt := lc_lt ex25500167 rfl rfl kc25500168
              have rg25500172 := i32_rng x25500167
              refine lv_lload hx hb dX11_joins_171 (lv_at hl 0 rfl) ?_
              refine lv_goto (tgt := 177) hx hb dX11_joins_173 (by decide) ?_
              refine r_callv2 (wr := []) (r_runV2 (As := [.long x25500141]) (rest := []) (wc := [(a, .inr (11, OX z i1 i2 i3 i4 i5 i6 i7 i8 i30 i43 i45 i46 i47 i48 i49 i50 i51 i58 i59 i65 x25500142 i69 i72 i78 i80 i81 i82 i87 i92 i96 i100 i103 i104)), ((z 67), .inl (T 1, 800, .inr (.inl g67)))]) (ci := 11) C0 hE hStr hS (va_free (wc := [(a, .inr (11, OX z i1 i2 i3 i4 i5 i6 i7 i8 i30 i43 i45 i46 i47 i48 i49 i50 i51 i58 i59 i65 x25500142 i69 i72 i78 i80 i81 i82 i87 i92 i96 i100 i103 i104)), ((z 67), .inl (T 1, 800, .inr (.inl g67)))]) hD hS hA [0, 1] rfl) (h_X11_puts_25400003 l D T sq sv H.size a z i1 i2 i3 i4 i5 i6 i7 i8 i30 i43 i45 i46 i47 i48 i49 i50 i51 i58 i59 i65 x25500142 i69 i72 i78 i80 i81 i82 i87 i92 i96 i100 i103 i104 x25500141 g67 ⟨by omega, by omega⟩) mw_1095 mw_1096 mw_1339 mw_14 mw_1097 dn_1764 rfl rfl ⟨Nat.le_of_ble_eq_true rfl, Nat.le_of_ble_eq_true rfl⟩ (hP.sub (ws' := [(a, .inr (11, OX z i1 i2 i3 i4 i5 i6 i7 i8 i30 i43 i45 i46 i47 i48 i49 i50 i51 i58 i59 i65 x25500142 i69 i72 i78 i80 i81 i82 i87 i92 i96 i100 i103 i104)), ((z 67), .inl (T 1, 800, .inr (.inl g67)))]) [0, 1] rfl) (hD.sub (ws' := [(a, .inr (11, OX z i1 i2 i3 i4 i5 i6 i7 i8 i30 i43 i45 i46 i47 i48 i49 i50 i51 i58 i59 i65 x25500142 i69 i72 i78 i80 i81 i82 i87 i92 i96 i100 i103 i104)), ((z 67), .inl (T 1, 800, .inr (.inl g67)))]) [0, 1] (by decide +kernel) rfl) rfl rfl rfl hl.1 rfl (Nat.le_of_ble_eq_true rfl) dX11_joins_177 ⟨Nat.le_of_ble_eq_true rfl, Nat.le_of_ble_eq_true rfl⟩) hP hD hS hA [0, 1] [] rfl rfl (by decide +kernel) (by decide +kernel) (fun u H locs hq hP hD hS => ?_)
              obtain ⟨x25500173, f25500174⟩ := u
              obtain ⟨hx25500173, hp25500175⟩ := hq
              have hx25500173 : 1 ≤ x25500173.toInt ∧ x25500173.toInt ≤ 800 := hx25500173
              have hp25500175 : x25500173.toInt = x25500142.toInt + 1 := hp25500175
              have hP : va_P D vwCl [(a, .inr (11, OX z i1 i2 i3 i4 i5 i6 i7 i8 i30 i43 i45 i46 i47 i48 i49 i50 i51 i58 i59 i65 x25500173 i69 i72 i78 i80 i81 i82 i87 i92 i96 i100 i103 i104)), ((z 67), .inl (T 1, 800, .inr (.inl f25500174)))] H := hP
              have hD : va_D A [(a, .inr (11, OX z i1 i2 i3 i4 i5 i6 i7 i8 i30 i43 i45 i46 i47 i48 i49 i50 i51 i58 i59 i65 x25500173 i69 i72 i78 i80 i81 i82 i87 i92 i96 i100 i103 i104)), ((z 67), .inl (T 1, 800, .inr (.inl f25500174)))] := hD
              refine W.widen (k := 0) (n := 0) (Nat.le_refl _) (Nat.le_refl _) ?_
              refine lv_goto (tgt := 289) hx hb dX11_joins_180 (by decide) ?_
              exact r_vret2 (x25500173, f25500174) C0 hr hlocks hS (Nat.le_refl _) (Nat.le_refl _) dX11_joins_289 ⟨⟨by omega, by omega⟩, (by omega)⟩ (hP.sub (ws' := [(a, .inr (11, OX z i1 i2 i3 i4 i5 i6 i7 i8 i30 i43 i45 i46 i47 i48 i49 i50 i51 i58 i59 i65 x25500173 i69 i72 i78 i80 i81 i82 i87 i92 i96 i100 i103 i104)), ((z 67), .inl (T 1, 800, .inr (.inl f25500174)))]) [0, 1] rfl) (hD.sub (ws' := [(a, .inr (11, OX z i1 i2 i3 i4 i5 i6 i7 i8 i30 i43 i45 i46 i47 i48 i49 i50 i51 i58 i59 i65 x25500173 i69 i72 i78 i80 i81 i82 i87 i92 i96 i100 i103 i104)), ((z 67), .inl (T 1, 800, .inr (.inl f25500174)))]) [0, 1] (by decide +kernel) rfl)
          · skip
            have kc25500166 : p1.toInt ≠ 5 := ne_ti rfl (by decide) c25500166
            by_cases c25500176 : p1 = 6
            · skip
              have kc25500176 : p1.toInt = 6 := eq_ti rfl (by decide) c25500176
              refine lv_tableIn (off := 147) (tgt := 183) hx hb dX11_joins_36 (by omega) (by omega) (by rw [kc25500176]; rfl) (by decide) ?_
              refine lv_aload_n hx hb dX11_joins_183 rfl (lv_at hl 2 rfl) ?_
              refine lv_lload hx hb dX11_joins_184 (lv_at hl 0 rfl) ?_
              refine lv_lload_n hx hb dX11_joins_186 rfl (lv_at hl 1 rfl) ?_
              refine W.lcmp hx hb dX11_joins_187 ?_
              refine lv_topi (fun x25500177 ex25500177 => ?_)
              refine lv_if_le (tgt := 196) hx hb dX11_joins_188 (by decide) (fun c25500178 => ?_) (fun c25500178 => ?_)
              · skip
                have kc25500178 : x25500177.toInt ≤ 0 := le_ti rfl (by decide) c25500178
                have qc25500178 : x25500141.toInt ≤ x25500139.toInt := lc_le ex25500177 rfl rfl kc25500178
                refine lv_lload_n hx hb dX11_joins_196 rfl (lv_at hl 1 rfl) ?_
                refine r_callv2 (wr := []) (r_runV2 (As := [.long x25500139]) (rest := []) (wc := [(a, .inr (11, OX z i1 i2 i3 i4 i5 i6 i7 i8 i30 i43 i45 i46 i47 i48 i49 i50 i51 i58 i59 i65 x25500142 i69 i72 i78 i80 i81 i82 i87 i92 i96 i100 i103 i104)), ((z 67), .inl (T 1, 800, .inr (.inl g67)))]) (ci := 11) C0 hE hStr hS (va_free (wc := [(a, .inr (11, OX z i1 i2 i3 i4 i5 i6 i7 i8 i30 i43 i45 i46 i47 i48 i49 i50 i51 i58 i59 i65 x25500142 i69 i72 i78 i80 i81 i82 i87 i92 i96 i100 i103 i104)), ((z 67), .inl (T 1, 800, .inr (.inl g67)))]) hD hS hA [0, 1] rfl) (h_X11_puts_25400003 l D T sq sv H.size a z i1 i2 i3 i4 i5 i6 i7 i8 i30 i43 i45 i46 i47 i48 i49 i50 i51 i58 i59 i65 x25500142 i69 i72 i78 i80 i81 i82 i87 i92 i96 i100 i103 i104 x25500139 g67 ⟨by omega, by omega⟩) mw_1095 mw_1096 mw_1339 mw_14 mw_1097 dn_1764 rfl rfl ⟨Nat.le_of_ble_eq_true rfl, Nat.le_of_ble_eq_true rfl⟩ (hP.sub (ws' := [(a, .inr (11, OX z i1 i2 i3 i4 i5 i6 i7 i8 i30 i43 i45 i46 i47 i48 i49 i50 i51 i58 i59 i65 x25500142 i69 i72 i78 i80 i81 i82 i87 i92 i96 i100 i103 i104)), ((z 67), .inl (T 1, 800, .inr (.inl g67)))]) [0, 1] rfl) (hD.sub (ws' := [(a, .inr (11, OX z i1 i2 i3 i4 i5 i6 i7 i8 i30 i43 i45 i46 i47 i48 i49 i50 i51 i58 i59 i65 x25500142 i69 i72 i78 i80 i81 i82 i87 i92 i96 i100 i103 i104)), ((z 67), .inl (T 1, 800, .inr (.inl g67)))]) [0, 1] (by decide +kernel) rfl) rfl rfl rfl hl.1 rfl (Nat.le_of_ble_eq_true rfl) dX11_joins_197 ⟨Nat.le_of_ble_eq_true rfl, Nat.le_of_ble_eq_true rfl⟩) hP hD hS hA [0, 1] [] rfl rfl (by decide +kernel) (by decide +kernel) (fun u H locs hq hP hD hS => ?_)
                obtain ⟨x25500179, f25500180⟩ := u
                obtain ⟨hx25500179, hp25500181⟩ := hq
                have hx25500179 : 1 ≤ x25500179.toInt ∧ x25500179.toInt ≤ 800 := hx25500179
                have hp25500181 : x25500179.toInt = x25500142.toInt + 1 := hp25500181
                have hP : va_P D vwCl [(a, .inr (11, OX z i1 i2 i3 i4 i5 i6 i7 i8 i30 i43 i45 i46 i47 i48 i49 i50 i51 i58 i59 i65 x25500179 i69 i72 i78 i80 i81 i82 i87 i92 i96 i100 i103 i104)), ((z 67), .inl (T 1, 800, .inr (.inl f25500180)))] H := hP
                have hD : va_D A [(a, .inr (11, OX z i1 i2 i3 i4 i5 i6 i7 i8 i30 i43 i45 i46 i47 i48 i49 i50 i51 i58 i59 i65 x25500179 i69 i72 i78 i80 i81 i82 i87 i92 i96 i100 i103 i104)), ((z 67), .inl (T 1, 800, .inr (.inl f25500180)))] := hD
                refine W.widen (k := 0) (n := 0) (Nat.le_refl _) (Nat.le_refl _) ?_
                refine lv_goto (tgt := 289) hx hb dX11_joins_200 (by decide) ?_
                exact r_vret2 (x25500179, f25500180) C0 hr hlocks hS (Nat.le_refl _) (Nat.le_refl _) dX11_joins_289 ⟨⟨by omega, by omega⟩, (by omega)⟩ (hP.sub (ws' := [(a, .inr (11, OX z i1 i2 i3 i4 i5 i6 i7 i8 i30 i43 i45 i46 i47 i48 i49 i50 i51 i58 i59 i65 x25500179 i69 i72 i78 i80 i81 i82 i87 i92 i96 i100 i103 i104)), ((z 67), .inl (T 1, 800, .inr (.inl f25500180)))]) [0, 1] rfl) (hD.sub (ws' := [(a, .inr (11, OX z i1 i2 i3 i4 i5 i6 i7 i8 i30 i43 i45 i46 i47 i48 i49 i50 i51 i58 i59 i65 x25500179 i69 i72 i78 i80 i81 i82 i87 i92 i96 i100 i103 i104)), ((z 67), .inl (T 1, 800, .inr (.inl f25500180)))]) [0, 1] (by decide +kernel) rfl)
              · skip
                have kc25500178 : 0 < x25500177.toInt := nle_ti rfl (by decide) c25500178
                have qc25500178 : x25500139.toInt < x25500141.toInt := lc_gt ex25500177 rfl rfl kc25500178
                have rg25500182 := i32_rng x25500177
                refine lv_lload hx hb dX11_joins_191 (lv_at hl 0 rfl) ?_
                refine lv_goto (tgt := 197) hx hb dX11_joins_193 (by decide) ?_
                refine r_callv2 (wr := []) (r_runV2 (As := [.long x25500141]) (rest := []) (wc := [(a, .inr (11, OX z i1 i2 i3 i4 i5 i6 i7 i8 i30 i43 i45 i46 i47 i48 i49 i50 i51 i58 i59 i65 x25500142 i69 i72 i78 i80 i81 i82 i87 i92 i96 i100 i103 i104)), ((z 67), .inl (T 1, 800, .inr (.inl g67)))]) (ci := 11) C0 hE hStr hS (va_free (wc := [(a, .inr (11, OX z i1 i2 i3 i4 i5 i6 i7 i8 i30 i43 i45 i46 i47 i48 i49 i50 i51 i58 i59 i65 x25500142 i69 i72 i78 i80 i81 i82 i87 i92 i96 i100 i103 i104)), ((z 67), .inl (T 1, 800, .inr (.inl g67)))]) hD hS hA [0, 1] rfl) (h_X11_puts_25400003 l D T sq sv H.size a z i1 i2 i3 i4 i5 i6 i7 i8 i30 i43 i45 i46 i47 i48 i49 i50 i51 i58 i59 i65 x25500142 i69 i72 i78 i80 i81 i82 i87 i92 i96 i100 i103 i104 x25500141 g67 ⟨by omega, by omega⟩) mw_1095 mw_1096 mw_1339 mw_14 mw_1097 dn_1764 rfl rfl ⟨Nat.le_of_ble_eq_true rfl, Nat.le_of_ble_eq_true rfl⟩ (hP.sub (ws' := [(a, .inr (11, OX z i1 i2 i3 i4 i5 i6 i7 i8 i30 i43 i45 i46 i47 i48 i49 i50 i51 i58 i59 i65 x25500142 i69 i72 i78 i80 i81 i82 i87 i92 i96 i100 i103 i104)), ((z 67), .inl (T 1, 800, .inr (.inl g67)))]) [0, 1] rfl) (hD.sub (ws' := [(a, .inr (11, OX z i1 i2 i3 i4 i5 i6 i7 i8 i30 i43 i45 i46 i47 i48 i49 i50 i51 i58 i59 i65 x25500142 i69 i72 i78 i80 i81 i82 i87 i92 i96 i100 i103 i104)), ((z 67), .inl (T 1, 800, .inr (.inl g67)))]) [0, 1] (by decide +kernel) rfl) rfl rfl rfl hl.1 rfl (Nat.le_of_ble_eq_true rfl) dX11_joins_197 ⟨Nat.le_of_ble_eq_true rfl, Nat.le_of_ble_eq_true rfl⟩) hP hD hS hA [0, 1] [] rfl rfl (by decide +kernel) (by decide +kernel) (fun u H locs hq hP hD hS => ?_)
                obtain ⟨x25500183, f25500184⟩ := u
                obtain ⟨hx25500183, hp25500185⟩ := hq
                have hx25500183 : 1 ≤ x25500183.toInt ∧ x25500183.toInt ≤ 800 := hx25500183
                have hp25500185 : x25500183.toInt = x25500142.toInt + 1 := hp25500185
                have hP : va_P D vwCl [(a, .inr (11, OX z i1 i2 i3 i4 i5 i6 i7 i8 i30 i43 i45 i46 i47 i48 i49 i50 i51 i58 i59 i65 x25500183 i69 i72 i78 i80 i81 i82 i87 i92 i96 i100 i103 i104)), ((z 67), .inl (T 1, 800, .inr (.inl f25500184)))] H := hP
                have hD : va_D A [(a, .inr (11, OX z i1 i2 i3 i4 i5 i6 i7 i8 i30 i43 i45 i46 i47 i48 i49 i50 i51 i58 i59 i65 x25500183 i69 i72 i78 i80 i81 i82 i87 i92 i96 i100 i103 i104)), ((z 67), .inl (T 1, 800, .inr (.inl f25500184)))] := hD
                refine W.widen (k := 0) (n := 0) (Nat.le_refl _) (Nat.le_refl _) ?_
                refine lv_goto (tgt := 289) hx hb dX11_joins_200 (by decide) ?_
                exact r_vret2 (x25500183, f25500184) C0 hr hlocks hS (Nat.le_refl _) (Nat.le_refl _) dX11_joins_289 ⟨⟨by omega, by omega⟩, (by omega)⟩ (hP.sub (ws' := [(a, .inr (11, OX z i1 i2 i3 i4 i5 i6 i7 i8 i30 i43 i45 i46 i47 i48 i49 i50 i51 i58 i59 i65 x25500183 i69 i72 i78 i80 i81 i82 i87 i92 i96 i100 i103 i104)), ((z 67), .inl (T 1, 800, .inr (.inl f25500184)))]) [0, 1] rfl) (hD.sub (ws' := [(a, .inr (11, OX z i1 i2 i3 i4 i5 i6 i7 i8 i30 i43 i45 i46 i47 i48 i49 i50 i51 i58 i59 i65 x25500183 i69 i72 i78 i80 i81 i82 i87 i92 i96 i100 i103 i104)), ((z 67), .inl (T 1, 800, .inr (.inl f25500184)))]) [0, 1] (by decide +kernel) rfl)
            · skip
              have kc25500176 : p1.toInt ≠ 6 := ne_ti rfl (by decide) c25500176
              by_cases c25500186 : p1 = 7
              · skip
                have kc25500186 : p1.toInt = 7 := eq_ti rfl (by decide) c25500186
                refine lv_tableIn (off := 235) (tgt := 271) hx hb dX11_joins_36 (by omega) (by omega) (by rw [kc25500186]; rfl) (by decide) ?_
                refine lv_aload_n hx hb dX11_joins_271 rfl (lv_at hl 2 rfl) ?_
                refine lv_lload hx hb dX11_joins_272 (lv_at hl 0 rfl) ?_
                refine lv_lload_n hx hb dX11_joins_274 rfl (lv_at hl 1 rfl) ?_
                refine lv_ladd hx hb dX11_joins_275 ?_
                refine lv_topl (fun x25500187 ex25500187 => ?_)
                refine lv_lconst (v := 0) hx hb dX11_joins_276 (by decide) ?_
                refine W.lcmp hx hb dX11_joins_277 ?_
                refine lv_topi (fun x25500188 ex25500188 => ?_)
                refine lv_if_le (tgt := 285) hx hb dX11_joins_278 (by decide) (fun c25500189 => ?_) (fun c25500189 => ?_)
                · skip
                  have kc25500189 : x25500188.toInt ≤ 0 := le_ti rfl (by decide) c25500189
                  have qc25500189 : x25500187.toInt ≤ 0 := lc_le ex25500188 rfl (by decide) kc25500189
                  refine lv_lconst (v := 0) hx hb dX11_joins_285 (by decide) ?_
                  refine r_callv2 (wr := []) (r_runV2 (As := [.long 0]) (rest := []) (wc := [(a, .inr (11, OX z i1 i2 i3 i4 i5 i6 i7 i8 i30 i43 i45 i46 i47 i48 i49 i50 i51 i58 i59 i65 x25500142 i69 i72 i78 i80 i81 i82 i87 i92 i96 i100 i103 i104)), ((z 67), .inl (T 1, 800, .inr (.inl g67)))]) (ci := 11) C0 hE hStr hS (va_free (wc := [(a, .inr (11, OX z i1 i2 i3 i4 i5 i6 i7 i8 i30 i43 i45 i46 i47 i48 i49 i50 i51 i58 i59 i65 x25500142 i69 i72 i78 i80 i81 i82 i87 i92 i96 i100 i103 i104)), ((z 67), .inl (T 1, 800, .inr (.inl g67)))]) hD hS hA [0, 1] rfl) (h_X11_puts_25400003 l D T sq sv H.size a z i1 i2 i3 i4 i5 i6 i7 i8 i30 i43 i45 i46 i47 i48 i49 i50 i51 i58 i59 i65 x25500142 i69 i72 i78 i80 i81 i82 i87 i92 i96 i100 i103 i104 0 g67 ⟨by omega, by omega⟩) mw_1095 mw_1096 mw_1339 mw_14 mw_1097 dn_1764 rfl rfl ⟨Nat.le_of_ble_eq_true rfl, Nat.le_of_ble_eq_true rfl⟩ (hP.sub (ws' := [(a, .inr (11, OX z i1 i2 i3 i4 i5 i6 i7 i8 i30 i43 i45 i46 i47 i48 i49 i50 i51 i58 i59 i65 x25500142 i69 i72 i78 i80 i81 i82 i87 i92 i96 i100 i103 i104)), ((z 67), .inl (T 1, 800, .inr (.inl g67)))]) [0, 1] rfl) (hD.sub (ws' := [(a, .inr (11, OX z i1 i2 i3 i4 i5 i6 i7 i8 i30 i43 i45 i46 i47 i48 i49 i50 i51 i58 i59 i65 x25500142 i69 i72 i78 i80 i81 i82 i87 i92 i96 i100 i103 i104)), ((z 67), .inl (T 1, 800, .inr (.inl g67)))]) [0, 1] (by decide +kernel) rfl) rfl rfl rfl hl.1 rfl (Nat.le_of_ble_eq_true rfl) dX11_joins_286 ⟨Nat.le_of_ble_eq_true rfl, Nat.le_of_ble_eq_true rfl⟩) hP hD hS hA [0, 1] [] rfl rfl (by decide +kernel) (by decide +kernel) (fun u H locs hq hP hD hS => ?_)
                  obtain ⟨x25500190, f25500191⟩ := u
                  obtain ⟨hx25500190, hp25500192⟩ := hq
                  have hx25500190 : 1 ≤ x25500190.toInt ∧ x25500190.toInt ≤ 800 := hx25500190
                  have hp25500192 : x25500190.toInt = x25500142.toInt + 1 := hp25500192
                  have hl25500193 : (0 : Int64).toInt = 0 := by decide
                  have hP : va_P D vwCl [(a, .inr (11, OX z i1 i2 i3 i4 i5 i6 i7 i8 i30 i43 i45 i46 i47 i48 i49 i50 i51 i58 i59 i65 x25500190 i69 i72 i78 i80 i81 i82 i87 i92 i96 i100 i103 i104)), ((z 67), .inl (T 1, 800, .inr (.inl f25500191)))] H := hP
                  have hD : va_D A [(a, .inr (11, OX z i1 i2 i3 i4 i5 i6 i7 i8 i30 i43 i45 i46 i47 i48 i49 i50 i51 i58 i59 i65 x25500190 i69 i72 i78 i80 i81 i82 i87 i92 i96 i100 i103 i104)), ((z 67), .inl (T 1, 800, .inr (.inl f25500191)))] := hD
                  refine W.widen (k := 0) (n := 0) (Nat.le_refl _) (Nat.le_refl _) ?_
                  exact r_vret2 (x25500190, f25500191) C0 hr hlocks hS (Nat.le_refl _) (Nat.le_refl _) dX11_joins_289 ⟨⟨by omega, by omega⟩, (by omega)⟩ (hP.sub (ws' := [(a, .inr (11, OX z i1 i2 i3 i4 i5 i6 i7 i8 i30 i43 i45 i46 i47 i48 i49 i50 i51 i58 i59 i65 x25500190 i69 i72 i78 i80 i81 i82 i87 i92 i96 i100 i103 i104)), ((z 67), .inl (T 1, 800, .inr (.inl f25500191)))]) [0, 1] rfl) (hD.sub (ws' := [(a, .inr (11, OX z i1 i2 i3 i4 i5 i6 i7 i8 i30 i43 i45 i46 i47 i48 i49 i50 i51 i58 i59 i65 x25500190 i69 i72 i78 i80 i81 i82 i87 i92 i96 i100 i103 i104)), ((z 67), .inl (T 1, 800, .inr (.inl f25500191)))]) [0, 1] (by decide +kernel) rfl)
                · skip
                  have kc25500189 : 0 < x25500188.toInt := nle_ti rfl (by decide) c25500189
                  have qc25500189 : 0 < x25500187.toInt := lc_gt ex25500188 rfl (by decide) kc25500189
                  have rg25500194 := i32_rng x25500188
                  refine lv_lconst (v := 1) hx hb dX11_joins_281 (by decide) ?_
                  refine lv_goto (tgt := 286) hx hb dX11_joins_282 (by decide) ?_
                  refine r_callv2 (wr := []) (r_runV2 (As := [.long 1]) (rest := []) (wc := [(a, .inr (11, OX z i1 i2 i3 i4 i5 i6 i7 i8 i30 i43 i45 i46 i47 i48 i49 i50 i51 i58 i59 i65 x25500142 i69 i72 i78 i80 i81 i82 i87 i92 i96 i100 i103 i104)), ((z 67), .inl (T 1, 800, .inr (.inl g67)))]) (ci := 11) C0 hE hStr hS (va_free (wc := [(a, .inr (11, OX z i1 i2 i3 i4 i5 i6 i7 i8 i30 i43 i45 i46 i47 i48 i49 i50 i51 i58 i59 i65 x25500142 i69 i72 i78 i80 i81 i82 i87 i92 i96 i100 i103 i104)), ((z 67), .inl (T 1, 800, .inr (.inl g67)))]) hD hS hA [0, 1] rfl) (h_X11_puts_25400003 l D T sq sv H.size a z i1 i2 i3 i4 i5 i6 i7 i8 i30 i43 i45 i46 i47 i48 i49 i50 i51 i58 i59 i65 x25500142 i69 i72 i78 i80 i81 i82 i87 i92 i96 i100 i103 i104 1 g67 ⟨by omega, by omega⟩) mw_1095 mw_1096 mw_1339 mw_14 mw_1097 dn_1764 rfl rfl ⟨Nat.le_of_ble_eq_true rfl, Nat.le_of_ble_eq_true rfl⟩ (hP.sub (ws' := [(a, .inr (11, OX z i1 i2 i3 i4 i5 i6 i7 i8 i30 i43 i45 i46 i47 i48 i49 i50 i51 i58 i59 i65 x25500142 i69 i72 i78 i80 i81 i82 i87 i92 i96 i100 i103 i104)), ((z 67), .inl (T 1, 800, .inr (.inl g67)))]) [0, 1] rfl) (hD.sub (ws' := [(a, .inr (11, OX z i1 i2 i3 i4 i5 i6 i7 i8 i30 i43 i45 i46 i47 i48 i49 i50 i51 i58 i59 i65 x25500142 i69 i72 i78 i80 i81 i82 i87 i92 i96 i100 i103 i104)), ((z 67), .inl (T 1, 800, .inr (.inl g67)))]) [0, 1] (by decide +kernel) rfl) rfl rfl rfl hl.1 rfl (Nat.le_of_ble_eq_true rfl) dX11_joins_286 ⟨Nat.le_of_ble_eq_true rfl, Nat.le_of_ble_eq_true rfl⟩) hP hD hS hA [0, 1] [] rfl rfl (by decide +kernel) (by decide +kernel) (fun u H locs hq hP hD hS => ?_)
                  obtain ⟨x25500195, f25500196⟩ := u
                  obtain ⟨hx25500195, hp25500197⟩ := hq
                  have hx25500195 : 1 ≤ x25500195.toInt ∧ x25500195.toInt ≤ 800 := hx25500195
                  have hp25500197 : x25500195.toInt = x25500142.toInt + 1 := hp25500197
                  have hl25500198 : (1 : Int64).toInt = 1 := by decide
                  have hP : va_P D vwCl [(a, .inr (11, OX z i1 i2 i3 i4 i5 i6 i7 i8 i30 i43 i45 i46 i47 i48 i49 i50 i51 i58 i59 i65 x25500195 i69 i72 i78 i80 i81 i82 i87 i92 i96 i100 i103 i104)), ((z 67), .inl (T 1, 800, .inr (.inl f25500196)))] H := hP
                  have hD : va_D A [(a, .inr (11, OX z i1 i2 i3 i4 i5 i6 i7 i8 i30 i43 i45 i46 i47 i48 i49 i50 i51 i58 i59 i65 x25500195 i69 i72 i78 i80 i81 i82 i87 i92 i96 i100 i103 i104)), ((z 67), .inl (T 1, 800, .inr (.inl f25500196)))] := hD
                  refine W.widen (k := 0) (n := 0) (Nat.le_refl _) (Nat.le_refl _) ?_
                  exact r_vret2 (x25500195, f25500196) C0 hr hlocks hS (Nat.le_refl _) (Nat.le_refl _) dX11_joins_289 ⟨⟨by omega, by omega⟩, (by omega)⟩ (hP.sub (ws' := [(a, .inr (11, OX z i1 i2 i3 i4 i5 i6 i7 i8 i30 i43 i45 i46 i47 i48 i49 i50 i51 i58 i59 i65 x25500195 i69 i72 i78 i80 i81 i82 i87 i92 i96 i100 i103 i104)), ((z 67), .inl (T 1, 800, .inr (.inl f25500196)))]) [0, 1] rfl) (hD.sub (ws' := [(a, .inr (11, OX z i1 i2 i3 i4 i5 i6 i7 i8 i30 i43 i45 i46 i47 i48 i49 i50 i51 i58 i59 i65 x25500195 i69 i72 i78 i80 i81 i82 i87 i92 i96 i100 i103 i104)), ((z 67), .inl (T 1, 800, .inr (.inl f25500196)))]) [0, 1] (by decide +kernel) rfl)
              · skip
                have kc25500186 : p1.toInt ≠ 7 := ne_ti rfl (by decide) c25500186
                by_cases c25500199 : p1 = 8
                · skip
                  have kc25500199 : p1.toInt = 8 := eq_ti rfl (by decide) c25500199
                  refine lv_tableIn (off := 235) (tgt := 271) hx hb dX11_joins_36 (by omega) (by omega) (by rw [kc25500199]; rfl) (by decide) ?_
                  refine lv_aload_n hx hb dX11_joins_271 rfl (lv_at hl 2 rfl) ?_
                  refine lv_lload hx hb dX11_joins_272 (lv_at hl 0 rfl) ?_
                  refine lv_lload_n hx hb dX11_joins_274 rfl (lv_at hl 1 rfl) ?_
                  refine lv_ladd hx hb dX11_joins_275 ?_
                  refine lv_topl (fun x25500200 ex25500200 => ?_)
                  refine lv_lconst (v := 0) hx hb dX11_joins_276 (by decide) ?_
                  refine W.lcmp hx hb dX11_joins_277 ?_
                  refine lv_topi (fun x25500201 ex25500201 => ?_)
                  refine lv_if_le (tgt := 285) hx hb dX11_joins_278 (by decide) (fun c25500202 => ?_) (fun c25500202 => ?_)
                  · skip
                    have kc25500202 : x25500201.toInt ≤ 0 := le_ti rfl (by decide) c25500202
                    have qc25500202 : x25500200.toInt ≤ 0 := lc_le ex25500201 rfl (by decide) kc25500202
                    refine lv_lconst (v := 0) hx hb dX11_joins_285 (by decide) ?_
                    refine r_callv2 (wr := []) (r_runV2 (As := [.long 0]) (rest := []) (wc := [(a, .inr (11, OX z i1 i2 i3 i4 i5 i6 i7 i8 i30 i43 i45 i46 i47 i48 i49 i50 i51 i58 i59 i65 x25500142 i69 i72 i78 i80 i81 i82 i87 i92 i96 i100 i103 i104)), ((z 67), .inl (T 1, 800, .inr (.inl g67)))]) (ci := 11) C0 hE hStr hS (va_free (wc := [(a, .inr (11, OX z i1 i2 i3 i4 i5 i6 i7 i8 i30 i43 i45 i46 i47 i48 i49 i50 i51 i58 i59 i65 x25500142 i69 i72 i78 i80 i81 i82 i87 i92 i96 i100 i103 i104)), ((z 67), .inl (T 1, 800, .inr (.inl g67)))]) hD hS hA [0, 1] rfl) (h_X11_puts_25400003 l D T sq sv H.size a z i1 i2 i3 i4 i5 i6 i7 i8 i30 i43 i45 i46 i47 i48 i49 i50 i51 i58 i59 i65 x25500142 i69 i72 i78 i80 i81 i82 i87 i92 i96 i100 i103 i104 0 g67 ⟨by omega, by omega⟩) mw_1095 mw_1096 mw_1339 mw_14 mw_1097 dn_1764 rfl rfl ⟨Nat.le_of_ble_eq_true rfl, Nat.le_of_ble_eq_true rfl⟩ (hP.sub (ws' := [(a, .inr (11, OX z i1 i2 i3 i4 i5 i6 i7 i8 i30 i43 i45 i46 i47 i48 i49 i50 i51 i58 i59 i65 x25500142 i69 i72 i78 i80 i81 i82 i87 i92 i96 i100 i103 i104)), ((z 67), .inl (T 1, 800, .inr (.inl g67)))]) [0, 1] rfl) (hD.sub (ws' := [(a, .inr (11, OX z i1 i2 i3 i4 i5 i6 i7 i8 i30 i43 i45 i46 i47 i48 i49 i50 i51 i58 i59 i65 x25500142 i69 i72 i78 i80 i81 i82 i87 i92 i96 i100 i103 i104)), ((z 67), .inl (T 1, 800, .inr (.inl g67)))]) [0, 1] (by decide +kernel) rfl) rfl rfl rfl hl.1 rfl (Nat.le_of_ble_eq_true rfl) dX11_joins_286 ⟨Nat.le_of_ble_eq_true rfl, Nat.le_of_ble_eq_true rfl⟩) hP hD hS hA [0, 1] [] rfl rfl (by decide +kernel) (by decide +kernel) (fun u H locs hq hP hD hS => ?_)
                    obtain ⟨x25500203, f25500204⟩ := u
                    obtain ⟨hx25500203, hp25500205⟩ := hq
                    have hx25500203 : 1 ≤ x25500203.toInt ∧ x25500203.toInt ≤ 800 := hx25500203
                    have hp25500205 : x25500203.toInt = x25500142.toInt + 1 := hp25500205
                    have hl25500206 : (0 : Int64).toInt = 0 := by decide
                    have hP : va_P D vwCl [(a, .inr (11, OX z i1 i2 i3 i4 i5 i6 i7 i8 i30 i43 i45 i46 i47 i48 i49 i50 i51 i58 i59 i65 x25500203 i69 i72 i78 i80 i81 i82 i87 i92 i96 i100 i103 i104)), ((z 67), .inl (T 1, 800, .inr (.inl f25500204)))] H := hP
                    have hD : va_D A [(a, .inr (11, OX z i1 i2 i3 i4 i5 i6 i7 i8 i30 i43 i45 i46 i47 i48 i49 i50 i51 i58 i59 i65 x25500203 i69 i72 i78 i80 i81 i82 i87 i92 i96 i100 i103 i104)), ((z 67), .inl (T 1, 800, .inr (.inl f25500204)))] := hD
                    refine W.widen (k := 0) (n := 0) (Nat.le_refl _) (Nat.le_refl _) ?_
                    exact r_vret2 (x25500203, f25500204) C0 hr hlocks hS (Nat.le_refl _) (Nat.le_refl _) dX11_joins_289 ⟨⟨by omega, by omega⟩, (by omega)⟩ (hP.sub (ws' := [(a, .inr (11, OX z i1 i2 i3 i4 i5 i6 i7 i8 i30 i43 i45 i46 i47 i48 i49 i50 i51 i58 i59 i65 x25500203 i69 i72 i78 i80 i81 i82 i87 i92 i96 i100 i103 i104)), ((z 67), .inl (T 1, 800, .inr (.inl f25500204)))]) [0, 1] rfl) (hD.sub (ws' := [(a, .inr (11, OX z i1 i2 i3 i4 i5 i6 i7 i8 i30 i43 i45 i46 i47 i48 i49 i50 i51 i58 i59 i65 x25500203 i69 i72 i78 i80 i81 i82 i87 i92 i96 i100 i103 i104)), ((z 67), .inl (T 1, 800, .inr (.inl f25500204)))]) [0, 1] (by decide +kernel) rfl)
                  · skip
                    have kc25500202 : 0 < x25500201.toInt := nle_ti rfl (by decide) c25500202
                    have qc25500202 : 0 < x25500200.toInt := lc_gt ex25500201 rfl (by decide) kc25500202
                    have rg25500207 := i32_rng x25500201
                    refine lv_lconst (v := 1) hx hb dX11_joins_281 (by decide) ?_
                    refine lv_goto (tgt := 286) hx hb dX11_joins_282 (by decide) ?_
                    refine r_callv2 (wr := []) (r_runV2 (As := [.long 1]) (rest := []) (wc := [(a, .inr (11, OX z i1 i2 i3 i4 i5 i6 i7 i8 i30 i43 i45 i46 i47 i48 i49 i50 i51 i58 i59 i65 x25500142 i69 i72 i78 i80 i81 i82 i87 i92 i96 i100 i103 i104)), ((z 67), .inl (T 1, 800, .inr (.inl g67)))]) (ci := 11) C0 hE hStr hS (va_free (wc := [(a, .inr (11, OX z i1 i2 i3 i4 i5 i6 i7 i8 i30 i43 i45 i46 i47 i48 i49 i50 i51 i58 i59 i65 x25500142 i69 i72 i78 i80 i81 i82 i87 i92 i96 i100 i103 i104)), ((z 67), .inl (T 1, 800, .inr (.inl g67)))]) hD hS hA [0, 1] rfl) (h_X11_puts_25400003 l D T sq sv H.size a z i1 i2 i3 i4 i5 i6 i7 i8 i30 i43 i45 i46 i47 i48 i49 i50 i51 i58 i59 i65 x25500142 i69 i72 i78 i80 i81 i82 i87 i92 i96 i100 i103 i104 1 g67 ⟨by omega, by omega⟩) mw_1095 mw_1096 mw_1339 mw_14 mw_1097 dn_1764 rfl rfl ⟨Nat.le_of_ble_eq_true rfl, Nat.le_of_ble_eq_true rfl⟩ (hP.sub (ws' := [(a, .inr (11, OX z i1 i2 i3 i4 i5 i6 i7 i8 i30 i43 i45 i46 i47 i48 i49 i50 i51 i58 i59 i65 x25500142 i69 i72 i78 i80 i81 i82 i87 i92 i96 i100 i103 i104)), ((z 67), .inl (T 1, 800, .inr (.inl g67)))]) [0, 1] rfl) (hD.sub (ws' := [(a, .inr (11, OX z i1 i2 i3 i4 i5 i6 i7 i8 i30 i43 i45 i46 i47 i48 i49 i50 i51 i58 i59 i65 x25500142 i69 i72 i78 i80 i81 i82 i87 i92 i96 i100 i103 i104)), ((z 67), .inl (T 1, 800, .inr (.inl g67)))]) [0, 1] (by decide +kernel) rfl) rfl rfl rfl hl.1 rfl (Nat.le_of_ble_eq_true rfl) dX11_joins_286 ⟨Nat.le_of_ble_eq_true rfl, Nat.le_of_ble_eq_true rfl⟩) hP hD hS hA [0, 1] [] rfl rfl (by decide +kernel) (by decide +kernel) (fun u H locs hq hP hD hS => ?_)
                    obtain ⟨x25500208, f25500209⟩ := u
                    obtain ⟨hx25500208, hp25500210⟩ := hq
                    have hx25500208 : 1 ≤ x25500208.toInt ∧ x25500208.toInt ≤ 800 := hx25500208
                    have hp25500210 : x25500208.toInt = x25500142.toInt + 1 := hp25500210
                    have hl25500211 : (1 : Int64).toInt = 1 := by decide
                    have hP : va_P D vwCl [(a, .inr (11, OX z i1 i2 i3 i4 i5 i6 i7 i8 i30 i43 i45 i46 i47 i48 i49 i50 i51 i58 i59 i65 x25500208 i69 i72 i78 i80 i81 i82 i87 i92 i96 i100 i103 i104)), ((z 67), .inl (T 1, 800, .inr (.inl f25500209)))] H := hP
                    have hD : va_D A [(a, .inr (11, OX z i1 i2 i3 i4 i5 i6 i7 i8 i30 i43 i45 i46 i47 i48 i49 i50 i51 i58 i59 i65 x25500208 i69 i72 i78 i80 i81 i82 i87 i92 i96 i100 i103 i104)), ((z 67), .inl (T 1, 800, .inr (.inl f25500209)))] := hD
                    refine W.widen (k := 0) (n := 0) (Nat.le_refl _) (Nat.le_refl _) ?_
                    exact r_vret2 (x25500208, f25500209) C0 hr hlocks hS (Nat.le_refl _) (Nat.le_refl _) dX11_joins_289 ⟨⟨by omega, by omega⟩, (by omega)⟩ (hP.sub (ws' := [(a, .inr (11, OX z i1 i2 i3 i4 i5 i6 i7 i8 i30 i43 i45 i46 i47 i48 i49 i50 i51 i58 i59 i65 x25500208 i69 i72 i78 i80 i81 i82 i87 i92 i96 i100 i103 i104)), ((z 67), .inl (T 1, 800, .inr (.inl f25500209)))]) [0, 1] rfl) (hD.sub (ws' := [(a, .inr (11, OX z i1 i2 i3 i4 i5 i6 i7 i8 i30 i43 i45 i46 i47 i48 i49 i50 i51 i58 i59 i65 x25500208 i69 i72 i78 i80 i81 i82 i87 i92 i96 i100 i103 i104)), ((z 67), .inl (T 1, 800, .inr (.inl f25500209)))]) [0, 1] (by decide +kernel) rfl)
                · skip
                  have kc25500199 : p1.toInt ≠ 8 := ne_ti rfl (by decide) c25500199
                  by_cases c25500212 : p1 = 9
                  · skip
                    have kc25500212 : p1.toInt = 9 := eq_ti rfl (by decide) c25500212
                    refine lv_tableIn (off := 235) (tgt := 271) hx hb dX11_joins_36 (by omega) (by omega) (by rw [kc25500212]; rfl) (by decide) ?_
                    refine lv_aload_n hx hb dX11_joins_271 rfl (lv_at hl 2 rfl) ?_
                    refine lv_lload hx hb dX11_joins_272 (lv_at hl 0 rfl) ?_
                    refine lv_lload_n hx hb dX11_joins_274 rfl (lv_at hl 1 rfl) ?_
                    refine lv_ladd hx hb dX11_joins_275 ?_
                    refine lv_topl (fun x25500213 ex25500213 => ?_)
                    refine lv_lconst (v := 0) hx hb dX11_joins_276 (by decide) ?_
                    refine W.lcmp hx hb dX11_joins_277 ?_
                    refine lv_topi (fun x25500214 ex25500214 => ?_)
                    refine lv_if_le (tgt := 285) hx hb dX11_joins_278 (by decide) (fun c25500215 => ?_) (fun c25500215 => ?_)
                    · skip
                      have kc25500215 : x25500214.toInt ≤ 0 := le_ti rfl (by decide) c25500215
                      have qc25500215 : x25500213.toInt ≤ 0 := lc_le ex25500214 rfl (by decide) kc25500215
                      refine lv_lconst (v := 0) hx hb dX11_joins_285 (by decide) ?_
                      refine r_callv2 (wr := []) (r_runV2 (As := [.long 0]) (rest := []) (wc := [(a, .inr (11, OX z i1 i2 i3 i4 i5 i6 i7 i8 i30 i43 i45 i46 i47 i48 i49 i50 i51 i58 i59 i65 x25500142 i69 i72 i78 i80 i81 i82 i87 i92 i96 i100 i103 i104)), ((z 67), .inl (T 1, 800, .inr (.inl g67)))]) (ci := 11) C0 hE hStr hS (va_free (wc := [(a, .inr (11, OX z i1 i2 i3 i4 i5 i6 i7 i8 i30 i43 i45 i46 i47 i48 i49 i50 i51 i58 i59 i65 x25500142 i69 i72 i78 i80 i81 i82 i87 i92 i96 i100 i103 i104)), ((z 67), .inl (T 1, 800, .inr (.inl g67)))]) hD hS hA [0, 1] rfl) (h_X11_puts_25400003 l D T sq sv H.size a z i1 i2 i3 i4 i5 i6 i7 i8 i30 i43 i45 i46 i47 i48 i49 i50 i51 i58 i59 i65 x25500142 i69 i72 i78 i80 i81 i82 i87 i92 i96 i100 i103 i104 0 g67 ⟨by omega, by omega⟩) mw_1095 mw_1096 mw_1339 mw_14 mw_1097 dn_1764 rfl rfl ⟨Nat.le_of_ble_eq_true rfl, Nat.le_of_ble_eq_true rfl⟩ (hP.sub (ws' := [(a, .inr (11, OX z i1 i2 i3 i4 i5 i6 i7 i8 i30 i43 i45 i46 i47 i48 i49 i50 i51 i58 i59 i65 x25500142 i69 i72 i78 i80 i81 i82 i87 i92 i96 i100 i103 i104)), ((z 67), .inl (T 1, 800, .inr (.inl g67)))]) [0, 1] rfl) (hD.sub (ws' := [(a, .inr (11, OX z i1 i2 i3 i4 i5 i6 i7 i8 i30 i43 i45 i46 i47 i48 i49 i50 i51 i58 i59 i65 x25500142 i69 i72 i78 i80 i81 i82 i87 i92 i96 i100 i103 i104)), ((z 67), .inl (T 1, 800, .inr (.inl g67)))]) [0, 1] (by decide +kernel) rfl) rfl rfl rfl hl.1 rfl (Nat.le_of_ble_eq_true rfl) dX11_joins_286 ⟨Nat.le_of_ble_eq_true rfl, Nat.le_of_ble_eq_true rfl⟩) hP hD hS hA [0, 1] [] rfl rfl (by decide +kernel) (by decide +kernel) (fun u H locs hq hP hD hS => ?_)
                      obtain ⟨x25500216, f25500217⟩ := u
                      obtain ⟨hx25500216, hp25500218⟩ := hq
                      have hx25500216 : 1 ≤ x25500216.toInt ∧ x25500216.toInt ≤ 800 := hx25500216
                      have hp25500218 : x25500216.toInt = x25500142.toInt + 1 := hp25500218
                      have hl25500219 : (0 : Int64).toInt = 0 := by decide
                      have hP : va_P D vwCl [(a, .inr (11, OX z i1 i2 i3 i4 i5 i6 i7 i8 i30 i43 i45 i46 i47 i48 i49 i50 i51 i58 i59 i65 x25500216 i69 i72 i78 i80 i81 i82 i87 i92 i96 i100 i103 i104)), ((z 67), .inl (T 1, 800, .inr (.inl f25500217)))] H := hP
                      have hD : va_D A [(a, .inr (11, OX z i1 i2 i3 i4 i5 i6 i7 i8 i30 i43 i45 i46 i47 i48 i49 i50 i51 i58 i59 i65 x25500216 i69 i72 i78 i80 i81 i82 i87 i92 i96 i100 i103 i104)), ((z 67), .inl (T 1, 800, .inr (.inl f25500217)))] := hD
                      refine W.widen (k := 0) (n := 0) (Nat.le_refl _) (Nat.le_refl _) ?_
                      exact r_vret2 (x25500216, f25500217) C0 hr hlocks hS (Nat.le_refl _) (Nat.le_refl _) dX11_joins_289 ⟨⟨by omega, by omega⟩, (by omega)⟩ (hP.sub (ws' := [(a, .inr (11, OX z i1 i2 i3 i4 i5 i6 i7 i8 i30 i43 i45 i46 i47 i48 i49 i50 i51 i58 i59 i65 x25500216 i69 i72 i78 i80 i81 i82 i87 i92 i96 i100 i103 i104)), ((z 67), .inl (T 1, 800, .inr (.inl f25500217)))]) [0, 1] rfl) (hD.sub (ws' := [(a, .inr (11, OX z i1 i2 i3 i4 i5 i6 i7 i8 i30 i43 i45 i46 i47 i48 i49 i50 i51 i58 i59 i65 x25500216 i69 i72 i78 i80 i81 i82 i87 i92 i96 i100 i103 i104)), ((z 67), .inl (T 1, 800, .inr (.inl f25500217)))]) [0, 1] (by decide +kernel) rfl)
                    · skip
                      have kc25500215 : 0 < x25500214.toInt := nle_ti rfl (by decide) c25500215
                      have qc25500215 : 0 < x25500213.toInt := lc_gt ex25500214 rfl (by decide) kc25500215
                      have rg25500220 := i32_rng x25500214
                      refine lv_lconst (v := 1) hx hb dX11_joins_281 (by decide) ?_
                      refine lv_goto (tgt := 286) hx hb dX11_joins_282 (by decide) ?_
                      refine r_callv2 (wr := []) (r_runV2 (As := [.long 1]) (rest := []) (wc := [(a, .inr (11, OX z i1 i2 i3 i4 i5 i6 i7 i8 i30 i43 i45 i46 i47 i48 i49 i50 i51 i58 i59 i65 x25500142 i69 i72 i78 i80 i81 i82 i87 i92 i96 i100 i103 i104)), ((z 67), .inl (T 1, 800, .inr (.inl g67)))]) (ci := 11) C0 hE hStr hS (va_free (wc := [(a, .inr (11, OX z i1 i2 i3 i4 i5 i6 i7 i8 i30 i43 i45 i46 i47 i48 i49 i50 i51 i58 i59 i65 x25500142 i69 i72 i78 i80 i81 i82 i87 i92 i96 i100 i103 i104)), ((z 67), .inl (T 1, 800, .inr (.inl g67)))]) hD hS hA [0, 1] rfl) (h_X11_puts_25400003 l D T sq sv H.size a z i1 i2 i3 i4 i5 i6 i7 i8 i30 i43 i45 i46 i47 i48 i49 i50 i51 i58 i59 i65 x25500142 i69 i72 i78 i80 i81 i82 i87 i92 i96 i100 i103 i104 1 g67 ⟨by omega, by omega⟩) mw_1095 mw_1096 mw_1339 mw_14 mw_1097 dn_1764 rfl rfl ⟨Nat.le_of_ble_eq_true rfl, Nat.le_of_ble_eq_true rfl⟩ (hP.sub (ws' := [(a, .inr (11, OX z i1 i2 i3 i4 i5 i6 i7 i8 i30 i43 i45 i46 i47 i48 i49 i50 i51 i58 i59 i65 x25500142 i69 i72 i78 i80 i81 i82 i87 i92 i96 i100 i103 i104)), ((z 67), .inl (T 1, 800, .inr (.inl g67)))]) [0, 1] rfl) (hD.sub (ws' := [(a, .inr (11, OX z i1 i2 i3 i4 i5 i6 i7 i8 i30 i43 i45 i46 i47 i48 i49 i50 i51 i58 i59 i65 x25500142 i69 i72 i78 i80 i81 i82 i87 i92 i96 i100 i103 i104)), ((z 67), .inl (T 1, 800, .inr (.inl g67)))]) [0, 1] (by decide +kernel) rfl) rfl rfl rfl hl.1 rfl (Nat.le_of_ble_eq_true rfl) dX11_joins_286 ⟨Nat.le_of_ble_eq_true rfl, Nat.le_of_ble_eq_true rfl⟩) hP hD hS hA [0, 1] [] rfl rfl (by decide +kernel) (by decide +kernel) (fun u H locs hq hP hD hS => ?_)
                      obtain ⟨x25500221, f25500222⟩ := u
                      obtain ⟨hx25500221, hp25500223⟩ := hq
                      have hx25500221 : 1 ≤ x25500221.toInt ∧ x25500221.toInt ≤ 800 := hx25500221
                      have hp25500223 : x25500221.toInt = x25500142.toInt + 1 := hp25500223
                      have hl25500224 : (1 : Int64).toInt = 1 := by decide
                      have hP : va_P D vwCl [(a, .inr (11, OX z i1 i2 i3 i4 i5 i6 i7 i8 i30 i43 i45 i46 i47 i48 i49 i50 i51 i58 i59 i65 x25500221 i69 i72 i78 i80 i81 i82 i87 i92 i96 i100 i103 i104)), ((z 67), .inl (T 1, 800, .inr (.inl f25500222)))] H := hP
                      have hD : va_D A [(a, .inr (11, OX z i1 i2 i3 i4 i5 i6 i7 i8 i30 i43 i45 i46 i47 i48 i49 i50 i51 i58 i59 i65 x25500221 i69 i72 i78 i80 i81 i82 i87 i92 i96 i100 i103 i104)), ((z 67), .inl (T 1, 800, .inr (.inl f25500222)))] := hD
                      refine W.widen (k := 0) (n := 0) (Nat.le_refl _) (Nat.le_refl _) ?_
                      exact r_vret2 (x25500221, f25500222) C0 hr hlocks hS (Nat.le_refl _) (Nat.le_refl _) dX11_joins_289 ⟨⟨by omega, by omega⟩, (by omega)⟩ (hP.sub (ws' := [(a, .inr (11, OX z i1 i2 i3 i4 i5 i6 i7 i8 i30 i43 i45 i46 i47 i48 i49 i50 i51 i58 i59 i65 x25500221 i69 i72 i78 i80 i81 i82 i87 i92 i96 i100 i103 i104)), ((z 67), .inl (T 1, 800, .inr (.inl f25500222)))]) [0, 1] rfl) (hD.sub (ws' := [(a, .inr (11, OX z i1 i2 i3 i4 i5 i6 i7 i8 i30 i43 i45 i46 i47 i48 i49 i50 i51 i58 i59 i65 x25500221 i69 i72 i78 i80 i81 i82 i87 i92 i96 i100 i103 i104)), ((z 67), .inl (T 1, 800, .inr (.inl f25500222)))]) [0, 1] (by decide +kernel) rfl)
                  · skip
                    have kc25500212 : p1.toInt ≠ 9 := ne_ti rfl (by decide) c25500212
                    by_cases c25500225 : p1 = 10
                    · skip
                      have kc25500225 : p1.toInt = 10 := eq_ti rfl (by decide) c25500225
                      refine lv_tableIn (off := 235) (tgt := 271) hx hb dX11_joins_36 (by omega) (by omega) (by rw [kc25500225]; rfl) (by decide) ?_
                      refine lv_aload_n hx hb dX11_joins_271 rfl (lv_at hl 2 rfl) ?_
                      refine lv_lload hx hb dX11_joins_272 (lv_at hl 0 rfl) ?_
                      refine lv_lload_n hx hb dX11_joins_274 rfl (lv_at hl 1 rfl) ?_
                      refine lv_ladd hx hb dX11_joins_275 ?_
                      refine lv_topl (fun x25500226 ex25500226 => ?_)
                      refine lv_lconst (v := 0) hx hb dX11_joins_276 (by decide) ?_
                      refine W.lcmp hx hb dX11_joins_277 ?_
                      refine lv_topi (fun x25500227 ex25500227 => ?_)
                      refine lv_if_le (tgt := 285) hx hb dX11_joins_278 (by decide) (fun c25500228 => ?_) (fun c25500228 => ?_)
                      · skip
                        have kc25500228 : x25500227.toInt ≤ 0 := le_ti rfl (by decide) c25500228
                        have qc25500228 : x25500226.toInt ≤ 0 := lc_le ex25500227 rfl (by decide) kc25500228
                        refine lv_lconst (v := 0) hx hb dX11_joins_285 (by decide) ?_
                        refine r_callv2 (wr := []) (r_runV2 (As := [.long 0]) (rest := []) (wc := [(a, .inr (11, OX z i1 i2 i3 i4 i5 i6 i7 i8 i30 i43 i45 i46 i47 i48 i49 i50 i51 i58 i59 i65 x25500142 i69 i72 i78 i80 i81 i82 i87 i92 i96 i100 i103 i104)), ((z 67), .inl (T 1, 800, .inr (.inl g67)))]) (ci := 11) C0 hE hStr hS (va_free (wc := [(a, .inr (11, OX z i1 i2 i3 i4 i5 i6 i7 i8 i30 i43 i45 i46 i47 i48 i49 i50 i51 i58 i59 i65 x25500142 i69 i72 i78 i80 i81 i82 i87 i92 i96 i100 i103 i104)), ((z 67), .inl (T 1, 800, .inr (.inl g67)))]) hD hS hA [0, 1] rfl) (h_X11_puts_25400003 l D T sq sv H.size a z i1 i2 i3 i4 i5 i6 i7 i8 i30 i43 i45 i46 i47 i48 i49 i50 i51 i58 i59 i65 x25500142 i69 i72 i78 i80 i81 i82 i87 i92 i96 i100 i103 i104 0 g67 ⟨by omega, by omega⟩) mw_1095 mw_1096 mw_1339 mw_14 mw_1097 dn_1764 rfl rfl ⟨Nat.le_of_ble_eq_true rfl, Nat.le_of_ble_eq_true rfl⟩ (hP.sub (ws' := [(a, .inr (11, OX z i1 i2 i3 i4 i5 i6 i7 i8 i30 i43 i45 i46 i47 i48 i49 i50 i51 i58 i59 i65 x25500142 i69 i72 i78 i80 i81 i82 i87 i92 i96 i100 i103 i104)), ((z 67), .inl (T 1, 800, .inr (.inl g67)))]) [0, 1] rfl) (hD.sub (ws' := [(a, .inr (11, OX z i1 i2 i3 i4 i5 i6 i7 i8 i30 i43 i45 i46 i47 i48 i49 i50 i51 i58 i59 i65 x25500142 i69 i72 i78 i80 i81 i82 i87 i92 i96 i100 i103 i104)), ((z 67), .inl (T 1, 800, .inr (.inl g67)))]) [0, 1] (by decide +kernel) rfl) rfl rfl rfl hl.1 rfl (Nat.le_of_ble_eq_true rfl) dX11_joins_286 ⟨Nat.le_of_ble_eq_true rfl, Nat.le_of_ble_eq_true rfl⟩) hP hD hS hA [0, 1] [] rfl rfl (by decide +kernel) (by decide +kernel) (fun u H locs hq hP hD hS => ?_)
                        obtain ⟨x25500229, f25500230⟩ := u
                        obtain ⟨hx25500229, hp25500231⟩ := hq
                        have hx25500229 : 1 ≤ x25500229.toInt ∧ x25500229.toInt ≤ 800 := hx25500229
                        have hp25500231 : x25500229.toInt = x25500142.toInt + 1 := hp25500231
                        have hl25500232 : (0 : Int64).toInt = 0 := by decide
                        have hP : va_P D vwCl [(a, .inr (11, OX z i1 i2 i3 i4 i5 i6 i7 i8 i30 i43 i45 i46 i47 i48 i49 i50 i51 i58 i59 i65 x25500229 i69 i72 i78 i80 i81 i82 i87 i92 i96 i100 i103 i104)), ((z 67), .inl (T 1, 800, .inr (.inl f25500230)))] H := hP
                        have hD : va_D A [(a, .inr (11, OX z i1 i2 i3 i4 i5 i6 i7 i8 i30 i43 i45 i46 i47 i48 i49 i50 i51 i58 i59 i65 x25500229 i69 i72 i78 i80 i81 i82 i87 i92 i96 i100 i103 i104)), ((z 67), .inl (T 1, 800, .inr (.inl f25500230)))] := hD
                        refine W.widen (k := 0) (n := 0) (Nat.le_refl _) (Nat.le_refl _) ?_
                        exact r_vret2 (x25500229, f25500230) C0 hr hlocks hS (Nat.le_refl _) (Nat.le_refl _) dX11_joins_289 ⟨⟨by omega, by omega⟩, (by omega)⟩ (hP.sub (ws' := [(a, .inr (11, OX z i1 i2 i3 i4 i5 i6 i7 i8 i30 i43 i45 i46 i47 i48 i49 i50 i51 i58 i59 i65 x25500229 i69 i72 i78 i80 i81 i82 i87 i92 i96 i100 i103 i104)), ((z 67), .inl (T 1, 800, .inr (.inl f25500230)))]) [0, 1] rfl) (hD.sub (ws' := [(a, .inr (11, OX z i1 i2 i3 i4 i5 i6 i7 i8 i30 i43 i45 i46 i47 i48 i49 i50 i51 i58 i59 i65 x25500229 i69 i72 i78 i80 i81 i82 i87 i92 i96 i100 i103 i104)), ((z 67), .inl (T 1, 800, .inr (.inl f25500230)))]) [0, 1] (by decide +kernel) rfl)
                      · skip
                        have kc25500228 : 0 < x25500227.toInt := nle_ti rfl (by decide) c25500228
                        have qc25500228 : 0 < x25500226.toInt := lc_gt ex25500227 rfl (by decide) kc25500228
                        have rg25500233 := i32_rng x25500227
                        refine lv_lconst (v := 1) hx hb dX11_joins_281 (by decide) ?_
                        refine lv_goto (tgt := 286) hx hb dX11_joins_282 (by decide) ?_
                        refine r_callv2 (wr := []) (r_runV2 (As := [.long 1]) (rest := []) (wc := [(a, .inr (11, OX z i1 i2 i3 i4 i5 i6 i7 i8 i30 i43 i45 i46 i47 i48 i49 i50 i51 i58 i59 i65 x25500142 i69 i72 i78 i80 i81 i82 i87 i92 i96 i100 i103 i104)), ((z 67), .inl (T 1, 800, .inr (.inl g67)))]) (ci := 11) C0 hE hStr hS (va_free (wc := [(a, .inr (11, OX z i1 i2 i3 i4 i5 i6 i7 i8 i30 i43 i45 i46 i47 i48 i49 i50 i51 i58 i59 i65 x25500142 i69 i72 i78 i80 i81 i82 i87 i92 i96 i100 i103 i104)), ((z 67), .inl (T 1, 800, .inr (.inl g67)))]) hD hS hA [0, 1] rfl) (h_X11_puts_25400003 l D T sq sv H.size a z i1 i2 i3 i4 i5 i6 i7 i8 i30 i43 i45 i46 i47 i48 i49 i50 i51 i58 i59 i65 x25500142 i69 i72 i78 i80 i81 i82 i87 i92 i96 i100 i103 i104 1 g67 ⟨by omega, by omega⟩) mw_1095 mw_1096 mw_1339 mw_14 mw_1097 dn_1764 rfl rfl ⟨Nat.le_of_ble_eq_true rfl, Nat.le_of_ble_eq_true rfl⟩ (hP.sub (ws' := [(a, .inr (11, OX z i1 i2 i3 i4 i5 i6 i7 i8 i30 i43 i45 i46 i47 i48 i49 i50 i51 i58 i59 i65 x25500142 i69 i72 i78 i80 i81 i82 i87 i92 i96 i100 i103 i104)), ((z 67), .inl (T 1, 800, .inr (.inl g67)))]) [0, 1] rfl) (hD.sub (ws' := [(a, .inr (11, OX z i1 i2 i3 i4 i5 i6 i7 i8 i30 i43 i45 i46 i47 i48 i49 i50 i51 i58 i59 i65 x25500142 i69 i72 i78 i80 i81 i82 i87 i92 i96 i100 i103 i104)), ((z 67), .inl (T 1, 800, .inr (.inl g67)))]) [0, 1] (by decide +kernel) rfl) rfl rfl rfl hl.1 rfl (Nat.le_of_ble_eq_true rfl) dX11_joins_286 ⟨Nat.le_of_ble_eq_true rfl, Nat.le_of_ble_eq_true rfl⟩) hP hD hS hA [0, 1] [] rfl rfl (by decide +kernel) (by decide +kernel) (fun u H locs hq hP hD hS => ?_)
                        obtain ⟨x25500234, f25500235⟩ := u
                        obtain ⟨hx25500234, hp25500236⟩ := hq
                        have hx25500234 : 1 ≤ x25500234.toInt ∧ x25500234.toInt ≤ 800 := hx25500234
                        have hp25500236 : x25500234.toInt = x25500142.toInt + 1 := hp25500236
                        have hl25500237 : (1 : Int64).toInt = 1 := by decide
                        have hP : va_P D vwCl [(a, .inr (11, OX z i1 i2 i3 i4 i5 i6 i7 i8 i30 i43 i45 i46 i47 i48 i49 i50 i51 i58 i59 i65 x25500234 i69 i72 i78 i80 i81 i82 i87 i92 i96 i100 i103 i104)), ((z 67), .inl (T 1, 800, .inr (.inl f25500235)))] H := hP
                        have hD : va_D A [(a, .inr (11, OX z i1 i2 i3 i4 i5 i6 i7 i8 i30 i43 i45 i46 i47 i48 i49 i50 i51 i58 i59 i65 x25500234 i69 i72 i78 i80 i81 i82 i87 i92 i96 i100 i103 i104)), ((z 67), .inl (T 1, 800, .inr (.inl f25500235)))] := hD
                        refine W.widen (k := 0) (n := 0) (Nat.le_refl _) (Nat.le_refl _) ?_
                        exact r_vret2 (x25500234, f25500235) C0 hr hlocks hS (Nat.le_refl _) (Nat.le_refl _) dX11_joins_289 ⟨⟨by omega, by omega⟩, (by omega)⟩ (hP.sub (ws' := [(a, .inr (11, OX z i1 i2 i3 i4 i5 i6 i7 i8 i30 i43 i45 i46 i47 i48 i49 i50 i51 i58 i59 i65 x25500234 i69 i72 i78 i80 i81 i82 i87 i92 i96 i100 i103 i104)), ((z 67), .inl (T 1, 800, .inr (.inl f25500235)))]) [0, 1] rfl) (hD.sub (ws' := [(a, .inr (11, OX z i1 i2 i3 i4 i5 i6 i7 i8 i30 i43 i45 i46 i47 i48 i49 i50 i51 i58 i59 i65 x25500234 i69 i72 i78 i80 i81 i82 i87 i92 i96 i100 i103 i104)), ((z 67), .inl (T 1, 800, .inr (.inl f25500235)))]) [0, 1] (by decide +kernel) rfl)
                    · skip
                      have kc25500225 : p1.toInt ≠ 10 := ne_ti rfl (by decide) c25500225
                      by_cases c25500238 : p1 = 11
                      · skip
                        have kc25500238 : p1.toInt = 11 := eq_ti rfl (by decide) c25500238
                        refine lv_tableIn (off := 167) (tgt := 203) hx hb dX11_joins_36 (by omega) (by omega) (by rw [kc25500238]; rfl) (by decide) ?_
                        refine lv_aload_n hx hb dX11_joins_203 rfl (lv_at hl 2 rfl) ?_
                        refine lv_lload hx hb dX11_joins_204 (lv_at hl 0 rfl) ?_
                        refine lv_lload_n hx hb dX11_joins_206 rfl (lv_at hl 1 rfl) ?_
                        refine W.lcmp hx hb dX11_joins_207 ?_
                        refine lv_topi (fun x25500239 ex25500239 => ?_)
                        refine lv_if_ge (tgt := 215) hx hb dX11_joins_208 (by decide) (fun c25500240 => ?_) (fun c25500240 => ?_)
                        · skip
                          have kc25500240 : 0 ≤ x25500239.toInt := le_ti (by decide) rfl c25500240
                          have qc25500240 : x25500139.toInt ≤ x25500141.toInt := lc_ge ex25500239 rfl rfl kc25500240
                          refine lv_lconst (v := 0) hx hb dX11_joins_215 (by decide) ?_
                          refine r_callv2 (wr := []) (r_runV2 (As := [.long 0]) (rest := []) (wc := [(a, .inr (11, OX z i1 i2 i3 i4 i5 i6 i7 i8 i30 i43 i45 i46 i47 i48 i49 i50 i51 i58 i59 i65 x25500142 i69 i72 i78 i80 i81 i82 i87 i92 i96 i100 i103 i104)), ((z 67), .inl (T 1, 800, .inr (.inl g67)))]) (ci := 11) C0 hE hStr hS (va_free (wc := [(a, .inr (11, OX z i1 i2 i3 i4 i5 i6 i7 i8 i30 i43 i45 i46 i47 i48 i49 i50 i51 i58 i59 i65 x25500142 i69 i72 i78 i80 i81 i82 i87 i92 i96 i100 i103 i104)), ((z 67), .inl (T 1, 800, .inr (.inl g67)))]) hD hS hA [0, 1] rfl) (h_X11_puts_25400003 l D T sq sv H.size a z i1 i2 i3 i4 i5 i6 i7 i8 i30 i43 i45 i46 i47 i48 i49 i50 i51 i58 i59 i65 x25500142 i69 i72 i78 i80 i81 i82 i87 i92 i96 i100 i103 i104 0 g67 ⟨by omega, by omega⟩) mw_1095 mw_1096 mw_1339 mw_14 mw_1097 dn_1764 rfl rfl ⟨Nat.le_of_ble_eq_true rfl, Nat.le_of_ble_eq_true rfl⟩ (hP.sub (ws' := [(a, .inr (11, OX z i1 i2 i3 i4 i5 i6 i7 i8 i30 i43 i45 i46 i47 i48 i49 i50 i51 i58 i59 i65 x25500142 i69 i72 i78 i80 i81 i82 i87 i92 i96 i100 i103 i104)), ((z 67), .inl (T 1, 800, .inr (.inl g67)))]) [0, 1] rfl) (hD.sub (ws' := [(a, .inr (11, OX z i1 i2 i3 i4 i5 i6 i7 i8 i30 i43 i45 i46 i47 i48 i49 i50 i51 i58 i59 i65 x25500142 i69 i72 i78 i80 i81 i82 i87 i92 i96 i100 i103 i104)), ((z 67), .inl (T 1, 800, .inr (.inl g67)))]) [0, 1] (by decide +kernel) rfl) rfl rfl rfl hl.1 rfl (Nat.le_of_ble_eq_true rfl) dX11_joins_216 ⟨Nat.le_of_ble_eq_true rfl, Nat.le_of_ble_eq_true rfl⟩) hP hD hS hA [0, 1] [] rfl rfl (by decide +kernel) (by decide +kernel) (fun u H locs hq hP hD hS => ?_)
                          obtain ⟨x25500241, f25500242⟩ := u
                          obtain ⟨hx25500241, hp25500243⟩ := hq
                          have hx25500241 : 1 ≤ x25500241.toInt ∧ x25500241.toInt ≤ 800 := hx25500241
                          have hp25500243 : x25500241.toInt = x25500142.toInt + 1 := hp25500243
                          have hl25500244 : (0 : Int64).toInt = 0 := by decide
                          have hP : va_P D vwCl [(a, .inr (11, OX z i1 i2 i3 i4 i5 i6 i7 i8 i30 i43 i45 i46 i47 i48 i49 i50 i51 i58 i59 i65 x25500241 i69 i72 i78 i80 i81 i82 i87 i92 i96 i100 i103 i104)), ((z 67), .inl (T 1, 800, .inr (.inl f25500242)))] H := hP
                          have hD : va_D A [(a, .inr (11, OX z i1 i2 i3 i4 i5 i6 i7 i8 i30 i43 i45 i46 i47 i48 i49 i50 i51 i58 i59 i65 x25500241 i69 i72 i78 i80 i81 i82 i87 i92 i96 i100 i103 i104)), ((z 67), .inl (T 1, 800, .inr (.inl f25500242)))] := hD
                          refine W.widen (k := 0) (n := 0) (Nat.le_refl _) (Nat.le_refl _) ?_
                          refine lv_goto (tgt := 289) hx hb dX11_joins_219 (by decide) ?_
                          exact r_vret2 (x25500241, f25500242) C0 hr hlocks hS (Nat.le_refl _) (Nat.le_refl _) dX11_joins_289 ⟨⟨by omega, by omega⟩, (by omega)⟩ (hP.sub (ws' := [(a, .inr (11, OX z i1 i2 i3 i4 i5 i6 i7 i8 i30 i43 i45 i46 i47 i48 i49 i50 i51 i58 i59 i65 x25500241 i69 i72 i78 i80 i81 i82 i87 i92 i96 i100 i103 i104)), ((z 67), .inl (T 1, 800, .inr (.inl f25500242)))]) [0, 1] rfl) (hD.sub (ws' := [(a, .inr (11, OX z i1 i2 i3 i4 i5 i6 i7 i8 i30 i43 i45 i46 i47 i48 i49 i50 i51 i58 i59 i65 x25500241 i69 i72 i78 i80 i81 i82 i87 i92 i96 i100 i103 i104)), ((z 67), .inl (T 1, 800, .inr (.inl f25500242)))]) [0, 1] (by decide +kernel) rfl)
                        · skip
                          have kc25500240 : x25500239.toInt < 0 := nle_ti (by decide) rfl c25500240
                          have qc25500240 : x25500141.toInt < x25500139.toInt := lc_lt ex25500239 rfl rfl kc25500240
                          have rg25500245 := i32_rng x25500239
                          refine lv_lconst (v := 1) hx hb dX11_joins_211 (by decide) ?_
                          refine lv_goto (tgt := 216) hx hb dX11_joins_212 (by decide) ?_
                          refine r_callv2 (wr := []) (r_runV2 (As := [.long 1]) (rest := []) (wc := [(a, .inr (11, OX z i1 i2 i3 i4 i5 i6 i7 i8 i30 i43 i45 i46 i47 i48 i49 i50 i51 i58 i59 i65 x25500142 i69 i72 i78 i80 i81 i82 i87 i92 i96 i100 i103 i104)), ((z 67), .inl (T 1, 800, .inr (.inl g67)))]) (ci := 11) C0 hE hStr hS (va_free (wc := [(a, .inr (11, OX z i1 i2 i3 i4 i5 i6 i7 i8 i30 i43 i45 i46 i47 i48 i49 i50 i51 i58 i59 i65 x25500142 i69 i72 i78 i80 i81 i82 i87 i92 i96 i100 i103 i104)), ((z 67), .inl (T 1, 800, .inr (.inl g67)))]) hD hS hA [0, 1] rfl) (h_X11_puts_25400003 l D T sq sv H.size a z i1 i2 i3 i4 i5 i6 i7 i8 i30 i43 i45 i46 i47 i48 i49 i50 i51 i58 i59 i65 x25500142 i69 i72 i78 i80 i81 i82 i87 i92 i96 i100 i103 i104 1 g67 ⟨by omega, by omega⟩) mw_1095 mw_1096 mw_1339 mw_14 mw_1097 dn_1764 rfl rfl ⟨Nat.le_of_ble_eq_true rfl, Nat.le_of_ble_eq_true rfl⟩ (hP.sub (ws' := [(a, .inr (11, OX z i1 i2 i3 i4 i5 i6 i7 i8 i30 i43 i45 i46 i47 i48 i49 i50 i51 i58 i59 i65 x25500142 i69 i72 i78 i80 i81 i82 i87 i92 i96 i100 i103 i104)), ((z 67), .inl (T 1, 800, .inr (.inl g67)))]) [0, 1] rfl) (hD.sub (ws' := [(a, .inr (11, OX z i1 i2 i3 i4 i5 i6 i7 i8 i30 i43 i45 i46 i47 i48 i49 i50 i51 i58 i59 i65 x25500142 i69 i72 i78 i80 i81 i82 i87 i92 i96 i100 i103 i104)), ((z 67), .inl (T 1, 800, .inr (.inl g67)))]) [0, 1] (by decide +kernel) rfl) rfl rfl rfl hl.1 rfl (Nat.le_of_ble_eq_true rfl) dX11_joins_216 ⟨Nat.le_of_ble_eq_true rfl, Nat.le_of_ble_eq_true rfl⟩) hP hD hS hA [0, 1] [] rfl rfl (by decide +kernel) (by decide +kernel) (fun u H locs hq hP hD hS => ?_)
                          obtain ⟨x25500246, f25500247⟩ := u
                          obtain ⟨hx25500246, hp25500248⟩ := hq
                          have hx25500246 : 1 ≤ x25500246.toInt ∧ x25500246.toInt ≤ 800 := hx25500246
                          have hp25500248 : x25500246.toInt = x25500142.toInt + 1 := hp25500248
                          have hl25500249 : (1 : Int64).toInt = 1 := by decide
                          have hP : va_P D vwCl [(a, .inr (11, OX z i1 i2 i3 i4 i5 i6 i7 i8 i30 i43 i45 i46 i47 i48 i49 i50 i51 i58 i59 i65 x25500246 i69 i72 i78 i80 i81 i82 i87 i92 i96 i100 i103 i104)), ((z 67), .inl (T 1, 800, .inr (.inl f25500247)))] H := hP
                          have hD : va_D A [(a, .inr (11, OX z i1 i2 i3 i4 i5 i6 i7 i8 i30 i43 i45 i46 i47 i48 i49 i50 i51 i58 i59 i65 x25500246 i69 i72 i78 i80 i81 i82 i87 i92 i96 i100 i103 i104)), ((z 67), .inl (T 1, 800, .inr (.inl f25500247)))] := hD
                          refine W.widen (k := 0) (n := 0) (Nat.le_refl _) (Nat.le_refl _) ?_
                          refine lv_goto (tgt := 289) hx hb dX11_joins_219 (by decide) ?_
                          exact r_vret2 (x25500246, f25500247) C0 hr hlocks hS (Nat.le_refl _) (Nat.le_refl _) dX11_joins_289 ⟨⟨by omega, by omega⟩, (by omega)⟩ (hP.sub (ws' := [(a, .inr (11, OX z i1 i2 i3 i4 i5 i6 i7 i8 i30 i43 i45 i46 i47 i48 i49 i50 i51 i58 i59 i65 x25500246 i69 i72 i78 i80 i81 i82 i87 i92 i96 i100 i103 i104)), ((z 67), .inl (T 1, 800, .inr (.inl f25500247)))]) [0, 1] rfl) (hD.sub (ws' := [(a, .inr (11, OX z i1 i2 i3 i4 i5 i6 i7 i8 i30 i43 i45 i46 i47 i48 i49 i50 i51 i58 i59 i65 x25500246 i69 i72 i78 i80 i81 i82 i87 i92 i96 i100 i103 i104)), ((z 67), .inl (T 1, 800, .inr (.inl f25500247)))]) [0, 1] (by decide +kernel) rfl)
                      · skip
                        have kc25500238 : p1.toInt ≠ 11 := ne_ti rfl (by decide) c25500238
                        by_cases c25500250 : p1 = 12
                        · skip
                          have kc25500250 : p1.toInt = 12 := eq_ti rfl (by decide) c25500250
                          refine lv_tableIn (off := 186) (tgt := 222) hx hb dX11_joins_36 (by omega) (by omega) (by rw [kc25500250]; rfl) (by decide) ?_
                          refine lv_aload_n hx hb dX11_joins_222 rfl (lv_at hl 2 rfl) ?_
                          refine lv_lload hx hb dX11_joins_223 (lv_at hl 0 rfl) ?_
                          refine lv_lload_n hx hb dX11_joins_225 rfl (lv_at hl 1 rfl) ?_
                          refine W.lcmp hx hb dX11_joins_226 ?_
                          refine lv_topi (fun x25500251 ex25500251 => ?_)
                          refine lv_if_le (tgt := 234) hx hb dX11_joins_227 (by decide) (fun c25500252 => ?_) (fun c25500252 => ?_)
                          · skip
                            have kc25500252 : x25500251.toInt ≤ 0 := le_ti rfl (by decide) c25500252
                            have qc25500252 : x25500141.toInt ≤ x25500139.toInt := lc_le ex25500251 rfl rfl kc25500252
                            refine lv_lconst (v := 0) hx hb dX11_joins_234 (by decide) ?_
                            refine r_callv2 (wr := []) (r_runV2 (As := [.long 0]) (rest := []) (wc := [(a, .inr (11, OX z i1 i2 i3 i4 i5 i6 i7 i8 i30 i43 i45 i46 i47 i48 i49 i50 i51 i58 i59 i65 x25500142 i69 i72 i78 i80 i81 i82 i87 i92 i96 i100 i103 i104)), ((z 67), .inl (T 1, 800, .inr (.inl g67)))]) (ci := 11) C0 hE hStr hS (va_free (wc := [(a, .inr (11, OX z i1 i2 i3 i4 i5 i6 i7 i8 i30 i43 i45 i46 i47 i48 i49 i50 i51 i58 i59 i65 x25500142 i69 i72 i78 i80 i81 i82 i87 i92 i96 i100 i103 i104)), ((z 67), .inl (T 1, 800, .inr (.inl g67)))]) hD hS hA [0, 1] rfl) (h_X11_puts_25400003 l D T sq sv H.size a z i1 i2 i3 i4 i5 i6 i7 i8 i30 i43 i45 i46 i47 i48 i49 i50 i51 i58 i59 i65 x25500142 i69 i72 i78 i80 i81 i82 i87 i92 i96 i100 i103 i104 0 g67 ⟨by omega, by omega⟩) mw_1095 mw_1096 mw_1339 mw_14 mw_1097 dn_1764 rfl rfl ⟨Nat.le_of_ble_eq_true rfl, Nat.le_of_ble_eq_true rfl⟩ (hP.sub (ws' := [(a, .inr (11, OX z i1 i2 i3 i4 i5 i6 i7 i8 i30 i43 i45 i46 i47 i48 i49 i50 i51 i58 i59 i65 x25500142 i69 i72 i78 i80 i81 i82 i87 i92 i96 i100 i103 i104)), ((z 67), .inl (T 1, 800, .inr (.inl g67)))]) [0, 1] rfl) (hD.sub (ws' := [(a, .inr (11, OX z i1 i2 i3 i4 i5 i6 i7 i8 i30 i43 i45 i46 i47 i48 i49 i50 i51 i58 i59 i65 x25500142 i69 i72 i78 i80 i81 i82 i87 i92 i96 i100 i103 i104)), ((z 67), .inl (T 1, 800, .inr (.inl g67)))]) [0, 1] (by decide +kernel) rfl) rfl rfl rfl hl.1 rfl (Nat.le_of_ble_eq_true rfl) dX11_joins_235 ⟨Nat.le_of_ble_eq_true rfl, Nat.le_of_ble_eq_true rfl⟩) hP hD hS hA [0, 1] [] rfl rfl (by decide +kernel) (by decide +kernel) (fun u H locs hq hP hD hS => ?_)
                            obtain ⟨x25500253, f25500254⟩ := u
                            obtain ⟨hx25500253, hp25500255⟩ := hq
                            have hx25500253 : 1 ≤ x25500253.toInt ∧ x25500253.toInt ≤ 800 := hx25500253
                            have hp25500255 : x25500253.toInt = x25500142.toInt + 1 := hp25500255
                            have hl25500256 : (0 : Int64).toInt = 0 := by decide
                            have hP : va_P D vwCl [(a, .inr (11, OX z i1 i2 i3 i4 i5 i6 i7 i8 i30 i43 i45 i46 i47 i48 i49 i50 i51 i58 i59 i65 x25500253 i69 i72 i78 i80 i81 i82 i87 i92 i96 i100 i103 i104)), ((z 67), .inl (T 1, 800, .inr (.inl f25500254)))] H := hP
                            have hD : va_D A [(a, .inr (11, OX z i1 i2 i3 i4 i5 i6 i7 i8 i30 i43 i45 i46 i47 i48 i49 i50 i51 i58 i59 i65 x25500253 i69 i72 i78 i80 i81 i82 i87 i92 i96 i100 i103 i104)), ((z 67), .inl (T 1, 800, .inr (.inl f25500254)))] := hD
                            refine W.widen (k := 0) (n := 0) (Nat.le_refl _) (Nat.le_refl _) ?_
                            refine lv_goto (tgt := 289) hx hb dX11_joins_238 (by decide) ?_
                            exact r_vret2 (x25500253, f25500254) C0 hr hlocks hS (Nat.le_refl _) (Nat.le_refl _) dX11_joins_289 ⟨⟨by omega, by omega⟩, (by omega)⟩ (hP.sub (ws' := [(a, .inr (11, OX z i1 i2 i3 i4 i5 i6 i7 i8 i30 i43 i45 i46 i47 i48 i49 i50 i51 i58 i59 i65 x25500253 i69 i72 i78 i80 i81 i82 i87 i92 i96 i100 i103 i104)), ((z 67), .inl (T 1, 800, .inr (.inl f25500254)))]) [0, 1] rfl) (hD.sub (ws' := [(a, .inr (11, OX z i1 i2 i3 i4 i5 i6 i7 i8 i30 i43 i45 i46 i47 i48 i49 i50 i51 i58 i59 i65 x25500253 i69 i72 i78 i80 i81 i82 i87 i92 i96 i100 i103 i104)), ((z 67), .inl (T 1, 800, .inr (.inl f25500254)))]) [0, 1] (by decide +kernel) rfl)
                          · skip
                            have kc25500252 : 0 < x25500251.toInt := nle_ti rfl (by decide) c25500252
                            have qc25500252 : x25500139.toInt < x25500141.toInt := lc_gt ex25500251 rfl rfl kc25500252
                            have rg25500257 := i32_rng x25500251
                            refine lv_lconst (v := 1) hx hb dX11_joins_230 (by decide) ?_
                            refine lv_goto (tgt := 235) hx hb dX11_joins_231 (by decide) ?_
                            refine r_callv2 (wr := []) (r_runV2 (As := [.long 1]) (rest := []) (wc := [(a, .inr (11, OX z i1 i2 i3 i4 i5 i6 i7 i8 i30 i43 i45 i46 i47 i48 i49 i50 i51 i58 i59 i65 x25500142 i69 i72 i78 i80 i81 i82 i87 i92 i96 i100 i103 i104)), ((z 67), .inl (T 1, 800, .inr (.inl g67)))]) (ci := 11) C0 hE hStr hS (va_free (wc := [(a, .inr (11, OX z i1 i2 i3 i4 i5 i6 i7 i8 i30 i43 i45 i46 i47 i48 i49 i50 i51 i58 i59 i65 x25500142 i69 i72 i78 i80 i81 i82 i87 i92 i96 i100 i103 i104)), ((z 67), .inl (T 1, 800, .inr (.inl g67)))]) hD hS hA [0, 1] rfl) (h_X11_puts_25400003 l D T sq sv H.size a z i1 i2 i3 i4 i5 i6 i7 i8 i30 i43 i45 i46 i47 i48 i49 i50 i51 i58 i59 i65 x25500142 i69 i72 i78 i80 i81 i82 i87 i92 i96 i100 i103 i104 1 g67 ⟨by omega, by omega⟩) mw_1095 mw_1096 mw_1339 mw_14 mw_1097 dn_1764 rfl rfl ⟨Nat.le_of_ble_eq_true rfl, Nat.le_of_ble_eq_true rfl⟩ (hP.sub (ws' := [(a, .inr (11, OX z i1 i2 i3 i4 i5 i6 i7 i8 i30 i43 i45 i46 i47 i48 i49 i50 i51 i58 i59 i65 x25500142 i69 i72 i78 i80 i81 i82 i87 i92 i96 i100 i103 i104)), ((z 67), .inl (T 1, 800, .inr (.inl g67)))]) [0, 1] rfl) (hD.sub (ws' := [(a, .inr (11, OX z i1 i2 i3 i4 i5 i6 i7 i8 i30 i43 i45 i46 i47 i48 i49 i50 i51 i58 i59 i65 x25500142 i69 i72 i78 i80 i81 i82 i87 i92 i96 i100 i103 i104)), ((z 67), .inl (T 1, 800, .inr (.inl g67)))]) [0, 1] (by decide +kernel) rfl) rfl rfl rfl hl.1 rfl (Nat.le_of_ble_eq_true rfl) dX11_joins_235 ⟨Nat.le_of_ble_eq_true rfl, Nat.le_of_ble_eq_true rfl⟩) hP hD hS hA [0, 1] [] rfl rfl (by decide +kernel) (by decide +kernel) (fun u H locs hq hP hD hS => ?_)
                            obtain ⟨x25500258, f25500259⟩ := u
                            obtain ⟨hx25500258, hp25500260⟩ := hq
                            have hx25500258 : 1 ≤ x25500258.toInt ∧ x25500258.toInt ≤ 800 := hx25500258
                            have hp25500260 : x25500258.toInt = x25500142.toInt + 1 := hp25500260
                            have hl25500261 : (1 : Int64).toInt = 1 := by decide
                            have hP : va_P D vwCl [(a, .inr (11, OX z i1 i2 i3 i4 i5 i6 i7 i8 i30 i43 i45 i46 i47 i48 i49 i50 i51 i58 i59 i65 x25500258 i69 i72 i78 i80 i81 i82 i87 i92 i96 i100 i103 i104)), ((z 67), .inl (T 1, 800, .inr (.inl f25500259)))] H := hP
                            have hD : va_D A [(a, .inr (11, OX z i1 i2 i3 i4 i5 i6 i7 i8 i30 i43 i45 i46 i47 i48 i49 i50 i51 i58 i59 i65 x25500258 i69 i72 i78 i80 i81 i82 i87 i92 i96 i100 i103 i104)), ((z 67), .inl (T 1, 800, .inr (.inl f25500259)))] := hD
                            refine W.widen (k := 0) (n := 0) (Nat.le_refl _) (Nat.le_refl _) ?_
                            refine lv_goto (tgt := 289) hx hb dX11_joins_238 (by decide) ?_
                            exact r_vret2 (x25500258, f25500259) C0 hr hlocks hS (Nat.le_refl _) (Nat.le_refl _) dX11_joins_289 ⟨⟨by omega, by omega⟩, (by omega)⟩ (hP.sub (ws' := [(a, .inr (11, OX z i1 i2 i3 i4 i5 i6 i7 i8 i30 i43 i45 i46 i47 i48 i49 i50 i51 i58 i59 i65 x25500258 i69 i72 i78 i80 i81 i82 i87 i92 i96 i100 i103 i104)), ((z 67), .inl (T 1, 800, .inr (.inl f25500259)))]) [0, 1] rfl) (hD.sub (ws' := [(a, .inr (11, OX z i1 i2 i3 i4 i5 i6 i7 i8 i30 i43 i45 i46 i47 i48 i49 i50 i51 i58 i59 i65 x25500258 i69 i72 i78 i80 i81 i82 i87 i92 i96 i100 i103 i104)), ((z 67), .inl (T 1, 800, .inr (.inl f25500259)))]) [0, 1] (by decide +kernel) rfl)
                        · skip
                          have kc25500250 : p1.toInt ≠ 12 := ne_ti rfl (by decide) c25500250
                          by_cases c25500262 : p1 = 13
                          · skip
                            have kc25500262 : p1.toInt = 13 := eq_ti rfl (by decide) c25500262
                            refine lv_tableIn (off := 205) (tgt := 241) hx hb dX11_joins_36 (by omega) (by omega) (by rw [kc25500262]; rfl) (by decide) ?_
                            refine lv_aload_n hx hb dX11_joins_241 rfl (lv_at hl 2 rfl) ?_
                            refine lv_lload hx hb dX11_joins_242 (lv_at hl 0 rfl) ?_
                            refine lv_lload_n hx hb dX11_joins_244 rfl (lv_at hl 1 rfl) ?_
                            refine W.lcmp hx hb dX11_joins_245 ?_
                            refine lv_topi (fun x25500263 ex25500263 => ?_)
                            refine lv_if_ne (tgt := 253) hx hb dX11_joins_246 (by decide) (fun c25500264 => ?_) (fun c25500264 => ?_)
                            · skip
                              have kc25500264 : x25500263.toInt ≠ 0 := ne_ti rfl (by decide) c25500264
                              have nzx25500263 : ¬ x25500263 = 0 := c25500264
                              have qc25500264 : x25500141.toInt ≠ x25500139.toInt := lc_ne ex25500263 rfl rfl kc25500264
                              refine lv_lconst (v := 0) hx hb dX11_joins_253 (by decide) ?_
                              refine r_callv2 (wr := []) (r_runV2 (As := [.long 0]) (rest := []) (wc := [(a, .inr (11, OX z i1 i2 i3 i4 i5 i6 i7 i8 i30 i43 i45 i46 i47 i48 i49 i50 i51 i58 i59 i65 x25500142 i69 i72 i78 i80 i81 i82 i87 i92 i96 i100 i103 i104)), ((z 67), .inl (T 1, 800, .inr (.inl g67)))]) (ci := 11) C0 hE hStr hS (va_free (wc := [(a, .inr (11, OX z i1 i2 i3 i4 i5 i6 i7 i8 i30 i43 i45 i46 i47 i48 i49 i50 i51 i58 i59 i65 x25500142 i69 i72 i78 i80 i81 i82 i87 i92 i96 i100 i103 i104)), ((z 67), .inl (T 1, 800, .inr (.inl g67)))]) hD hS hA [0, 1] rfl) (h_X11_puts_25400003 l D T sq sv H.size a z i1 i2 i3 i4 i5 i6 i7 i8 i30 i43 i45 i46 i47 i48 i49 i50 i51 i58 i59 i65 x25500142 i69 i72 i78 i80 i81 i82 i87 i92 i96 i100 i103 i104 0 g67 ⟨by omega, by omega⟩) mw_1095 mw_1096 mw_1339 mw_14 mw_1097 dn_1764 rfl rfl ⟨Nat.le_of_ble_eq_true rfl, Nat.le_of_ble_eq_true rfl⟩ (hP.sub (ws' := [(a, .inr (11, OX z i1 i2 i3 i4 i5 i6 i7 i8 i30 i43 i45 i46 i47 i48 i49 i50 i51 i58 i59 i65 x25500142 i69 i72 i78 i80 i81 i82 i87 i92 i96 i100 i103 i104)), ((z 67), .inl (T 1, 800, .inr (.inl g67)))]) [0, 1] rfl) (hD.sub (ws' := [(a, .inr (11, OX z i1 i2 i3 i4 i5 i6 i7 i8 i30 i43 i45 i46 i47 i48 i49 i50 i51 i58 i59 i65 x25500142 i69 i72 i78 i80 i81 i82 i87 i92 i96 i100 i103 i104)), ((z 67), .inl (T 1, 800, .inr (.inl g67)))]) [0, 1] (by decide +kernel) rfl) rfl rfl rfl hl.1 rfl (Nat.le_of_ble_eq_true rfl) dX11_joins_254 ⟨Nat.le_of_ble_eq_true rfl, Nat.le_of_ble_eq_true rfl⟩) hP hD hS hA [0, 1] [] rfl rfl (by decide +kernel) (by decide +kernel) (fun u H locs hq hP hD hS => ?_)
                              obtain ⟨x25500265, f25500266⟩ := u
                              obtain ⟨hx25500265, hp25500267⟩ := hq
                              have hx25500265 : 1 ≤ x25500265.toInt ∧ x25500265.toInt ≤ 800 := hx25500265
                              have hp25500267 : x25500265.toInt = x25500142.toInt + 1 := hp25500267
                              have hl25500268 : (0 : Int64).toInt = 0 := by decide
                              have hP : va_P D vwCl [(a, .inr (11, OX z i1 i2 i3 i4 i5 i6 i7 i8 i30 i43 i45 i46 i47 i48 i49 i50 i51 i58 i59 i65 x25500265 i69 i72 i78 i80 i81 i82 i87 i92 i96 i100 i103 i104)), ((z 67), .inl (T 1, 800, .inr (.inl f25500266)))] H := hP
                              have hD : va_D A [(a, .inr (11, OX z i1 i2 i3 i4 i5 i6 i7 i8 i30 i43 i45 i46 i47 i48 i49 i50 i51 i58 i59 i65 x25500265 i69 i72 i78 i80 i81 i82 i87 i92 i96 i100 i103 i104)), ((z 67), .inl (T 1, 800, .inr (.inl f25500266)))] := hD
                              refine W.widen (k := 0) (n := 0) (Nat.le_refl _) (Nat.le_refl _) ?_
                              refine lv_goto (tgt := 289) hx hb dX11_joins_257 (by decide) ?_
                              exact r_vret2 (x25500265, f25500266) C0 hr hlocks hS (Nat.le_refl _) (Nat.le_refl _) dX11_joins_289 ⟨⟨by omega, by omega⟩, (by omega)⟩ (hP.sub (ws' := [(a, .inr (11, OX z i1 i2 i3 i4 i5 i6 i7 i8 i30 i43 i45 i46 i47 i48 i49 i50 i51 i58 i59 i65 x25500265 i69 i72 i78 i80 i81 i82 i87 i92 i96 i100 i103 i104)), ((z 67), .inl (T 1, 800, .inr (.inl f25500266)))]) [0, 1] rfl) (hD.sub (ws' := [(a, .inr (11, OX z i1 i2 i3 i4 i5 i6 i7 i8 i30 i43 i45 i46 i47 i48 i49 i50 i51 i58 i59 i65 x25500265 i69 i72 i78 i80 i81 i82 i87 i92 i96 i100 i103 i104)), ((z 67), .inl (T 1, 800, .inr (.inl f25500266)))]) [0, 1] (by decide +kernel) rfl)
                            · skip
                              have kc25500264 : x25500263.toInt = 0 := eq_ti rfl (by decide) c25500264
                              have qc25500264 : x25500141.toInt = x25500139.toInt := lc_eq ex25500263 rfl rfl kc25500264
                              refine lv_lconst (v := 1) hx hb dX11_joins_249 (by decide) ?_
                              refine lv_goto (tgt := 254) hx hb dX11_joins_250 (by decide) ?_
                              refine r_callv2 (wr := []) (r_runV2 (As := [.long 1]) (rest := []) (wc := [(a, .inr (11, OX z i1 i2 i3 i4 i5 i6 i7 i8 i30 i43 i45 i46 i47 i48 i49 i50 i51 i58 i59 i65 x25500142 i69 i72 i78 i80 i81 i82 i87 i92 i96 i100 i103 i104)), ((z 67), .inl (T 1, 800, .inr (.inl g67)))]) (ci := 11) C0 hE hStr hS (va_free (wc := [(a, .inr (11, OX z i1 i2 i3 i4 i5 i6 i7 i8 i30 i43 i45 i46 i47 i48 i49 i50 i51 i58 i59 i65 x25500142 i69 i72 i78 i80 i81 i82 i87 i92 i96 i100 i103 i104)), ((z 67), .inl (T 1, 800, .inr (.inl g67)))]) hD hS hA [0, 1] rfl) (h_X11_puts_25400003 l D T sq sv H.size a z i1 i2 i3 i4 i5 i6 i7 i8 i30 i43 i45 i46 i47 i48 i49 i50 i51 i58 i59 i65 x25500142 i69 i72 i78 i80 i81 i82 i87 i92 i96 i100 i103 i104 1 g67 ⟨by omega, by omega⟩) mw_1095 mw_1096 mw_1339 mw_14 mw_1097 dn_1764 rfl rfl ⟨Nat.le_of_ble_eq_true rfl, Nat.le_of_ble_eq_true rfl⟩ (hP.sub (ws' := [(a, .inr (11, OX z i1 i2 i3 i4 i5 i6 i7 i8 i30 i43 i45 i46 i47 i48 i49 i50 i51 i58 i59 i65 x25500142 i69 i72 i78 i80 i81 i82 i87 i92 i96 i100 i103 i104)), ((z 67), .inl (T 1, 800, .inr (.inl g67)))]) [0, 1] rfl) (hD.sub (ws' := [(a, .inr (11, OX z i1 i2 i3 i4 i5 i6 i7 i8 i30 i43 i45 i46 i47 i48 i49 i50 i51 i58 i59 i65 x25500142 i69 i72 i78 i80 i81 i82 i87 i92 i96 i100 i103 i104)), ((z 67), .inl (T 1, 800, .inr (.inl g67)))]) [0, 1] (by decide +kernel) rfl) rfl rfl rfl hl.1 rfl (Nat.le_of_ble_eq_true rfl) dX11_joins_254 ⟨Nat.le_of_ble_eq_true rfl, Nat.le_of_ble_eq_true rfl⟩) hP hD hS hA [0, 1] [] rfl rfl (by decide +kernel) (by decide +kernel) (fun u H locs hq hP hD hS => ?_)
                              obtain ⟨x25500269, f25500270⟩ := u
                              obtain ⟨hx25500269, hp25500271⟩ := hq
                              have hx25500269 : 1 ≤ x25500269.toInt ∧ x25500269.toInt ≤ 800 := hx25500269
                              have hp25500271 : x25500269.toInt = x25500142.toInt + 1 := hp25500271
                              have hl25500272 : (1 : Int64).toInt = 1 := by decide
                              have hP : va_P D vwCl [(a, .inr (11, OX z i1 i2 i3 i4 i5 i6 i7 i8 i30 i43 i45 i46 i47 i48 i49 i50 i51 i58 i59 i65 x25500269 i69 i72 i78 i80 i81 i82 i87 i92 i96 i100 i103 i104)), ((z 67), .inl (T 1, 800, .inr (.inl f25500270)))] H := hP
                              have hD : va_D A [(a, .inr (11, OX z i1 i2 i3 i4 i5 i6 i7 i8 i30 i43 i45 i46 i47 i48 i49 i50 i51 i58 i59 i65 x25500269 i69 i72 i78 i80 i81 i82 i87 i92 i96 i100 i103 i104)), ((z 67), .inl (T 1, 800, .inr (.inl f25500270)))] := hD
                              refine W.widen (k := 0) (n := 0) (Nat.le_refl _) (Nat.le_refl _) ?_
                              refine lv_goto (tgt := 289) hx hb dX11_joins_257 (by decide) ?_
                              exact r_vret2 (x25500269, f25500270) C0 hr hlocks hS (Nat.le_refl _) (Nat.le_refl _) dX11_joins_289 ⟨⟨by omega, by omega⟩, (by omega)⟩ (hP.sub (ws' := [(a, .inr (11, OX z i1 i2 i3 i4 i5 i6 i7 i8 i30 i43 i45 i46 i47 i48 i49 i50 i51 i58 i59 i65 x25500269 i69 i72 i78 i80 i81 i82 i87 i92 i96 i100 i103 i104)), ((z 67), .inl (T 1, 800, .inr (.inl f25500270)))]) [0, 1] rfl) (hD.sub (ws' := [(a, .inr (11, OX z i1 i2 i3 i4 i5 i6 i7 i8 i30 i43 i45 i46 i47 i48 i49 i50 i51 i58 i59 i65 x25500269 i69 i72 i78 i80 i81 i82 i87 i92 i96 i100 i103 i104)), ((z 67), .inl (T 1, 800, .inr (.inl f25500270)))]) [0, 1] (by decide +kernel) rfl)
                          · skip
                            have kc25500262 : p1.toInt ≠ 13 := ne_ti rfl (by decide) c25500262
                            by_cases c25500273 : p1 = 14
                            · skip
                              have kc25500273 : p1.toInt = 14 := eq_ti rfl (by decide) c25500273
                              refine lv_tableIn (off := 224) (tgt := 260) hx hb dX11_joins_36 (by omega) (by omega) (by rw [kc25500273]; rfl) (by decide) ?_
                              refine lv_aload_n hx hb dX11_joins_260 rfl (lv_at hl 2 rfl) ?_
                              refine lv_lload hx hb dX11_joins_261 (lv_at hl 0 rfl) ?_
                              refine lv_lload_n hx hb dX11_joins_263 rfl (lv_at hl 1 rfl) ?_
                              refine lv_lmul hx hb dX11_joins_264 ?_
                              refine lv_topl (fun x25500274 ex25500274 => ?_)
                              refine r_callv2 (wr := []) (r_runV2 (As := [.long x25500274]) (rest := []) (wc := [(a, .inr (11, OX z i1 i2 i3 i4 i5 i6 i7 i8 i30 i43 i45 i46 i47 i48 i49 i50 i51 i58 i59 i65 x25500142 i69 i72 i78 i80 i81 i82 i87 i92 i96 i100 i103 i104)), ((z 67), .inl (T 1, 800, .inr (.inl g67)))]) (ci := 11) C0 hE hStr hS (va_free (wc := [(a, .inr (11, OX z i1 i2 i3 i4 i5 i6 i7 i8 i30 i43 i45 i46 i47 i48 i49 i50 i51 i58 i59 i65 x25500142 i69 i72 i78 i80 i81 i82 i87 i92 i96 i100 i103 i104)), ((z 67), .inl (T 1, 800, .inr (.inl g67)))]) hD hS hA [0, 1] rfl) (h_X11_puts_25400003 l D T sq sv H.size a z i1 i2 i3 i4 i5 i6 i7 i8 i30 i43 i45 i46 i47 i48 i49 i50 i51 i58 i59 i65 x25500142 i69 i72 i78 i80 i81 i82 i87 i92 i96 i100 i103 i104 x25500274 g67 ⟨by omega, by omega⟩) mw_1095 mw_1096 mw_1339 mw_14 mw_1097 dn_1764 rfl rfl ⟨Nat.le_of_ble_eq_true rfl, Nat.le_of_ble_eq_true rfl⟩ (hP.sub (ws' := [(a, .inr (11, OX z i1 i2 i3 i4 i5 i6 i7 i8 i30 i43 i45 i46 i47 i48 i49 i50 i51 i58 i59 i65 x25500142 i69 i72 i78 i80 i81 i82 i87 i92 i96 i100 i103 i104)), ((z 67), .inl (T 1, 800, .inr (.inl g67)))]) [0, 1] rfl) (hD.sub (ws' := [(a, .inr (11, OX z i1 i2 i3 i4 i5 i6 i7 i8 i30 i43 i45 i46 i47 i48 i49 i50 i51 i58 i59 i65 x25500142 i69 i72 i78 i80 i81 i82 i87 i92 i96 i100 i103 i104)), ((z 67), .inl (T 1, 800, .inr (.inl g67)))]) [0, 1] (by decide +kernel) rfl) rfl rfl rfl hl.1 rfl (Nat.le_of_ble_eq_true rfl) dX11_joins_265 ⟨Nat.le_of_ble_eq_true rfl, Nat.le_of_ble_eq_true rfl⟩) hP hD hS hA [0, 1] [] rfl rfl (by decide +kernel) (by decide +kernel) (fun u H locs hq hP hD hS => ?_)
                              obtain ⟨x25500275, f25500276⟩ := u
                              obtain ⟨hx25500275, hp25500277⟩ := hq
                              have hx25500275 : 1 ≤ x25500275.toInt ∧ x25500275.toInt ≤ 800 := hx25500275
                              have hp25500277 : x25500275.toInt = x25500142.toInt + 1 := hp25500277
                              have hP : va_P D vwCl [(a, .inr (11, OX z i1 i2 i3 i4 i5 i6 i7 i8 i30 i43 i45 i46 i47 i48 i49 i50 i51 i58 i59 i65 x25500275 i69 i72 i78 i80 i81 i82 i87 i92 i96 i100 i103 i104)), ((z 67), .inl (T 1, 800, .inr (.inl f25500276)))] H := hP
                              have hD : va_D A [(a, .inr (11, OX z i1 i2 i3 i4 i5 i6 i7 i8 i30 i43 i45 i46 i47 i48 i49 i50 i51 i58 i59 i65 x25500275 i69 i72 i78 i80 i81 i82 i87 i92 i96 i100 i103 i104)), ((z 67), .inl (T 1, 800, .inr (.inl f25500276)))] := hD
                              refine W.widen (k := 0) (n := 0) (Nat.le_refl _) (Nat.le_refl _) ?_
                              refine lv_goto (tgt := 289) hx hb dX11_joins_268 (by decide) ?_
                              exact r_vret2 (x25500275, f25500276) C0 hr hlocks hS (Nat.le_refl _) (Nat.le_refl _) dX11_joins_289 ⟨⟨by omega, by omega⟩, (by omega)⟩ (hP.sub (ws' := [(a, .inr (11, OX z i1 i2 i3 i4 i5 i6 i7 i8 i30 i43 i45 i46 i47 i48 i49 i50 i51 i58 i59 i65 x25500275 i69 i72 i78 i80 i81 i82 i87 i92 i96 i100 i103 i104)), ((z 67), .inl (T 1, 800, .inr (.inl f25500276)))]) [0, 1] rfl) (hD.sub (ws' := [(a, .inr (11, OX z i1 i2 i3 i4 i5 i6 i7 i8 i30 i43 i45 i46 i47 i48 i49 i50 i51 i58 i59 i65 x25500275 i69 i72 i78 i80 i81 i82 i87 i92 i96 i100 i103 i104)), ((z 67), .inl (T 1, 800, .inr (.inl f25500276)))]) [0, 1] (by decide +kernel) rfl)
                            · skip
                              have kc25500273 : p1.toInt ≠ 14 := ne_ti rfl (by decide) c25500273
                              refine lv_tableOut (tgt := 271) hx hb dX11_joins_36 (by omega) (by decide) ?_
                              refine lv_aload_n hx hb dX11_joins_271 rfl (lv_at hl 2 rfl) ?_
                              refine lv_lload hx hb dX11_joins_272 (lv_at hl 0 rfl) ?_
                              refine lv_lload_n hx hb dX11_joins_274 rfl (lv_at hl 1 rfl) ?_
                              refine lv_ladd hx hb dX11_joins_275 ?_
                              refine lv_topl (fun x25500278 ex25500278 => ?_)
                              refine lv_lconst (v := 0) hx hb dX11_joins_276 (by decide) ?_
                              refine W.lcmp hx hb dX11_joins_277 ?_
                              refine lv_topi (fun x25500279 ex25500279 => ?_)
                              refine lv_if_le (tgt := 285) hx hb dX11_joins_278 (by decide) (fun c25500280 => ?_) (fun c25500280 => ?_)
                              · skip
                                have kc25500280 : x25500279.toInt ≤ 0 := le_ti rfl (by decide) c25500280
                                have qc25500280 : x25500278.toInt ≤ 0 := lc_le ex25500279 rfl (by decide) kc25500280
                                refine lv_lconst (v := 0) hx hb dX11_joins_285 (by decide) ?_
                                refine r_callv2 (wr := []) (r_runV2 (As := [.long 0]) (rest := []) (wc := [(a, .inr (11, OX z i1 i2 i3 i4 i5 i6 i7 i8 i30 i43 i45 i46 i47 i48 i49 i50 i51 i58 i59 i65 x25500142 i69 i72 i78 i80 i81 i82 i87 i92 i96 i100 i103 i104)), ((z 67), .inl (T 1, 800, .inr (.inl g67)))]) (ci := 11) C0 hE hStr hS (va_free (wc := [(a, .inr (11, OX z i1 i2 i3 i4 i5 i6 i7 i8 i30 i43 i45 i46 i47 i48 i49 i50 i51 i58 i59 i65 x25500142 i69 i72 i78 i80 i81 i82 i87 i92 i96 i100 i103 i104)), ((z 67), .inl (T 1, 800, .inr (.inl g67)))]) hD hS hA [0, 1] rfl) (h_X11_puts_25400003 l D T sq sv H.size a z i1 i2 i3 i4 i5 i6 i7 i8 i30 i43 i45 i46 i47 i48 i49 i50 i51 i58 i59 i65 x25500142 i69 i72 i78 i80 i81 i82 i87 i92 i96 i100 i103 i104 0 g67 ⟨by omega, by omega⟩) mw_1095 mw_1096 mw_1339 mw_14 mw_1097 dn_1764 rfl rfl ⟨Nat.le_of_ble_eq_true rfl, Nat.le_of_ble_eq_true rfl⟩ (hP.sub (ws' := [(a, .inr (11, OX z i1 i2 i3 i4 i5 i6 i7 i8 i30 i43 i45 i46 i47 i48 i49 i50 i51 i58 i59 i65 x25500142 i69 i72 i78 i80 i81 i82 i87 i92 i96 i100 i103 i104)), ((z 67), .inl (T 1, 800, .inr (.inl g67)))]) [0, 1] rfl) (hD.sub (ws' := [(a, .inr (11, OX z i1 i2 i3 i4 i5 i6 i7 i8 i30 i43 i45 i46 i47 i48 i49 i50 i51 i58 i59 i65 x25500142 i69 i72 i78 i80 i81 i82 i87 i92 i96 i100 i103 i104)), ((z 67), .inl (T 1, 800, .inr (.inl g67)))]) [0, 1] (by decide +kernel) rfl) rfl rfl rfl hl.1 rfl (Nat.le_of_ble_eq_true rfl) dX11_joins_286 ⟨Nat.le_of_ble_eq_true rfl, Nat.le_of_ble_eq_true rfl⟩) hP hD hS hA [0, 1] [] rfl rfl (by decide +kernel) (by decide +kernel) (fun u H locs hq hP hD hS => ?_)
                                obtain ⟨x25500281, f25500282⟩ := u
                                obtain ⟨hx25500281, hp25500283⟩ := hq
                                have hx25500281 : 1 ≤ x25500281.toInt ∧ x25500281.toInt ≤ 800 := hx25500281
                                have hp25500283 : x25500281.toInt = x25500142.toInt + 1 := hp25500283
                                have hl25500284 : (0 : Int64).toInt = 0 := by decide
                                have hP : va_P D vwCl [(a, .inr (11, OX z i1 i2 i3 i4 i5 i6 i7 i8 i30 i43 i45 i46 i47 i48 i49 i50 i51 i58 i59 i65 x25500281 i69 i72 i78 i80 i81 i82 i87 i92 i96 i100 i103 i104)), ((z 67), .inl (T 1, 800, .inr (.inl f25500282)))] H := hP
                                have hD : va_D A [(a, .inr (11, OX z i1 i2 i3 i4 i5 i6 i7 i8 i30 i43 i45 i46 i47 i48 i49 i50 i51 i58 i59 i65 x25500281 i69 i72 i78 i80 i81 i82 i87 i92 i96 i100 i103 i104)), ((z 67), .inl (T 1, 800, .inr (.inl f25500282)))] := hD
                                refine W.widen (k := 0) (n := 0) (Nat.le_refl _) (Nat.le_refl _) ?_
                                exact r_vret2 (x25500281, f25500282) C0 hr hlocks hS (Nat.le_refl _) (Nat.le_refl _) dX11_joins_289 ⟨⟨by omega, by omega⟩, (by omega)⟩ (hP.sub (ws' := [(a, .inr (11, OX z i1 i2 i3 i4 i5 i6 i7 i8 i30 i43 i45 i46 i47 i48 i49 i50 i51 i58 i59 i65 x25500281 i69 i72 i78 i80 i81 i82 i87 i92 i96 i100 i103 i104)), ((z 67), .inl (T 1, 800, .inr (.inl f25500282)))]) [0, 1] rfl) (hD.sub (ws' := [(a, .inr (11, OX z i1 i2 i3 i4 i5 i6 i7 i8 i30 i43 i45 i46 i47 i48 i49 i50 i51 i58 i59 i65 x25500281 i69 i72 i78 i80 i81 i82 i87 i92 i96 i100 i103 i104)), ((z 67), .inl (T 1, 800, .inr (.inl f25500282)))]) [0, 1] (by decide +kernel) rfl)
                              · skip
                                have kc25500280 : 0 < x25500279.toInt := nle_ti rfl (by decide) c25500280
                                have qc25500280 : 0 < x25500278.toInt := lc_gt ex25500279 rfl (by decide) kc25500280
                                have rg25500285 := i32_rng x25500279
                                refine lv_lconst (v := 1) hx hb dX11_joins_281 (by decide) ?_
                                refine lv_goto (tgt := 286) hx hb dX11_joins_282 (by decide) ?_
                                refine r_callv2 (wr := []) (r_runV2 (As := [.long 1]) (rest := []) (wc := [(a, .inr (11, OX z i1 i2 i3 i4 i5 i6 i7 i8 i30 i43 i45 i46 i47 i48 i49 i50 i51 i58 i59 i65 x25500142 i69 i72 i78 i80 i81 i82 i87 i92 i96 i100 i103 i104)), ((z 67), .inl (T 1, 800, .inr (.inl g67)))]) (ci := 11) C0 hE hStr hS (va_free (wc := [(a, .inr (11, OX z i1 i2 i3 i4 i5 i6 i7 i8 i30 i43 i45 i46 i47 i48 i49 i50 i51 i58 i59 i65 x25500142 i69 i72 i78 i80 i81 i82 i87 i92 i96 i100 i103 i104)), ((z 67), .inl (T 1, 800, .inr (.inl g67)))]) hD hS hA [0, 1] rfl) (h_X11_puts_25400003 l D T sq sv H.size a z i1 i2 i3 i4 i5 i6 i7 i8 i30 i43 i45 i46 i47 i48 i49 i50 i51 i58 i59 i65 x25500142 i69 i72 i78 i80 i81 i82 i87 i92 i96 i100 i103 i104 1 g67 ⟨by omega, by omega⟩) mw_1095 mw_1096 mw_1339 mw_14 mw_1097 dn_1764 rfl rfl ⟨Nat.le_of_ble_eq_true rfl, Nat.le_of_ble_eq_true rfl⟩ (hP.sub (ws' := [(a, .inr (11, OX z i1 i2 i3 i4 i5 i6 i7 i8 i30 i43 i45 i46 i47 i48 i49 i50 i51 i58 i59 i65 x25500142 i69 i72 i78 i80 i81 i82 i87 i92 i96 i100 i103 i104)), ((z 67), .inl (T 1, 800, .inr (.inl g67)))]) [0, 1] rfl) (hD.sub (ws' := [(a, .inr (11, OX z i1 i2 i3 i4 i5 i6 i7 i8 i30 i43 i45 i46 i47 i48 i49 i50 i51 i58 i59 i65 x25500142 i69 i72 i78 i80 i81 i82 i87 i92 i96 i100 i103 i104)), ((z 67), .inl (T 1, 800, .inr (.inl g67)))]) [0, 1] (by decide +kernel) rfl) rfl rfl rfl hl.1 rfl (Nat.le_of_ble_eq_true rfl) dX11_joins_286 ⟨Nat.le_of_ble_eq_true rfl, Nat.le_of_ble_eq_true rfl⟩) hP hD hS hA [0, 1] [] rfl rfl (by decide +kernel) (by decide +kernel) (fun u H locs hq hP hD hS => ?_)
                                obtain ⟨x25500286, f25500287⟩ := u
                                obtain ⟨hx25500286, hp25500288⟩ := hq
                                have hx25500286 : 1 ≤ x25500286.toInt ∧ x25500286.toInt ≤ 800 := hx25500286
                                have hp25500288 : x25500286.toInt = x25500142.toInt + 1 := hp25500288
                                have hl25500289 : (1 : Int64).toInt = 1 := by decide
                                have hP : va_P D vwCl [(a, .inr (11, OX z i1 i2 i3 i4 i5 i6 i7 i8 i30 i43 i45 i46 i47 i48 i49 i50 i51 i58 i59 i65 x25500286 i69 i72 i78 i80 i81 i82 i87 i92 i96 i100 i103 i104)), ((z 67), .inl (T 1, 800, .inr (.inl f25500287)))] H := hP
                                have hD : va_D A [(a, .inr (11, OX z i1 i2 i3 i4 i5 i6 i7 i8 i30 i43 i45 i46 i47 i48 i49 i50 i51 i58 i59 i65 x25500286 i69 i72 i78 i80 i81 i82 i87 i92 i96 i100 i103 i104)), ((z 67), .inl (T 1, 800, .inr (.inl f25500287)))] := hD
                                refine W.widen (k := 0) (n := 0) (Nat.le_refl _) (Nat.le_refl _) ?_
                                exact r_vret2 (x25500286, f25500287) C0 hr hlocks hS (Nat.le_refl _) (Nat.le_refl _) dX11_joins_289 ⟨⟨by omega, by omega⟩, (by omega)⟩ (hP.sub (ws' := [(a, .inr (11, OX z i1 i2 i3 i4 i5 i6 i7 i8 i30 i43 i45 i46 i47 i48 i49 i50 i51 i58 i59 i65 x25500286 i69 i72 i78 i80 i81 i82 i87 i92 i96 i100 i103 i104)), ((z 67), .inl (T 1, 800, .inr (.inl f25500287)))]) [0, 1] rfl) (hD.sub (ws' := [(a, .inr (11, OX z i1 i2 i3 i4 i5 i6 i7 i8 i30 i43 i45 i46 i47 i48 i49 i50 i51 i58 i59 i65 x25500286 i69 i72 i78 i80 i81 i82 i87 i92 i96 i100 i103 i104)), ((z 67), .inl (T 1, 800, .inr (.inl f25500287)))]) [0, 1] (by decide +kernel) rfl)
