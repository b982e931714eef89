set_option maxHeartbeats 4000000 in
set_option maxRecDepth 100000 in
theorem h_X11_code_27100004 (l : Launch) (D : va_G) (T : Nat → ClassId) (sq sv sz : Nat) (a : Nat) (z : Nat → Nat) (i1 i2 i3 i4 i5 i6 i7 i8 i30 i43 i45 i46 i47 i48 i49 i50 i51 i58 i59 i65 i68 i69 i72 i78 i80 i81 i82 i87 i92 i96 i100 i103 i104 : Int32) (p1 : Int32) (g42 : Nat → Int32) (hi43 : 0 ≤ i43.toInt ∧ i43.toInt ≤ 699) : Met l yX11_code (.code yX11_code cX11_code 2 none :: TB) { frames := 0, cells := 0, slots := 0, locals := 0 } (PC2 D T sq sv [.ref a, .int p1] [(a, .inr (11, OX z i1 i2 i3 i4 i5 i6 i7 i8 i30 i43 i45 i46 i47 i48 i49 i50 i51 i58 i59 i65 i68 i69 i72 i78 i80 i81 i82 i87 i92 i96 i100 i103 i104)), ((z 42), .inl (T 0, 1400, .inl g42))] sz) (Qv2 (S := Int32 × (Nat → Int32)) (fun (u : Int32 × (Nat → Int32)) => match u with | (ui43, ug42) => (0 ≤ ui43.toInt ∧ ui43.toInt ≤ 700) ∧ (ui43.toInt = i43.toInt + 1) ∧ (ug42 = upd g42 (Int32.toNatClampNeg i43) p1)) (fun (u : Int32 × (Nat → Int32)) => match u with | (ui43, ug42) => [(a, .inr (11, OX z i1 i2 i3 i4 i5 i6 i7 i8 i30 ui43 i45 i46 i47 i48 i49 i50 i51 i58 i59 i65 i68 i69 i72 i78 i80 i81 i82 i87 i92 i96 i100 i103 i104)), ((z 42), .inl (T 0, 1400, .inl ug42))]) D (va_A [(a, .inr (11, OX z i1 i2 i3 i4 i5 i6 i7 i8 i30 i43 i45 i46 i47 i48 i49 i50 i51 i58 i59 i65 i68 i69 i72 i78 i80 i81 i82 i87 i92 i96 i100 i103 i104)), ((z 42), .inl (T 0, 1400, .inl g42))] sz)) 0 0 (va_A [(a, .inr (11, OX z i1 i2 i3 i4 i5 i6 i7 i8 i30 i43 i45 i46 i47 i48 i49 i50 i51 i58 i59 i65 i68 i69 i72 i78 i80 i81 i82 i87 i92 i96 i100 i103 i104)), ((z 42), .inl (T 0, 1400, .inl g42))] sz) := by
  refine ct_begin2 (Qc := Qv2 (S := Int32 × (Nat → Int32)) (fun (u : Int32 × (Nat → Int32)) => match u with | (ui43, ug42) => (0 ≤ ui43.toInt ∧ ui43.toInt ≤ 700) ∧ (ui43.toInt = i43.toInt + 1) ∧ (ug42 = upd g42 (Int32.toNatClampNeg i43) p1)) (fun (u : Int32 × (Nat → Int32)) => match u with | (ui43, ug42) => [(a, .inr (11, OX z i1 i2 i3 i4 i5 i6 i7 i8 i30 ui43 i45 i46 i47 i48 i49 i50 i51 i58 i59 i65 i68 i69 i72 i78 i80 i81 i82 i87 i92 i96 i100 i103 i104)), ((z 42), .inl (T 0, 1400, .inl ug42))]) D) (by decide +kernel) (Nat.le_of_ble_eq_true rfl) ?_
  intro p e s m below meth c A ls C0 hr hlocks hnm hE hStr hA hP hD hl
  generalize ([.ref a, .int p1] : List Value).toArray = args at C0 ⊢
  have hx := C0.1
  have hb := C0.2.1
  have hml := C0.2.2.1
  have hown := C0.2.2.2.1
  have hT := C0.2.2.2.2
  have hK := hE.1
  generalize hH : s.heap = H at hP ⊢
  have hS : va_S A s.heap H [] := by rw [← hH]; exact va_S.rf
  have hP : va_P D vwCl [(a, .inr (11, OX z i1 i2 i3 i4 i5 i6 i7 i8 i30 i43 i45 i46 i47 i48 i49 i50 i51 i58 i59 i65 i68 i69 i72 i78 i80 i81 i82 i87 i92 i96 i100 i103 i104)), ((z 42), .inl (T 0, 1400, .inl g42))] H := hP
  have hD : va_D A [(a, .inr (11, OX z i1 i2 i3 i4 i5 i6 i7 i8 i30 i43 i45 i46 i47 i48 i49 i50 i51 i58 i59 i65 i68 i69 i72 i78 i80 i81 i82 i87 i92 i96 i100 i103 i104)), ((z 42), .inl (T 0, 1400, .inl g42))] := hD
  have hl : lv_has ls 2 [(0, .ref a), (1, .int p1)] := hl
  refine lv_aload_n hx hb dX11_code_0 rfl (lv_at hl 0 rfl) ?_
  refine r_get (v := .ref (z 42)) C0 hE ffX11_42 mw_832 hP 0 rfl ox_42 dX11_code_1 ?_
  refine lv_iconst (v := 0) hx hb dX11_code_4 (by decide) ?_
  refine lv_aload_n hx hb dX11_code_5 rfl (lv_at hl 0 rfl) ?_
  refine r_get (v := .int i43) C0 hE ffX11_43 mw_833 hP 0 rfl ox_43 dX11_code_6 ?_
  refine lv_iadd hx hb dX11_code_9 ?_
  refine lv_topi (fun x27100005 ex27100005 => ?_)
  have hx27100005 : x27100005.toInt = 0 + i43.toInt := ti_add ex27100005 (by decide) rfl (by omega) (by omega)
  refine lv_iload_n hx hb dX11_code_10 rfl (lv_at hl 1 rfl) ?_
  refine r_iastX hx hb hK hP hD hS 1 rfl (in_ti rfl (by omega) (by omega)) dX11_code_11 (fun f27100006 ef27100006 H locs hP hD hS => ?_)
  have hP : va_P D vwCl [(a, .inr (11, OX z i1 i2 i3 i4 i5 i6 i7 i8 i30 i43 i45 i46 i47 i48 i49 i50 i51 i58 i59 i65 i68 i69 i72 i78 i80 i81 i82 i87 i92 i96 i100 i103 i104)), ((z 42), .inl (T 0, 1400, .inl f27100006))] H := hP
  have hD : va_D A [(a, .inr (11, OX z i1 i2 i3 i4 i5 i6 i7 i8 i30 i43 i45 i46 i47 i48 i49 i50 i51 i58 i59 i65 i68 i69 i72 i78 i80 i81 i82 i87 i92 i96 i100 i103 i104)), ((z 42), .inl (T 0, 1400, .inl f27100006))] := hD
  refine lv_aload_n hx hb dX11_code_12 rfl (lv_at hl 0 rfl) ?_
  refine lv_dup hx hb dX11_code_13 rfl ?_
  refine r_get (v := .int i43) C0 hE ffX11_43 mw_833 hP 0 rfl ox_43 dX11_code_14 ?_
  refine lv_iconst (v := 1) hx hb dX11_code_17 (by decide) ?_
  refine lv_iadd hx hb dX11_code_18 ?_
  refine lv_topi (fun x27100007 ex27100007 => ?_)
  have hx27100007 : x27100007.toInt = i43.toInt + 1 := ti_add ex27100007 rfl (by decide) (by omega) (by omega)
  refine r_put (v := .int x27100007) (ty := .int) (ws1 := [(a, .inr (11, OX z i1 i2 i3 i4 i5 i6 i7 i8 i30 x27100007 i45 i46 i47 i48 i49 i50 i51 i58 i59 i65 i68 i69 i72 i78 i80 i81 i82 i87 i92 i96 i100 i103 i104)), ((z 42), .inl (T 0, 1400, .inl f27100006))]) C0 hE ffX11_43 tyX11 tyX11_ok nmX11 mw_833 pf_1358 hP hD hS 0 rfl rfl rfl ol_43 os_43 rfl dX11_code_19 (fun H locs hP hD hS => ?_)
  exact r_vret2 (x27100007, f27100006) C0 hr hlocks hS (Nat.le_refl _) (Nat.le_refl _) dX11_code_22 ⟨⟨by omega, by omega⟩, (by omega), (by rw [ef27100006, ex27100005, Int32.zero_add])⟩ (hP.sub (ws' := [(a, .inr (11, OX z i1 i2 i3 i4 i5 i6 i7 i8 i30 x27100007 i45 i46 i47 i48 i49 i50 i51 i58 i59 i65 i68 i69 i72 i78 i80 i81 i82 i87 i92 i96 i100 i103 i104)), ((z 42), .inl (T 0, 1400, .inl f27100006))]) [0, 1] rfl) (hD.sub (ws' := [(a, .inr (11, OX z i1 i2 i3 i4 i5 i6 i7 i8 i30 x27100007 i45 i46 i47 i48 i49 i50 i51 i58 i59 i65 i68 i69 i72 i78 i80 i81 i82 i87 i92 i96 i100 i103 i104)), ((z 42), .inl (T 0, 1400, .inl f27100006))]) [0, 1] (by decide +kernel) rfl)
set_option maxHeartbeats 4000000 in
set_option maxRecDepth 100000 in
theorem h_X11_isOn_27200005 (l : Launch) (D : va_G) (T : Nat → ClassId) (sq sv sz : Nat) (a : Nat) (z : Nat → Nat) (i1 i2 i3 i4 i5 i6 i7 i8 i30 i43 i45 i46 i47 i48 i49 i50 i51 i58 i59 i65 i68 i69 i72 i78 i80 i81 i82 i87 i92 i96 i100 i103 i104 : Int32) (p1 : Int32) (g44 : Nat → Int32) (hi45 : 0 ≤ i45.toInt ∧ i45.toInt ≤ 800) : Met l yX11_isOn (.code yX11_isOn cX11_isOn 2 (some .boolean) :: TB) { frames := 0, cells := 0, slots := 0, locals := 0 } (PC2 D T sq sv [.ref a, .int p1] [(a, .inr (11, OX z i1 i2 i3 i4 i5 i6 i7 i8 i30 i43 i45 i46 i47 i48 i49 i50 i51 i58 i59 i65 i68 i69 i72 i78 i80 i81 i82 i87 i92 i96 i100 i103 i104)), ((z 44), .inl (T 0, 800, .inl g44))] sz) (Qi (S := Unit) (fun (r : Int32) (_ : Unit) => (HID (r.toInt = 1 ∨ i45.toInt ≤ 0 ∨ (g44 (i45.toInt - 1).toNat).toInt ≠ p1.toInt)) ∧ (((r.toInt = 0)) ∨ ((r.toInt = 1 ∧ 0 < i45.toInt ∧ (g44 (i45.toInt - 1).toNat).toInt = p1.toInt))) ∧ (0 ≤ r.toInt ∧ r.toInt ≤ 1)) (fun (_ : Unit) => [(a, .inr (11, OX z i1 i2 i3 i4 i5 i6 i7 i8 i30 i43 i45 i46 i47 i48 i49 i50 i51 i58 i59 i65 i68 i69 i72 i78 i80 i81 i82 i87 i92 i96 i100 i103 i104)), ((z 44), .inl (T 0, 800, .inl g44))]) D (va_A [(a, .inr (11, OX z i1 i2 i3 i4 i5 i6 i7 i8 i30 i43 i45 i46 i47 i48 i49 i50 i51 i58 i59 i65 i68 i69 i72 i78 i80 i81 i82 i87 i92 i96 i100 i103 i104)), ((z 44), .inl (T 0, 800, .inl g44))] sz)) 0 0 (va_A [(a, .inr (11, OX z i1 i2 i3 i4 i5 i6 i7 i8 i30 i43 i45 i46 i47 i48 i49 i50 i51 i58 i59 i65 i68 i69 i72 i78 i80 i81 i82 i87 i92 i96 i100 i103 i104)), ((z 44), .inl (T 0, 800, .inl g44))] sz) := by
  refine ct_begin2 (Qc := Qi (S := Unit) (fun (r : Int32) (_ : Unit) => (HID (r.toInt = 1 ∨ i45.toInt ≤ 0 ∨ (g44 (i45.toInt - 1).toNat).toInt ≠ p1.toInt)) ∧ (((r.toInt = 0)) ∨ ((r.toInt = 1 ∧ 0 < i45.toInt ∧ (g44 (i45.toInt - 1).toNat).toInt = p1.toInt))) ∧ (0 ≤ r.toInt ∧ r.toInt ≤ 1)) (fun (_ : Unit) => [(a, .inr (11, OX z i1 i2 i3 i4 i5 i6 i7 i8 i30 i43 i45 i46 i47 i48 i49 i50 i51 i58 i59 i65 i68 i69 i72 i78 i80 i81 i82 i87 i92 i96 i100 i103 i104)), ((z 44), .inl (T 0, 800, .inl g44))]) D) (by decide +kernel) (Nat.le_of_ble_eq_true rfl) ?_
  intro p e s m below meth c A ls C0 hr hlocks hnm hE hStr hA hP hD hl
  generalize ([.ref a, .int p1] : List Value).toArray = args at C0 ⊢
  have hx := C0.1
  have hb := C0.2.1
  have hml := C0.2.2.1
  have hown := C0.2.2.2.1
  have hT := C0.2.2.2.2
  have hK := hE.1
  generalize hH : s.heap = H at hP ⊢
  have hS : va_S A s.heap H [] := by rw [← hH]; exact va_S.rf
  have hP : va_P D vwCl [(a, .inr (11, OX z i1 i2 i3 i4 i5 i6 i7 i8 i30 i43 i45 i46 i47 i48 i49 i50 i51 i58 i59 i65 i68 i69 i72 i78 i80 i81 i82 i87 i92 i96 i100 i103 i104)), ((z 44), .inl (T 0, 800, .inl g44))] H := hP
  have hD : va_D A [(a, .inr (11, OX z i1 i2 i3 i4 i5 i6 i7 i8 i30 i43 i45 i46 i47 i48 i49 i50 i51 i58 i59 i65 i68 i69 i72 i78 i80 i81 i82 i87 i92 i96 i100 i103 i104)), ((z 44), .inl (T 0, 800, .inl g44))] := hD
  have hl : lv_has ls 2 [(0, .ref a), (1, .int p1)] := hl
  refine lv_aload_n hx hb dX11_isOn_0 rfl (lv_at hl 0 rfl) ?_
  refine r_get (v := .int i45) C0 hE ffX11_45 mw_835 hP 0 rfl ox_45 dX11_isOn_1 ?_
  refine lv_if_le (tgt := 26) hx hb dX11_isOn_4 (by decide) (fun c27200006 => ?_) (fun c27200006 => ?_)
  · skip
    have kc27200006 : i45.toInt ≤ 0 := le_ti rfl (by decide) c27200006
    refine lv_iconst (v := 0) hx hb dX11_isOn_26 (by decide) ?_
    have hl27200007 : (0 : Int32).toInt = 0 := by decide
    exact r_zret () C0 hr (by decide +kernel) hlocks hS (Nat.le_refl _) (Nat.le_refl _) dX11_isOn_27 ⟨(HID.of (by omega)), (Or.inl (by omega)), ⟨by decide, by decide⟩⟩ (hP.sub (ws' := [(a, .inr (11, OX z i1 i2 i3 i4 i5 i6 i7 i8 i30 i43 i45 i46 i47 i48 i49 i50 i51 i58 i59 i65 i68 i69 i72 i78 i80 i81 i82 i87 i92 i96 i100 i103 i104)), ((z 44), .inl (T 0, 800, .inl g44))]) [0, 1] rfl) (hD.sub (ws' := [(a, .inr (11, OX z i1 i2 i3 i4 i5 i6 i7 i8 i30 i43 i45 i46 i47 i48 i49 i50 i51 i58 i59 i65 i68 i69 i72 i78 i80 i81 i82 i87 i92 i96 i100 i103 i104)), ((z 44), .inl (T 0, 800, .inl g44))]) [0, 1] (by decide +kernel) rfl)
  · skip
    have kc27200006 : 0 < i45.toInt := nle_ti rfl (by decide) c27200006
    refine lv_aload_n hx hb dX11_isOn_7 rfl (lv_at hl 0 rfl) ?_
    refine r_get (v := .ref (z 44)) C0 hE ffX11_44 mw_834 hP 0 rfl ox_44 dX11_isOn_8 ?_
    refine lv_aload_n hx hb dX11_isOn_11 rfl (lv_at hl 0 rfl) ?_
    refine r_get (v := .int i45) C0 hE ffX11_45 mw_835 hP 0 rfl ox_45 dX11_isOn_12 ?_
    refine lv_iconst (v := 1) hx hb dX11_isOn_15 (by decide) ?_
    refine lv_isub hx hb dX11_isOn_16 ?_
    refine lv_topi (fun x27200008 ex27200008 => ?_)
    have hx27200008 : x27200008.toInt = i45.toInt - 1 := ti_sub ex27200008 rfl (by decide) (by omega) (by omega)
    refine va_iald hx hb hK hP 1 0 rfl rfl (in_ti rfl (by omega) (by omega)) dX11_isOn_17 ?_
    refine lv_topi (fun x27200009 ex27200009 => ?_)
    have hwx27200009 := WX ex27200009 hx27200008 (by omega)
    refine lv_iload_n hx hb dX11_isOn_18 rfl (lv_at hl 1 rfl) ?_
    refine lv_icmp_ne (tgt := 26) hx hb dX11_isOn_19 (by decide) (fun c27200010 => ?_) (fun c27200010 => ?_)
    · skip
      have kc27200010 : x27200009.toInt ≠ p1.toInt := ne_ti rfl rfl c27200010
      refine lv_iconst (v := 0) hx hb dX11_isOn_26 (by decide) ?_
      have hl27200011 : (0 : Int32).toInt = 0 := by decide
      exact r_zret () C0 hr (by decide +kernel) hlocks hS (Nat.le_refl _) (Nat.le_refl _) dX11_isOn_27 ⟨(HID.of (by omega)), (Or.inl (by omega)), ⟨by decide, by decide⟩⟩ (hP.sub (ws' := [(a, .inr (11, OX z i1 i2 i3 i4 i5 i6 i7 i8 i30 i43 i45 i46 i47 i48 i49 i50 i51 i58 i59 i65 i68 i69 i72 i78 i80 i81 i82 i87 i92 i96 i100 i103 i104)), ((z 44), .inl (T 0, 800, .inl g44))]) [0, 1] rfl) (hD.sub (ws' := [(a, .inr (11, OX z i1 i2 i3 i4 i5 i6 i7 i8 i30 i43 i45 i46 i47 i48 i49 i50 i51 i58 i59 i65 i68 i69 i72 i78 i80 i81 i82 i87 i92 i96 i100 i103 i104)), ((z 44), .inl (T 0, 800, .inl g44))]) [0, 1] (by decide +kernel) rfl)
    · skip
      have kc27200010 : x27200009.toInt = p1.toInt := eq_ti rfl rfl c27200010
      refine lv_iconst (v := 1) hx hb dX11_isOn_22 (by decide) ?_
      refine lv_goto (tgt := 27) hx hb dX11_isOn_23 (by decide) ?_
      have hl27200012 : (1 : Int32).toInt = 1 := by decide
      exact r_zret () C0 hr (by decide +kernel) hlocks hS (Nat.le_refl _) (Nat.le_refl _) dX11_isOn_27 ⟨(HID.of (by omega)), (Or.inr (by omega)), ⟨by decide, by decide⟩⟩ (hP.sub (ws' := [(a, .inr (11, OX z i1 i2 i3 i4 i5 i6 i7 i8 i30 i43 i45 i46 i47 i48 i49 i50 i51 i58 i59 i65 i68 i69 i72 i78 i80 i81 i82 i87 i92 i96 i100 i103 i104)), ((z 44), .inl (T 0, 800, .inl g44))]) [0, 1] rfl) (hD.sub (ws' := [(a, .inr (11, OX z i1 i2 i3 i4 i5 i6 i7 i8 i30 i43 i45 i46 i47 i48 i49 i50 i51 i58 i59 i65 i68 i69 i72 i78 i80 i81 i82 i87 i92 i96 i100 i103 i104)), ((z 44), .inl (T 0, 800, .inl g44))]) [0, 1] (by decide +kernel) rfl)
set_option maxHeartbeats 4000000 in
set_option maxRecDepth 100000 in
theorem h_X11_drops_27300007 (l : Launch) (D : va_G) (T : Nat → ClassId) (sq sv sz : Nat) (a : Nat) (z : Nat → Nat) (i1 i2 i3 i4 i5 i6 i7 i8 i30 i43 i45 i46 i47 i48 i49 i50 i51 i58 i59 i65 i68 i69 i72 i78 i80 i81 i82 i87 i92 i96 i100 i103 i104 : Int32) (g42 : Nat → Int32) (g44 : Nat → Int32) (hi43 : 0 ≤ i43.toInt ∧ i43.toInt ≤ 699) (hi45 : 1 ≤ i45.toInt ∧ i45.toInt ≤ 800) : Met l yX11_drops (.code yX11_drops cX11_drops 1 none :: TB) { frames := 1, cells := 0, slots := 0, locals := 21 } (PC2 D T sq sv [.ref a] [(a, .inr (11, OX z i1 i2 i3 i4 i5 i6 i7 i8 i30 i43 i45 i46 i47 i48 i49 i50 i51 i58 i59 i65 i68 i69 i72 i78 i80 i81 i82 i87 i92 i96 i100 i103 i104)), ((z 42), .inl (T 0, 1400, .inl g42)), ((z 44), .inl (T 0, 800, .inl g44))] sz) (Qv2 (S := Int32 × Int32 × (Nat → Int32)) (fun (u : Int32 × Int32 × (Nat → Int32)) => match u with | (ui43, ui45, ug42) => (0 ≤ ui43.toInt ∧ ui43.toInt ≤ 700) ∧ (0 ≤ ui45.toInt ∧ ui45.toInt ≤ 800) ∧ (ui45.toInt = i45.toInt - 1 ∧ ui43.toInt = i43.toInt + 1) ∧ (ug42 = upd g42 (Int32.toNatClampNeg i43) (g44 (Int32.toNatClampNeg ui45)))) (fun (u : Int32 × Int32 × (Nat → Int32)) => match u with | (ui43, ui45, ug42) => [(a, .inr (11, OX z i1 i2 i3 i4 i5 i6 i7 i8 i30 ui43 ui45 i46 i47 i48 i49 i50 i51 i58 i59 i65 i68 i69 i72 i78 i80 i81 i82 i87 i92 i96 i100 i103 i104)), ((z 42), .inl (T 0, 1400, .inl ug42)), ((z 44), .inl (T 0, 800, .inl g44))]) D (va_A [(a, .inr (11, OX z i1 i2 i3 i4 i5 i6 i7 i8 i30 i43 i45 i46 i47 i48 i49 i50 i51 i58 i59 i65 i68 i69 i72 i78 i80 i81 i82 i87 i92 i96 i100 i103 i104)), ((z 42), .inl (T 0, 1400, .inl g42)), ((z 44), .inl (T 0, 800, .inl g44))] sz)) 0 0 (va_A [(a, .inr (11, OX z i1 i2 i3 i4 i5 i6 i7 i8 i30 i43 i45 i46 i47 i48 i49 i50 i51 i58 i59 i65 i68 i69 i72 i78 i80 i81 i82 i87 i92 i96 i100 i103 i104)), ((z 42), .inl (T 0, 1400, .inl g42)), ((z 44), .inl (T 0, 800, .inl g44))] sz) := by
  refine ct_begin2 (Qc := Qv2 (S := Int32 × Int32 × (Nat → Int32)) (fun (u : Int32 × Int32 × (Nat → Int32)) => match u with | (ui43, ui45, ug42) => (0 ≤ ui43.toInt ∧ ui43.toInt ≤ 700) ∧ (0 ≤ ui45.toInt ∧ ui45.toInt ≤ 800) ∧ (ui45.toInt = i45.toInt - 1 ∧ ui43.toInt = i43.toInt + 1) ∧ (ug42 = upd g42 (Int32.toNatClampNeg i43) (g44 (Int32.toNatClampNeg ui45)))) (fun (u : Int32 × Int32 × (Nat → Int32)) => match u with | (ui43, ui45, ug42) => [(a, .inr (11, OX z i1 i2 i3 i4 i5 i6 i7 i8 i30 ui43 ui45 i46 i47 i48 i49 i50 i51 i58 i59 i65 i68 i69 i72 i78 i80 i81 i82 i87 i92 i96 i100 i103 i104)), ((z 42), .inl (T 0, 1400, .inl ug42)), ((z 44), .inl (T 0, 800, .inl g44))]) D) (by decide +kernel) (Nat.le_of_ble_eq_true rfl) ?_
  intro p e s m below meth c A ls C0 hr hlocks hnm hE hStr hA hP hD hl
  generalize ([.ref a] : List Value).toArray = args at C0 ⊢
  have hx := C0.1
  have hb := C0.2.1
  have hml := C0.2.2.1
  have hown := C0.2.2.2.1
  have hT := C0.2.2.2.2
  have hK := hE.1
  generalize hH : s.heap = H at hP ⊢
  have hS : va_S A s.heap H [] := by rw [← hH]; exact va_S.rf
  have hP : va_P D vwCl [(a, .inr (11, OX z i1 i2 i3 i4 i5 i6 i7 i8 i30 i43 i45 i46 i47 i48 i49 i50 i51 i58 i59 i65 i68 i69 i72 i78 i80 i81 i82 i87 i92 i96 i100 i103 i104)), ((z 42), .inl (T 0, 1400, .inl g42)), ((z 44), .inl (T 0, 800, .inl g44))] H := hP
  have hD : va_D A [(a, .inr (11, OX z i1 i2 i3 i4 i5 i6 i7 i8 i30 i43 i45 i46 i47 i48 i49 i50 i51 i58 i59 i65 i68 i69 i72 i78 i80 i81 i82 i87 i92 i96 i100 i103 i104)), ((z 42), .inl (T 0, 1400, .inl g42)), ((z 44), .inl (T 0, 800, .inl g44))] := hD
  have hl : lv_has ls 1 [(0, .ref a)] := hl
  refine lv_aload_n hx hb dX11_drops_0 rfl (lv_at hl 0 rfl) ?_
  refine lv_dup hx hb dX11_drops_1 rfl ?_
  refine r_get (v := .int i45) C0 hE ffX11_45 mw_835 hP 0 rfl ox_45 dX11_drops_2 ?_
  refine lv_iconst (v := 1) hx hb dX11_drops_5 (by decide) ?_
  refine lv_isub hx hb dX11_drops_6 ?_
  refine lv_topi (fun x27300008 ex27300008 => ?_)
  have hx27300008 : x27300008.toInt = i45.toInt - 1 := ti_sub ex27300008 rfl (by decide) (by omega) (by omega)
  refine r_put (v := .int x27300008) (ty := .int) (ws1 := [(a, .inr (11, OX z i1 i2 i3 i4 i5 i6 i7 i8 i30 i43 x27300008 i46 i47 i48 i49 i50 i51 i58 i59 i65 i68 i69 i72 i78 i80 i81 i82 i87 i92 i96 i100 i103 i104)), ((z 42), .inl (T 0, 1400, .inl g42)), ((z 44), .inl (T 0, 800, .inl g44))]) C0 hE ffX11_45 tyX11 tyX11_ok nmX11 mw_835 pf_1358 hP hD hS 0 rfl rfl rfl ol_45 os_45 rfl dX11_drops_7 (fun H locs hP hD hS => ?_)
  refine lv_aload_n hx hb dX11_drops_10 rfl (lv_at hl 0 rfl) ?_
  refine lv_aload_n hx hb dX11_drops_11 rfl (lv_at hl 0 rfl) ?_
  refine r_get (v := .ref (z 44)) C0 hE ffX11_44 mw_834 hP 0 rfl ox_44 dX11_drops_12 ?_
  refine lv_aload_n hx hb dX11_drops_15 rfl (lv_at hl 0 rfl) ?_
  refine r_get (v := .int x27300008) C0 hE ffX11_45 mw_835 hP 0 rfl ox_45 dX11_drops_16 ?_
  refine va_iald hx hb hK hP 2 0 rfl rfl (in_ti rfl (by omega) (by omega)) dX11_drops_19 ?_
  refine lv_topi (fun x27300009 ex27300009 => ?_)
  refine r_callv2 (wr := [((z 44), .inl (T 0, 800, .inl g44))]) (r_runV2 (As := [.int x27300009]) (rest := []) (wc := [(a, .inr (11, OX z i1 i2 i3 i4 i5 i6 i7 i8 i30 i43 x27300008 i46 i47 i48 i49 i50 i51 i58 i59 i65 i68 i69 i72 i78 i80 i81 i82 i87 i92 i96 i100 i103 i104)), ((z 42), .inl (T 0, 1400, .inl g42))]) (ci := 11) C0 hE hStr hS (va_free (wc := [(a, .inr (11, OX z i1 i2 i3 i4 i5 i6 i7 i8 i30 i43 x27300008 i46 i47 i48 i49 i50 i51 i58 i59 i65 i68 i69 i72 i78 i80 i81 i82 i87 i92 i96 i100 i103 i104)), ((z 42), .inl (T 0, 1400, .inl g42))]) hD hS hA [0, 1] rfl) (h_X11_code_27100004 l D T sq sv H.size a z i1 i2 i3 i4 i5 i6 i7 i8 i30 i43 x27300008 i46 i47 i48 i49 i50 i51 i58 i59 i65 i68 i69 i72 i78 i80 i81 i82 i87 i92 i96 i100 i103 i104 x27300009 g42 ⟨by omega, by omega⟩) mw_969 mw_970 mw_1313 mw_14 mw_971 dn_1721 rfl rfl ⟨Nat.le_of_ble_eq_true rfl, Nat.le_of_ble_eq_true rfl⟩ (hP.sub (ws' := [(a, .inr (11, OX z i1 i2 i3 i4 i5 i6 i7 i8 i30 i43 x27300008 i46 i47 i48 i49 i50 i51 i58 i59 i65 i68 i69 i72 i78 i80 i81 i82 i87 i92 i96 i100 i103 i104)), ((z 42), .inl (T 0, 1400, .inl g42))]) [0, 1] rfl) (hD.sub (ws' := [(a, .inr (11, OX z i1 i2 i3 i4 i5 i6 i7 i8 i30 i43 x27300008 i46 i47 i48 i49 i50 i51 i58 i59 i65 i68 i69 i72 i78 i80 i81 i82 i87 i92 i96 i100 i103 i104)), ((z 42), .inl (T 0, 1400, .inl g42))]) [0, 1] (by decide +kernel) rfl) rfl rfl rfl hl.1 rfl (Nat.le_of_ble_eq_true rfl) dX11_drops_20 ⟨Nat.le_of_ble_eq_true rfl, Nat.le_of_ble_eq_true rfl⟩) hP hD hS hA [0, 1] [2] rfl rfl (by decide +kernel) (by decide +kernel) (fun u H locs hq hP hD hS => ?_)
  obtain ⟨x27300010, f27300011⟩ := u
  obtain ⟨hx27300010, hp27300012, hg27300013⟩ := hq
  have hx27300010 : 0 ≤ x27300010.toInt ∧ x27300010.toInt ≤ 700 := hx27300010
  have hp27300012 : x27300010.toInt = i43.toInt + 1 := hp27300012
  have hg27300013 : f27300011 = upd g42 (Int32.toNatClampNeg i43) x27300009 := hg27300013
  have hP : va_P D vwCl [((z 44), .inl (T 0, 800, .inl g44)), (a, .inr (11, OX z i1 i2 i3 i4 i5 i6 i7 i8 i30 x27300010 x27300008 i46 i47 i48 i49 i50 i51 i58 i59 i65 i68 i69 i72 i78 i80 i81 i82 i87 i92 i96 i100 i103 i104)), ((z 42), .inl (T 0, 1400, .inl f27300011))] H := hP
  have hD : va_D A [((z 44), .inl (T 0, 800, .inl g44)), (a, .inr (11, OX z i1 i2 i3 i4 i5 i6 i7 i8 i30 x27300010 x27300008 i46 i47 i48 i49 i50 i51 i58 i59 i65 i68 i69 i72 i78 i80 i81 i82 i87 i92 i96 i100 i103 i104)), ((z 42), .inl (T 0, 1400, .inl f27300011))] := hD
  refine W.widen (k := 0) (n := 0) (Nat.le_refl _) (Nat.le_refl _) ?_
  exact r_vret2 (x27300010, x27300008, f27300011) C0 hr hlocks hS (Nat.le_refl _) (Nat.le_refl _) dX11_drops_23 ⟨⟨by omega, by omega⟩, ⟨by omega, by omega⟩, (by omega), (by rw [hg27300013, ex27300009])⟩ (hP.sub (ws' := [(a, .inr (11, OX z i1 i2 i3 i4 i5 i6 i7 i8 i30 x27300010 x27300008 i46 i47 i48 i49 i50 i51 i58 i59 i65 i68 i69 i72 i78 i80 i81 i82 i87 i92 i96 i100 i103 i104)), ((z 42), .inl (T 0, 1400, .inl f27300011)), ((z 44), .inl (T 0, 800, .inl g44))]) [1, 2, 0] rfl) (hD.sub (ws' := [(a, .inr (11, OX z i1 i2 i3 i4 i5 i6 i7 i8 i30 x27300010 x27300008 i46 i47 i48 i49 i50 i51 i58 i59 i65 i68 i69 i72 i78 i80 i81 i82 i87 i92 i96 i100 i103 i104)), ((z 42), .inl (T 0, 1400, .inl f27300011)), ((z 44), .inl (T 0, 800, .inl g44))]) [1, 2, 0] (by decide +kernel) rfl)
set_option maxHeartbeats 4000000 in
set_option maxRecDepth 100000 in
theorem h_X11_opensOne_27400011 (l : Launch) (D : va_G) (T : Nat → ClassId) (sq sv sz : Nat) (a : Nat) (z : Nat → Nat) (i1 i2 i3 i4 i5 i6 i7 i8 i30 i43 i45 i46 i47 i48 i49 i50 i51 i58 i59 i65 i68 i69 i72 i78 i80 i81 i82 i87 i92 i96 i100 i103 i104 : Int32) (p1 : Int32) (p2 : Int32) (g44 : Nat → Int32) (hi45 : 0 ≤ i45.toInt ∧ i45.toInt ≤ 799) : Met l yX11_opensOne (.code yX11_opensOne cX11_opensOne 3 none :: TB) { frames := 1, cells := 0, slots := 0, locals := 22 } (PC2 D T sq sv [.ref a, .int p1, .int p2] [(a, .inr (11, OX z i1 i2 i3 i4 i5 i6 i7 i8 i30 i43 i45 i46 i47 i48 i49 i50 i51 i58 i59 i65 i68 i69 i72 i78 i80 i81 i82 i87 i92 i96 i100 i103 i104)), ((z 44), .inl (T 0, 800, .inl g44))] sz) (Qv2 (S := Int32 × Int32 × Int32 × Int32 × (Nat → Int32)) (fun (u : Int32 × Int32 × Int32 × Int32 × (Nat → Int32)) => match u with | (ui5, ui6, ui45, ui46, ug44) => (0 ≤ ui45.toInt ∧ ui45.toInt ≤ 800) ∧ (HID ((ui5.toInt ≠ 0 ∧ ug44 = g44) ∨ (ui5.toInt = i5.toInt ∧ ui45.toInt = i45.toInt + 1 ∧ ug44 = upd g44 (Int32.toNatClampNeg i45) p1))) ∧ (((ui5.toInt ≠ 0 ∧ ui45.toInt = i45.toInt)) ∨ ((ui5.toInt = i5.toInt ∧ ui45.toInt = i45.toInt + 1)))) (fun (u : Int32 × Int32 × Int32 × Int32 × (Nat → Int32)) => match u with | (ui5, ui6, ui45, ui46, ug44) => [(a, .inr (11, OX z i1 i2 i3 i4 ui5 ui6 i7 i8 i30 i43 ui45 ui46 i47 i48 i49 i50 i51 i58 i59 i65 i68 i69 i72 i78 i80 i81 i82 i87 i92 i96 i100 i103 i104)), ((z 44), .inl (T 0, 800, .inl ug44))]) D (va_A [(a, .inr (11, OX z i1 i2 i3 i4 i5 i6 i7 i8 i30 i43 i45 i46 i47 i48 i49 i50 i51 i58 i59 i65 i68 i69 i72 i78 i80 i81 i82 i87 i92 i96 i100 i103 i104)), ((z 44), .inl (T 0, 800, .inl g44))] sz)) 0 0 (va_A [(a, .inr (11, OX z i1 i2 i3 i4 i5 i6 i7 i8 i30 i43 i45 i46 i47 i48 i49 i50 i51 i58 i59 i65 i68 i69 i72 i78 i80 i81 i82 i87 i92 i96 i100 i103 i104)), ((z 44), .inl (T 0, 800, .inl g44))] sz) := by
  refine ct_begin2 (Qc := Qv2 (S := Int32 × Int32 × Int32 × Int32 × (Nat → Int32)) (fun (u : Int32 × Int32 × Int32 × Int32 × (Nat → Int32)) => match u with | (ui5, ui6, ui45, ui46, ug44) => (0 ≤ ui45.toInt ∧ ui45.toInt ≤ 800) ∧ (HID ((ui5.toInt ≠ 0 ∧ ug44 = g44) ∨ (ui5.toInt = i5.toInt ∧ ui45.toInt = i45.toInt + 1 ∧ ug44 = upd g44 (Int32.toNatClampNeg i45) p1))) ∧ (((ui5.toInt ≠ 0 ∧ ui45.toInt = i45.toInt)) ∨ ((ui5.toInt = i5.toInt ∧ ui45.toInt = i45.toInt + 1)))) (fun (u : Int32 × Int32 × Int32 × Int32 × (Nat → Int32)) => match u with | (ui5, ui6, ui45, ui46, ug44) => [(a, .inr (11, OX z i1 i2 i3 i4 ui5 ui6 i7 i8 i30 i43 ui45 ui46 i47 i48 i49 i50 i51 i58 i59 i65 i68 i69 i72 i78 i80 i81 i82 i87 i92 i96 i100 i103 i104)), ((z 44), .inl (T 0, 800, .inl ug44))]) D) (by decide +kernel) (Nat.le_of_ble_eq_true rfl) ?_
  intro p e s m below meth c A ls C0 hr hlocks hnm hE hStr hA hP hD hl
  generalize ([.ref a, .int p1, .int p2] : List Value).toArray = args at C0 ⊢
  have hx := C0.1
  have hb := C0.2.1
  have hml := C0.2.2.1
  have hown := C0.2.2.2.1
  have hT := C0.2.2.2.2
  have hK := hE.1
  generalize hH : s.heap = H at hP ⊢
  have hS : va_S A s.heap H [] := by rw [← hH]; exact va_S.rf
  have hP : va_P D vwCl [(a, .inr (11, OX z i1 i2 i3 i4 i5 i6 i7 i8 i30 i43 i45 i46 i47 i48 i49 i50 i51 i58 i59 i65 i68 i69 i72 i78 i80 i81 i82 i87 i92 i96 i100 i103 i104)), ((z 44), .inl (T 0, 800, .inl g44))] H := hP
  have hD : va_D A [(a, .inr (11, OX z i1 i2 i3 i4 i5 i6 i7 i8 i30 i43 i45 i46 i47 i48 i49 i50 i51 i58 i59 i65 i68 i69 i72 i78 i80 i81 i82 i87 i92 i96 i100 i103 i104)), ((z 44), .inl (T 0, 800, .inl g44))] := hD
  have hl : lv_has ls 3 [(0, .ref a), (1, .int p1), (2, .int p2)] := hl
  refine lv_aload_n hx hb dX11_opensOne_0 rfl (lv_at hl 0 rfl) ?_
  refine r_get (v := .int i46) C0 hE ffX11_46 mw_836 hP 0 rfl ox_46 dX11_opensOne_1 ?_
  refine lv_bipush (v := 6) hx hb dX11_opensOne_4 (by decide) ?_
  refine lv_icmp_ne (tgt := 16) hx hb dX11_opensOne_6 (by decide) (fun c27400012 => ?_) (fun c27400012 => ?_)
  · skip
    have kc27400012 : i46.toInt ≠ 6 := ne_ti rfl (by decide) c27400012
    refine lv_aload_n hx hb dX11_opensOne_16 rfl (lv_at hl 0 rfl) ?_
    refine lv_dup hx hb dX11_opensOne_17 rfl ?_
    refine r_get (v := .int i46) C0 hE ffX11_46 mw_836 hP 0 rfl ox_46 dX11_opensOne_18 ?_
    refine lv_iconst (v := 1) hx hb dX11_opensOne_21 (by decide) ?_
    refine lv_iadd hx hb dX11_opensOne_22 ?_
    refine lv_topi (fun x27400013 ex27400013 => ?_)
    refine r_put (v := .int x27400013) (ty := .int) (ws1 := [(a, .inr (11, OX z i1 i2 i3 i4 i5 i6 i7 i8 i30 i43 i45 x27400013 i47 i48 i49 i50 i51 i58 i59 i65 i68 i69 i72 i78 i80 i81 i82 i87 i92 i96 i100 i103 i104)), ((z 44), .inl (T 0, 800, .inl g44))]) C0 hE ffX11_46 tyX11 tyX11_ok nmX11 mw_836 pf_1358 hP hD hS 0 rfl rfl rfl ol_46 os_46 rfl dX11_opensOne_23 (fun H locs hP hD hS => ?_)
    refine lv_aload_n hx hb dX11_opensOne_26 rfl (lv_at hl 0 rfl) ?_
    refine r_get (v := .ref (z 44)) C0 hE ffX11_44 mw_834 hP 0 rfl ox_44 dX11_opensOne_27 ?_
    refine lv_aload_n hx hb dX11_opensOne_30 rfl (lv_at hl 0 rfl) ?_
    refine r_get (v := .int i45) C0 hE ffX11_45 mw_835 hP 0 rfl ox_45 dX11_opensOne_31 ?_
    refine lv_iload_n hx hb dX11_opensOne_34 rfl (lv_at hl 1 rfl) ?_
    refine r_iastX hx hb hK hP hD hS 1 rfl (in_ti rfl (by omega) (by omega)) dX11_opensOne_35 (fun f27400014 ef27400014 H locs hP hD hS => ?_)
    have hP : va_P D vwCl [(a, .inr (11, OX z i1 i2 i3 i4 i5 i6 i7 i8 i30 i43 i45 x27400013 i47 i48 i49 i50 i51 i58 i59 i65 i68 i69 i72 i78 i80 i81 i82 i87 i92 i96 i100 i103 i104)), ((z 44), .inl (T 0, 800, .inl f27400014))] H := hP
    have hD : va_D A [(a, .inr (11, OX z i1 i2 i3 i4 i5 i6 i7 i8 i30 i43 i45 x27400013 i47 i48 i49 i50 i51 i58 i59 i65 i68 i69 i72 i78 i80 i81 i82 i87 i92 i96 i100 i103 i104)), ((z 44), .inl (T 0, 800, .inl f27400014))] := hD
    refine lv_aload_n hx hb dX11_opensOne_36 rfl (lv_at hl 0 rfl) ?_
    refine lv_dup hx hb dX11_opensOne_37 rfl ?_
    refine r_get (v := .int i45) C0 hE ffX11_45 mw_835 hP 0 rfl ox_45 dX11_opensOne_38 ?_
    refine lv_iconst (v := 1) hx hb dX11_opensOne_41 (by decide) ?_
    refine lv_iadd hx hb dX11_opensOne_42 ?_
    refine lv_topi (fun x27400015 ex27400015 => ?_)
    have hx27400015 : x27400015.toInt = i45.toInt + 1 := ti_add ex27400015 rfl (by decide) (by omega) (by omega)
    refine r_put (v := .int x27400015) (ty := .int) (ws1 := [(a, .inr (11, OX z i1 i2 i3 i4 i5 i6 i7 i8 i30 i43 x27400015 x27400013 i47 i48 i49 i50 i51 i58 i59 i65 i68 i69 i72 i78 i80 i81 i82 i87 i92 i96 i100 i103 i104)), ((z 44), .inl (T 0, 800, .inl f27400014))]) C0 hE ffX11_45 tyX11 tyX11_ok nmX11 mw_835 pf_1358 hP hD hS 0 rfl rfl rfl ol_45 os_45 rfl dX11_opensOne_43 (fun H locs hP hD hS => ?_)
    rcases Decidable.em (i5.toInt = 0) with hb27400016 | hb27400016
    · skip
      exact r_vret2 (i5, i6, x27400015, x27400013, f27400014) C0 hr hlocks hS (Nat.le_refl _) (Nat.le_refl _) dX11_opensOne_46 ⟨⟨by omega, by omega⟩, (Or.inr ⟨rfl, by omega, ef27400014⟩), (Or.inr (by omega))⟩ (hP.sub (ws' := [(a, .inr (11, OX z i1 i2 i3 i4 i5 i6 i7 i8 i30 i43 x27400015 x27400013 i47 i48 i49 i50 i51 i58 i59 i65 i68 i69 i72 i78 i80 i81 i82 i87 i92 i96 i100 i103 i104)), ((z 44), .inl (T 0, 800, .inl f27400014))]) [0, 1] rfl) (hD.sub (ws' := [(a, .inr (11, OX z i1 i2 i3 i4 i5 i6 i7 i8 i30 i43 x27400015 x27400013 i47 i48 i49 i50 i51 i58 i59 i65 i68 i69 i72 i78 i80 i81 i82 i87 i92 i96 i100 i103 i104)), ((z 44), .inl (T 0, 800, .inl f27400014))]) [0, 1] (by decide +kernel) rfl)
    · skip
      exact r_vret2 (i5, i6, x27400015, x27400013, f27400014) C0 hr hlocks hS (Nat.le_refl _) (Nat.le_refl _) dX11_opensOne_46 ⟨⟨by omega, by omega⟩, (Or.inr ⟨rfl, by omega, ef27400014⟩), (Or.inr (by omega))⟩ (hP.sub (ws' := [(a, .inr (11, OX z i1 i2 i3 i4 i5 i6 i7 i8 i30 i43 x27400015 x27400013 i47 i48 i49 i50 i51 i58 i59 i65 i68 i69 i72 i78 i80 i81 i82 i87 i92 i96 i100 i103 i104)), ((z 44), .inl (T 0, 800, .inl f27400014))]) [0, 1] rfl) (hD.sub (ws' := [(a, .inr (11, OX z i1 i2 i3 i4 i5 i6 i7 i8 i30 i43 x27400015 x27400013 i47 i48 i49 i50 i51 i58 i59 i65 i68 i69 i72 i78 i80 i81 i82 i87 i92 i96 i100 i103 i104)), ((z 44), .inl (T 0, 800, .inl f27400014))]) [0, 1] (by decide +kernel) rfl)
  · skip
    have kc27400012 : i46.toInt = 6 := eq_ti rfl (by decide) c27400012
    refine lv_aload_n hx hb dX11_opensOne_9 rfl (lv_at hl 0 rfl) ?_
    refine lv_iconst (v := 4) hx hb dX11_opensOne_10 (by decide) ?_
    refine lv_iload_n hx hb dX11_opensOne_11 rfl (lv_at hl 2 rfl) ?_
    refine r_callv2 (wr := [((z 44), .inl (T 0, 800, .inl g44))]) (r_runV2 (As := [.int 4, .int p2]) (rest := []) (wc := [(a, .inr (11, OX z i1 i2 i3 i4 i5 i6 i7 i8 i30 i43 i45 i46 i47 i48 i49 i50 i51 i58 i59 i65 i68 i69 i72 i78 i80 i81 i82 i87 i92 i96 i100 i103 i104))]) (ci := 11) C0 hE hStr hS (va_free (wc := [(a, .inr (11, OX z i1 i2 i3 i4 i5 i6 i7 i8 i30 i43 i45 i46 i47 i48 i49 i50 i51 i58 i59 i65 i68 i69 i72 i78 i80 i81 i82 i87 i92 i96 i100 i103 i104))]) hD hS hA [0] rfl) (h_X11_fail_20300002 l D T sq sv H.size a z i1 i2 i3 i4 i5 i6 i7 i8 i30 i43 i45 i46 i47 i48 i49 i50 i51 i58 i59 i65 i68 i69 i72 i78 i80 i81 i82 i87 i92 i96 i100 i103 i104 4 p2 ⟨by decide, by decide⟩) mw_919 mw_920 mw_1299 mw_14 mw_921 dn_1707 rfl rfl ⟨Nat.le_of_ble_eq_true rfl, Nat.le_of_ble_eq_true rfl⟩ (hP.sub (ws' := [(a, .inr (11, OX z i1 i2 i3 i4 i5 i6 i7 i8 i30 i43 i45 i46 i47 i48 i49 i50 i51 i58 i59 i65 i68 i69 i72 i78 i80 i81 i82 i87 i92 i96 i100 i103 i104))]) [0] rfl) (hD.sub (ws' := [(a, .inr (11, OX z i1 i2 i3 i4 i5 i6 i7 i8 i30 i43 i45 i46 i47 i48 i49 i50 i51 i58 i59 i65 i68 i69 i72 i78 i80 i81 i82 i87 i92 i96 i100 i103 i104))]) [0] (by decide +kernel) rfl) rfl rfl rfl hl.1 rfl (Nat.le_of_ble_eq_true rfl) dX11_opensOne_12 ⟨Nat.le_of_ble_eq_true rfl, Nat.le_of_ble_eq_true rfl⟩) hP hD hS hA [0] [1] rfl rfl (by decide +kernel) (by decide +kernel) (fun u H locs hq hP hD hS => ?_)
    obtain ⟨x27400017, x27400018⟩ := u
    have hAlt := hq
    have hP : va_P D vwCl [((z 44), .inl (T 0, 800, .inl g44)), (a, .inr (11, OX z i1 i2 i3 i4 x27400017 x27400018 i7 i8 i30 i43 i45 i46 i47 i48 i49 i50 i51 i58 i59 i65 i68 i69 i72 i78 i80 i81 i82 i87 i92 i96 i100 i103 i104))] H := hP
    have hD : va_D A [((z 44), .inl (T 0, 800, .inl g44)), (a, .inr (11, OX z i1 i2 i3 i4 x27400017 x27400018 i7 i8 i30 i43 i45 i46 i47 i48 i49 i50 i51 i58 i59 i65 i68 i69 i72 i78 i80 i81 i82 i87 i92 i96 i100 i103 i104))] := hD
    rcases hAlt with hAlt | hAlt
    · skip
      have hp27400019 := hAlt
      have hp27400019 : i5.toInt ≠ 0 ∧ x27400017.toInt = i5.toInt := hp27400019
      clear hAlt
      have hl27400020 : (4 : Int32).toInt = 4 := by decide
      refine W.widen (k := 0) (n := 0) (Nat.le_refl _) (Nat.le_refl _) ?_
      exact r_vret2 (x27400017, x27400018, i45, i46, g44) C0 hr hlocks hS (Nat.le_refl _) (Nat.le_refl _) dX11_opensOne_15 ⟨⟨by omega, by omega⟩, (Or.inl ⟨by omega, rfl⟩), (Or.inl (by omega))⟩ (hP.sub (ws' := [(a, .inr (11, OX z i1 i2 i3 i4 x27400017 x27400018 i7 i8 i30 i43 i45 i46 i47 i48 i49 i50 i51 i58 i59 i65 i68 i69 i72 i78 i80 i81 i82 i87 i92 i96 i100 i103 i104)), ((z 44), .inl (T 0, 800, .inl g44))]) [1, 0] rfl) (hD.sub (ws' := [(a, .inr (11, OX z i1 i2 i3 i4 x27400017 x27400018 i7 i8 i30 i43 i45 i46 i47 i48 i49 i50 i51 i58 i59 i65 i68 i69 i72 i78 i80 i81 i82 i87 i92 i96 i100 i103 i104)), ((z 44), .inl (T 0, 800, .inl g44))]) [1, 0] (by decide +kernel) rfl)
    · skip
      have hp27400021 := hAlt
      have hp27400021 : i5.toInt = 0 ∧ x27400017.toInt = 4 ∧ 1 ≤ x27400017.toInt := hp27400021
      clear hAlt
      have hl27400022 : (4 : Int32).toInt = 4 := by decide
      refine W.widen (k := 0) (n := 0) (Nat.le_refl _) (Nat.le_refl _) ?_
      exact r_vret2 (x27400017, x27400018, i45, i46, g44) C0 hr hlocks hS (Nat.le_refl _) (Nat.le_refl _) dX11_opensOne_15 ⟨⟨by omega, by omega⟩, (Or.inl ⟨by omega, rfl⟩), (Or.inl (by omega))⟩ (hP.sub (ws' := [(a, .inr (11, OX z i1 i2 i3 i4 x27400017 x27400018 i7 i8 i30 i43 i45 i46 i47 i48 i49 i50 i51 i58 i59 i65 i68 i69 i72 i78 i80 i81 i82 i87 i92 i96 i100 i103 i104)), ((z 44), .inl (T 0, 800, .inl g44))]) [1, 0] rfl) (hD.sub (ws' := [(a, .inr (11, OX z i1 i2 i3 i4 x27400017 x27400018 i7 i8 i30 i43 i45 i46 i47 i48 i49 i50 i51 i58 i59 i65 i68 i69 i72 i78 i80 i81 i82 i87 i92 i96 i100 i103 i104)), ((z 44), .inl (T 0, 800, .inl g44))]) [1, 0] (by decide +kernel) rfl)
set_option maxHeartbeats 4000000 in
set_option maxRecDepth 100000 in
theorem h_X11_isMark_27500005 (l : Launch) (D : va_G) (T : Nat → ClassId) (sq sv sz : Nat) (a : Nat) (z : Nat → Nat) (i1 i2 i3 i4 i5 i6 i7 i8 i30 i43 i45 i46 i47 i48 i49 i50 i51 i58 i59 i65 i68 i69 i72 i78 i80 i81 i82 i87 i92 i96 i100 i103 i104 : Int32) (p1 : Int32) : Met l yX11_isMark (.code yX11_isMark cX11_isMark 2 (some .boolean) :: TB) { frames := 0, cells := 0, slots := 0, locals := 0 } (PC2 D T sq sv [.ref a, .int p1] [(a, .inr (11, OX z i1 i2 i3 i4 i5 i6 i7 i8 i30 i43 i45 i46 i47 i48 i49 i50 i51 i58 i59 i65 i68 i69 i72 i78 i80 i81 i82 i87 i92 i96 i100 i103 i104))] sz) (Qi (S := Unit) (fun (r : Int32) (_ : Unit) => (((r.toInt = 1 ∧ 20 ≤ p1.toInt ∧ p1.toInt ≤ 24)) ∨ ((r.toInt = 0 ∧ p1.toInt < 20)) ∨ ((r.toInt = 0 ∧ 24 < p1.toInt))) ∧ (0 ≤ r.toInt ∧ r.toInt ≤ 1)) (fun (_ : Unit) => [(a, .inr (11, OX z i1 i2 i3 i4 i5 i6 i7 i8 i30 i43 i45 i46 i47 i48 i49 i50 i51 i58 i59 i65 i68 i69 i72 i78 i80 i81 i82 i87 i92 i96 i100 i103 i104))]) D (va_A [(a, .inr (11, OX z i1 i2 i3 i4 i5 i6 i7 i8 i30 i43 i45 i46 i47 i48 i49 i50 i51 i58 i59 i65 i68 i69 i72 i78 i80 i81 i82 i87 i92 i96 i100 i103 i104))] sz)) 0 0 (va_A [(a, .inr (11, OX z i1 i2 i3 i4 i5 i6 i7 i8 i30 i43 i45 i46 i47 i48 i49 i50 i51 i58 i59 i65 i68 i69 i72 i78 i80 i81 i82 i87 i92 i96 i100 i103 i104))] sz) := by
  refine ct_begin2 (Qc := Qi (S := Unit) (fun (r : Int32) (_ : Unit) => (((r.toInt = 1 ∧ 20 ≤ p1.toInt ∧ p1.toInt ≤ 24)) ∨ ((r.toInt = 0 ∧ p1.toInt < 20)) ∨ ((r.toInt = 0 ∧ 24 < p1.toInt))) ∧ (0 ≤ r.toInt ∧ r.toInt ≤ 1)) (fun (_ : Unit) => [(a, .inr (11, OX z i1 i2 i3 i4 i5 i6 i7 i8 i30 i43 i45 i46 i47 i48 i49 i50 i51 i58 i59 i65 i68 i69 i72 i78 i80 i81 i82 i87 i92 i96 i100 i103 i104))]) D) (by decide +kernel) (Nat.le_of_ble_eq_true rfl) ?_
  intro p e s m below meth c A ls C0 hr hlocks hnm hE hStr hA hP hD hl
  generalize ([.ref a, .int p1] : List Value).toArray = args at C0 ⊢
  have hx := C0.1
  have hb := C0.2.1
  have hml := C0.2.2.1
  have hown := C0.2.2.2.1
  have hT := C0.2.2.2.2
  have hK := hE.1
  generalize hH : s.heap = H at hP ⊢
  have hS : va_S A s.heap H [] := by rw [← hH]; exact va_S.rf
  have hP : va_P D vwCl [(a, .inr (11, OX z i1 i2 i3 i4 i5 i6 i7 i8 i30 i43 i45 i46 i47 i48 i49 i50 i51 i58 i59 i65 i68 i69 i72 i78 i80 i81 i82 i87 i92 i96 i100 i103 i104))] H := hP
  have hD : va_D A [(a, .inr (11, OX z i1 i2 i3 i4 i5 i6 i7 i8 i30 i43 i45 i46 i47 i48 i49 i50 i51 i58 i59 i65 i68 i69 i72 i78 i80 i81 i82 i87 i92 i96 i100 i103 i104))] := hD
  have hl : lv_has ls 2 [(0, .ref a), (1, .int p1)] := hl
  refine lv_iload_n hx hb dX11_isMark_0 rfl (lv_at hl 1 rfl) ?_
  refine lv_bipush (v := 20) hx hb dX11_isMark_1 (by decide) ?_
  refine lv_icmp_lt (tgt := 16) hx hb dX11_isMark_3 (by decide) (fun c27500006 => ?_) (fun c27500006 => ?_)
  · skip
    have kc27500006 : p1.toInt < 20 := lt_ti rfl (by decide) c27500006
    have rg27500007 := i32_rng p1
    refine lv_iconst (v := 0) hx hb dX11_isMark_16 (by decide) ?_
    have hl27500008 : (0 : Int32).toInt = 0 := by decide
    exact r_zret () C0 hr (by decide +kernel) hlocks hS (Nat.le_refl _) (Nat.le_refl _) dX11_isMark_17 ⟨(Or.inr (Or.inl (by omega))), ⟨by decide, by decide⟩⟩ (hP.sub (ws' := [(a, .inr (11, OX z i1 i2 i3 i4 i5 i6 i7 i8 i30 i43 i45 i46 i47 i48 i49 i50 i51 i58 i59 i65 i68 i69 i72 i78 i80 i81 i82 i87 i92 i96 i100 i103 i104))]) [0] rfl) (hD.sub (ws' := [(a, .inr (11, OX z i1 i2 i3 i4 i5 i6 i7 i8 i30 i43 i45 i46 i47 i48 i49 i50 i51 i58 i59 i65 i68 i69 i72 i78 i80 i81 i82 i87 i92 i96 i100 i103 i104))]) [0] (by decide +kernel) rfl)
  · skip
    have kc27500006 : 20 ≤ p1.toInt := nlt_ti rfl (by decide) c27500006
    refine lv_iload_n hx hb dX11_isMark_6 rfl (lv_at hl 1 rfl) ?_
    refine lv_bipush (v := 24) hx hb dX11_isMark_7 (by decide) ?_
    refine lv_icmp_gt (tgt := 16) hx hb dX11_isMark_9 (by decide) (fun c27500009 => ?_) (fun c27500009 => ?_)
    · skip
      have kc27500009 : 24 < p1.toInt := lt_ti (by decide) rfl c27500009
      have rg27500010 := i32_rng p1
      refine lv_iconst (v := 0) hx hb dX11_isMark_16 (by decide) ?_
      have hl27500011 : (0 : Int32).toInt = 0 := by decide
      exact r_zret () C0 hr (by decide +kernel) hlocks hS (Nat.le_refl _) (Nat.le_refl _) dX11_isMark_17 ⟨(Or.inr (Or.inr (by omega))), ⟨by decide, by decide⟩⟩ (hP.sub (ws' := [(a, .inr (11, OX z i1 i2 i3 i4 i5 i6 i7 i8 i30 i43 i45 i46 i47 i48 i49 i50 i51 i58 i59 i65 i68 i69 i72 i78 i80 i81 i82 i87 i92 i96 i100 i103 i104))]) [0] rfl) (hD.sub (ws' := [(a, .inr (11, OX z i1 i2 i3 i4 i5 i6 i7 i8 i30 i43 i45 i46 i47 i48 i49 i50 i51 i58 i59 i65 i68 i69 i72 i78 i80 i81 i82 i87 i92 i96 i100 i103 i104))]) [0] (by decide +kernel) rfl)
    · skip
      have kc27500009 : p1.toInt ≤ 24 := nlt_ti (by decide) rfl c27500009
      refine lv_iconst (v := 1) hx hb dX11_isMark_12 (by decide) ?_
      refine lv_goto (tgt := 17) hx hb dX11_isMark_13 (by decide) ?_
      have hl27500012 : (1 : Int32).toInt = 1 := by decide
      exact r_zret () C0 hr (by decide +kernel) hlocks hS (Nat.le_refl _) (Nat.le_refl _) dX11_isMark_17 ⟨(Or.inl (by omega)), ⟨by decide, by decide⟩⟩ (hP.sub (ws' := [(a, .inr (11, OX z i1 i2 i3 i4 i5 i6 i7 i8 i30 i43 i45 i46 i47 i48 i49 i50 i51 i58 i59 i65 i68 i69 i72 i78 i80 i81 i82 i87 i92 i96 i100 i103 i104))]) [0] rfl) (hD.sub (ws' := [(a, .inr (11, OX z i1 i2 i3 i4 i5 i6 i7 i8 i30 i43 i45 i46 i47 i48 i49 i50 i51 i58 i59 i65 i68 i69 i72 i78 i80 i81 i82 i87 i92 i96 i100 i103 i104))]) [0] (by decide +kernel) rfl)
set_option maxHeartbeats 4000000 in
set_option maxRecDepth 100000 in
theorem h_X11_mark_27600040 (l : Launch) (D : va_G) (T : Nat → ClassId) (sq sv sz : Nat) (a : Nat) (z : Nat → Nat) (i1 i2 i3 i4 i5 i6 i7 i8 i30 i43 i45 i46 i47 i48 i49 i50 i51 i58 i59 i65 i68 i69 i72 i78 i80 i81 i82 i87 i92 i96 i100 i103 i104 : Int32) (g44 : Nat → Int32) (hi45 : 0 ≤ i45.toInt ∧ i45.toInt ≤ 800) (hi48 : 0 ≤ i48.toInt ∧ i48.toInt ≤ 800) : Met l yX11_mark (.code yX11_mark cX11_mark 2 (some .int) :: TB) { frames := 1, cells := 0, slots := 0, locals := 21 } (PC2 D T sq sv [.ref a] [(a, .inr (11, OX z i1 i2 i3 i4 i5 i6 i7 i8 i30 i43 i45 i46 i47 i48 i49 i50 i51 i58 i59 i65 i68 i69 i72 i78 i80 i81 i82 i87 i92 i96 i100 i103 i104)), ((z 44), .inl (T 0, 800, .inl g44))] sz) (Qi (S := Unit) (fun (r : Int32) (_ : Unit) => (MK i48.toInt i45.toInt g44 r.toInt)) (fun (_ : Unit) => [(a, .inr (11, OX z i1 i2 i3 i4 i5 i6 i7 i8 i30 i43 i45 i46 i47 i48 i49 i50 i51 i58 i59 i65 i68 i69 i72 i78 i80 i81 i82 i87 i92 i96 i100 i103 i104)), ((z 44), .inl (T 0, 800, .inl g44))]) D (va_A [(a, .inr (11, OX z i1 i2 i3 i4 i5 i6 i7 i8 i30 i43 i45 i46 i47 i48 i49 i50 i51 i58 i59 i65 i68 i69 i72 i78 i80 i81 i82 i87 i92 i96 i100 i103 i104)), ((z 44), .inl (T 0, 800, .inl g44))] sz)) 0 0 (va_A [(a, .inr (11, OX z i1 i2 i3 i4 i5 i6 i7 i8 i30 i43 i45 i46 i47 i48 i49 i50 i51 i58 i59 i65 i68 i69 i72 i78 i80 i81 i82 i87 i92 i96 i100 i103 i104)), ((z 44), .inl (T 0, 800, .inl g44))] sz) := by
  refine ct_begin2 (Qc := Qi (S := Unit) (fun (r : Int32) (_ : Unit) => (MK i48.toInt i45.toInt g44 r.toInt)) (fun (_ : Unit) => [(a, .inr (11, OX z i1 i2 i3 i4 i5 i6 i7 i8 i30 i43 i45 i46 i47 i48 i49 i50 i51 i58 i59 i65 i68 i69 i72 i78 i80 i81 i82 i87 i92 i96 i100 i103 i104)), ((z 44), .inl (T 0, 800, .inl g44))]) D) (by decide +kernel) (Nat.le_of_ble_eq_true rfl) ?_
  intro p e s m below meth c A ls C0 hr hlocks hnm hE hStr hA hP hD hl
  generalize ([.ref a] : List Value).toArray = args at C0 ⊢
  have hx := C0.1
  have hb := C0.2.1
  have hml := C0.2.2.1
  have hown := C0.2.2.2.1
  have hT := C0.2.2.2.2
  have hK := hE.1
  generalize hH : s.heap = H at hP ⊢
  have hS : va_S A s.heap H [] := by rw [← hH]; exact va_S.rf
  have hP : va_P D vwCl [(a, .inr (11, OX z i1 i2 i3 i4 i5 i6 i7 i8 i30 i43 i45 i46 i47 i48 i49 i50 i51 i58 i59 i65 i68 i69 i72 i78 i80 i81 i82 i87 i92 i96 i100 i103 i104)), ((z 44), .inl (T 0, 800, .inl g44))] H := hP
  have hD : va_D A [(a, .inr (11, OX z i1 i2 i3 i4 i5 i6 i7 i8 i30 i43 i45 i46 i47 i48 i49 i50 i51 i58 i59 i65 i68 i69 i72 i78 i80 i81 i82 i87 i92 i96 i100 i103 i104)), ((z 44), .inl (T 0, 800, .inl g44))] := hD
  have hl : lv_has ls 2 [(0, .ref a)] := hl
  refine lv_aload_n hx hb dX11_mark_0 rfl (lv_at hl 0 rfl) ?_
  refine r_get (v := .int i45) C0 hE ffX11_45 mw_835 hP 0 rfl ox_45 dX11_mark_1 ?_
  refine lv_iconst (v := 1) hx hb dX11_mark_4 (by decide) ?_
  refine lv_isub hx hb dX11_mark_5 ?_
  refine lv_topi (fun x27600041 ex27600041 => ?_)
  have hx27600041 : x27600041.toInt = i45.toInt - 1 := ti_sub ex27600041 rfl (by decide) (by omega) (by omega)
  refine lv_istore_n (lv' := [(1, .int x27600041), (0, .ref a)]) hx hb dX11_mark_6 rfl hl (by decide) rfl (fun ls hl => ?_)
  have L27600065 : ∀ (n : Nat) (x27600053 : Int32) (H : Heap) (locs : List Loc) (ls : Array Slot), (-1 ≤ x27600053.toInt ∧ x27600053.toInt ≤ 799) → (NM (x27600053.toInt + 1) i45.toInt g44) → (x27600053.toInt < i45.toInt) → (x27600053.toInt - (-2)).toNat < n → va_P D vwCl [(a, .inr (11, OX z i1 i2 i3 i4 i5 i6 i7 i8 i30 i43 i45 i46 i47 i48 i49 i50 i51 i58 i59 i65 i68 i69 i72 i78 i80 i81 i82 i87 i92 i96 i100 i103 i104)), ((z 44), .inl (T 0, 800, .inl g44))] H → va_D A [(a, .inr (11, OX z i1 i2 i3 i4 i5 i6 i7 i8 i30 i43 i45 i46 i47 i48 i49 i50 i51 i58 i59 i65 i68 i69 i72 i78 i80 i81 i82 i87 i92 i96 i100 i103 i104)), ((z 44), .inl (T 0, 800, .inl g44))] → va_S A s.heap H locs → lv_has ls 2 [(1, .int x27600053), (0, .ref a)] → W p l e { frames := 1, cells := 0, slots := 0, locals := 21 } s m args below meth c H locs 0 0 (MQ below ((Qi (S := Unit) (fun (r : Int32) (_ : Unit) => (MK i48.toInt i45.toInt g44 r.toInt)) (fun (_ : Unit) => [(a, .inr (11, OX z i1 i2 i3 i4 i5 i6 i7 i8 i30 i43 i45 i46 i47 i48 i49 i50 i51 i58 i59 i65 i68 i69 i72 i78 i80 i81 i82 i87 i92 i96 i100 i103 i104)), ((z 44), .inl (T 0, 800, .inl g44))]) D) A) args s 0 0 A) (F0 m 7 ls []) := by
    intro n
    induction n with
    | zero =>
      intro x27600053 H locs ls hx27600053 hNMr hr27600066 hms hP hD hS hl
      exact absurd hms (Nat.not_lt_zero _)
    | succ n ih27600067 =>
      intro x27600053 H locs ls hx27600053 hNMr hr27600066 hms hP hD hS hl
      refine lv_iload_n hx hb dX11_mark_7 rfl (lv_at hl 0 rfl) ?_
      refine lv_aload_n hx hb dX11_mark_8 rfl (lv_at hl 1 rfl) ?_
      refine r_get (v := .int i48) C0 hE ffX11_48 mw_838 hP 0 rfl ox_48 dX11_mark_9 ?_
      refine lv_icmp_lt (tgt := 34) hx hb dX11_mark_12 (by decide) (fun c27600068 => ?_) (fun c27600068 => ?_)
      · skip
        have kc27600068 : x27600053.toInt < i48.toInt := lt_ti rfl rfl c27600068
        refine lv_iload_n hx hb dX11_mark_34 rfl (lv_at hl 0 rfl) ?_
        refine lv_aload_n hx hb dX11_mark_35 rfl (lv_at hl 1 rfl) ?_
        refine r_get (v := .int i48) C0 hE ffX11_48 mw_838 hP 0 rfl ox_48 dX11_mark_36 ?_
        refine lv_icmp_lt (tgt := 51) hx hb dX11_mark_39 (by decide) (fun c27600069 => ?_) (fun c27600069 => ?_)
        · skip
          have kc27600069 : x27600053.toInt < i48.toInt := lt_ti rfl rfl c27600069
          refine lv_iconst (v := (-1)) hx hb dX11_mark_51 (by decide) ?_
          exact r_iret () C0 hr hlocks hS (Nat.le_refl _) (Nat.le_refl _) dX11_mark_52 (Or.inl ⟨by decide, NM.mono hNMr (by omega) (by omega)⟩) (hP.sub (ws' := [(a, .inr (11, OX z i1 i2 i3 i4 i5 i6 i7 i8 i30 i43 i45 i46 i47 i48 i49 i50 i51 i58 i59 i65 i68 i69 i72 i78 i80 i81 i82 i87 i92 i96 i100 i103 i104)), ((z 44), .inl (T 0, 800, .inl g44))]) [0, 1] rfl) (hD.sub (ws' := [(a, .inr (11, OX z i1 i2 i3 i4 i5 i6 i7 i8 i30 i43 i45 i46 i47 i48 i49 i50 i51 i58 i59 i65 i68 i69 i72 i78 i80 i81 i82 i87 i92 i96 i100 i103 i104)), ((z 44), .inl (T 0, 800, .inl g44))]) [0, 1] (by decide +kernel) rfl)
        · skip
          have kc27600069 : i48.toInt ≤ x27600053.toInt := nlt_ti rfl rfl c27600069
          refine lv_aload_n hx hb dX11_mark_42 rfl (lv_at hl 1 rfl) ?_
          refine r_get (v := .ref (z 44)) C0 hE ffX11_44 mw_834 hP 0 rfl ox_44 dX11_mark_43 ?_
          refine lv_iload_n hx hb dX11_mark_46 rfl (lv_at hl 0 rfl) ?_
          refine va_iald hx hb hK hP 1 0 rfl rfl (in_ti rfl (by omega) (by omega)) dX11_mark_47 ?_
          refine lv_topi (fun x27600070 ex27600070 => ?_)
          have tx27600070 : x27600070.toInt = (g44 (Int32.toNatClampNeg x27600053)).toInt := by rw [ex27600070]
          refine lv_goto (tgt := 52) hx hb dX11_mark_48 (by decide) ?_
          exact r_iret () C0 hr hlocks hS (Nat.le_refl _) (Nat.le_refl _) dX11_mark_52 (MK.some ex27600070 (by omega) (by omega) (by omega) ⟨by omega, by omega⟩ hNMr) (hP.sub (ws' := [(a, .inr (11, OX z i1 i2 i3 i4 i5 i6 i7 i8 i30 i43 i45 i46 i47 i48 i49 i50 i51 i58 i59 i65 i68 i69 i72 i78 i80 i81 i82 i87 i92 i96 i100 i103 i104)), ((z 44), .inl (T 0, 800, .inl g44))]) [0, 1] rfl) (hD.sub (ws' := [(a, .inr (11, OX z i1 i2 i3 i4 i5 i6 i7 i8 i30 i43 i45 i46 i47 i48 i49 i50 i51 i58 i59 i65 i68 i69 i72 i78 i80 i81 i82 i87 i92 i96 i100 i103 i104)), ((z 44), .inl (T 0, 800, .inl g44))]) [0, 1] (by decide +kernel) rfl)
      · skip
        have kc27600068 : i48.toInt ≤ x27600053.toInt := nlt_ti rfl rfl c27600068
        refine lv_aload_n hx hb dX11_mark_15 rfl (lv_at hl 1 rfl) ?_
        refine lv_aload_n hx hb dX11_mark_16 rfl (lv_at hl 1 rfl) ?_
        refine r_get (v := .ref (z 44)) C0 hE ffX11_44 mw_834 hP 0 rfl ox_44 dX11_mark_17 ?_
        refine lv_iload_n hx hb dX11_mark_20 rfl (lv_at hl 0 rfl) ?_
        refine va_iald hx hb hK hP 1 0 rfl rfl (in_ti rfl (by omega) (by omega)) dX11_mark_21 ?_
        refine lv_topi (fun x27600071 ex27600071 => ?_)
        have tx27600071 : x27600071.toInt = (g44 (Int32.toNatClampNeg x27600053)).toInt := by rw [ex27600071]
        refine r_calli (wr := [((z 44), .inl (T 0, 800, .inl g44))]) (r_runV2 (As := [.int x27600071]) (rest := []) (wc := [(a, .inr (11, OX z i1 i2 i3 i4 i5 i6 i7 i8 i30 i43 i45 i46 i47 i48 i49 i50 i51 i58 i59 i65 i68 i69 i72 i78 i80 i81 i82 i87 i92 i96 i100 i103 i104))]) (ci := 11) C0 hE hStr hS (va_free (wc := [(a, .inr (11, OX z i1 i2 i3 i4 i5 i6 i7 i8 i30 i43 i45 i46 i47 i48 i49 i50 i51 i58 i59 i65 i68 i69 i72 i78 i80 i81 i82 i87 i92 i96 i100 i103 i104))]) hD hS hA [0] rfl) (h_X11_isMark_27500005 l D T sq sv H.size a z i1 i2 i3 i4 i5 i6 i7 i8 i30 i43 i45 i46 i47 i48 i49 i50 i51 i58 i59 i65 i68 i69 i72 i78 i80 i81 i82 i87 i92 i96 i100 i103 i104 x27600071) mw_978 mw_979 mw_1316 mw_14 mw_980 dn_1725 rfl rfl ⟨Nat.le_of_ble_eq_true rfl, Nat.le_of_ble_eq_true rfl⟩ (hP.sub (ws' := [(a, .inr (11, OX z i1 i2 i3 i4 i5 i6 i7 i8 i30 i43 i45 i46 i47 i48 i49 i50 i51 i58 i59 i65 i68 i69 i72 i78 i80 i81 i82 i87 i92 i96 i100 i103 i104))]) [0] rfl) (hD.sub (ws' := [(a, .inr (11, OX z i1 i2 i3 i4 i5 i6 i7 i8 i30 i43 i45 i46 i47 i48 i49 i50 i51 i58 i59 i65 i68 i69 i72 i78 i80 i81 i82 i87 i92 i96 i100 i103 i104))]) [0] (by decide +kernel) rfl) rfl rfl rfl hl.1 rfl (Nat.le_of_ble_eq_true rfl) dX11_mark_22 ⟨Nat.le_of_ble_eq_true rfl, Nat.le_of_ble_eq_true rfl⟩) hP hD hS hA [0] [1] rfl rfl (by decide +kernel) (by decide +kernel) (fun x27600072 u H locs hq hP hD hS => ?_)
        obtain ⟨hAlt, hx27600072⟩ := hq
        have hx27600072 : 0 ≤ x27600072.toInt ∧ x27600072.toInt ≤ 1 := hx27600072
        have hP : va_P D vwCl [((z 44), .inl (T 0, 800, .inl g44)), (a, .inr (11, OX z i1 i2 i3 i4 i5 i6 i7 i8 i30 i43 i45 i46 i47 i48 i49 i50 i51 i58 i59 i65 i68 i69 i72 i78 i80 i81 i82 i87 i92 i96 i100 i103 i104))] H := hP
        have hD : va_D A [((z 44), .inl (T 0, 800, .inl g44)), (a, .inr (11, OX z i1 i2 i3 i4 i5 i6 i7 i8 i30 i43 i45 i46 i47 i48 i49 i50 i51 i58 i59 i65 i68 i69 i72 i78 i80 i81 i82 i87 i92 i96 i100 i103 i104))] := hD
        rcases hAlt with hAlt | hAlt | hAlt
        · skip
          have hp27600073 := hAlt
          have hp27600073 : x27600072.toInt = 1 ∧ 20 ≤ x27600071.toInt ∧ x27600071.toInt ≤ 24 := hp27600073
          clear hAlt
          refine W.widen (k := 0) (n := 0) (Nat.le_refl _) (Nat.le_refl _) ?_
          refine lv_if_ne (tgt := 34) hx hb dX11_mark_25 (by decide) (fun c27600074 => ?_) (fun hc => by have hf : x27600072.toInt = 0 := eq_ti rfl (by decide) hc; omega)
          have kc27600074 : x27600072.toInt ≠ 0 := ne_ti rfl (by decide) c27600074
          refine lv_iload_n hx hb dX11_mark_34 rfl (lv_at hl 0 rfl) ?_
          refine lv_aload_n hx hb dX11_mark_35 rfl (lv_at hl 1 rfl) ?_
          refine r_get (v := .int i48) C0 hE ffX11_48 mw_838 hP 1 rfl ox_48 dX11_mark_36 ?_
          refine lv_icmp_lt (tgt := 51) hx hb dX11_mark_39 (by decide) (fun c27600075 => ?_) (fun c27600075 => ?_)
          · skip
            have kc27600075 : x27600053.toInt < i48.toInt := lt_ti rfl rfl c27600075
            refine lv_iconst (v := (-1)) hx hb dX11_mark_51 (by decide) ?_
            exact r_iret () C0 hr hlocks hS (Nat.le_refl _) (Nat.le_refl _) dX11_mark_52 (Or.inl ⟨by decide, NM.mono hNMr (by omega) (by omega)⟩) (hP.sub (ws' := [(a, .inr (11, OX z i1 i2 i3 i4 i5 i6 i7 i8 i30 i43 i45 i46 i47 i48 i49 i50 i51 i58 i59 i65 i68 i69 i72 i78 i80 i81 i82 i87 i92 i96 i100 i103 i104)), ((z 44), .inl (T 0, 800, .inl g44))]) [1, 0] rfl) (hD.sub (ws' := [(a, .inr (11, OX z i1 i2 i3 i4 i5 i6 i7 i8 i30 i43 i45 i46 i47 i48 i49 i50 i51 i58 i59 i65 i68 i69 i72 i78 i80 i81 i82 i87 i92 i96 i100 i103 i104)), ((z 44), .inl (T 0, 800, .inl g44))]) [1, 0] (by decide +kernel) rfl)
          · skip
            have kc27600075 : i48.toInt ≤ x27600053.toInt := nlt_ti rfl rfl c27600075
            refine lv_aload_n hx hb dX11_mark_42 rfl (lv_at hl 1 rfl) ?_
            refine r_get (v := .ref (z 44)) C0 hE ffX11_44 mw_834 hP 1 rfl ox_44 dX11_mark_43 ?_
            refine lv_iload_n hx hb dX11_mark_46 rfl (lv_at hl 0 rfl) ?_
            refine va_iald hx hb hK hP 0 0 rfl rfl (in_ti rfl (by omega) (by omega)) dX11_mark_47 ?_
            refine lv_topi (fun x27600076 ex27600076 => ?_)
            have tx27600076 : x27600076.toInt = (g44 (Int32.toNatClampNeg x27600053)).toInt := by rw [ex27600076]
            refine lv_goto (tgt := 52) hx hb dX11_mark_48 (by decide) ?_
            exact r_iret () C0 hr hlocks hS (Nat.le_refl _) (Nat.le_refl _) dX11_mark_52 (MK.some ex27600076 (by omega) (by omega) (by omega) ⟨by omega, by omega⟩ hNMr) (hP.sub (ws' := [(a, .inr (11, OX z i1 i2 i3 i4 i5 i6 i7 i8 i30 i43 i45 i46 i47 i48 i49 i50 i51 i58 i59 i65 i68 i69 i72 i78 i80 i81 i82 i87 i92 i96 i100 i103 i104)), ((z 44), .inl (T 0, 800, .inl g44))]) [1, 0] rfl) (hD.sub (ws' := [(a, .inr (11, OX z i1 i2 i3 i4 i5 i6 i7 i8 i30 i43 i45 i46 i47 i48 i49 i50 i51 i58 i59 i65 i68 i69 i72 i78 i80 i81 i82 i87 i92 i96 i100 i103 i104)), ((z 44), .inl (T 0, 800, .inl g44))]) [1, 0] (by decide +kernel) rfl)
        · skip
          have hp27600077 := hAlt
          have hp27600077 : x27600072.toInt = 0 ∧ x27600071.toInt < 20 := hp27600077
          clear hAlt
          refine W.widen (k := 0) (n := 0) (Nat.le_refl _) (Nat.le_refl _) ?_
          refine lv_if_ne (tgt := 34) hx hb dX11_mark_25 (by decide) (fun hc => by have hf : x27600072.toInt ≠ 0 := ne_ti rfl (by decide) hc; omega) (fun c27600078 => ?_)
          have kc27600078 : x27600072.toInt = 0 := eq_ti rfl (by decide) c27600078
          obtain ⟨x27600079, ex27600079⟩ : ∃ y : Int32, y = x27600053 + (-1) := ⟨_, rfl⟩
          have hx27600079 : x27600079.toInt = x27600053.toInt + (-1) := ti_add ex27600079 rfl (by decide) (by omega) (by omega)
          refine lv_iinc (v := x27600079) (lv' := [(1, .int x27600079), (0, .ref a)]) hx hb dX11_mark_28 hl (k := 0) rfl (by rw [ex27600079]; rfl) (by decide) rfl (fun ls hl => ?_)
          refine lv_goto (tgt := 7) hx hb dX11_mark_31 (by decide) ?_
          exact ih27600067 x27600079 _ _ ls ⟨by omega, by omega⟩ (NM.more hNMr (by omega) (by omega) (by omega) ex27600071 (by omega)) (by omega) (by omega) (hP.sub (ws' := [(a, .inr (11, OX z i1 i2 i3 i4 i5 i6 i7 i8 i30 i43 i45 i46 i47 i48 i49 i50 i51 i58 i59 i65 i68 i69 i72 i78 i80 i81 i82 i87 i92 i96 i100 i103 i104)), ((z 44), .inl (T 0, 800, .inl g44))]) [1, 0] rfl) (hD.sub (ws' := [(a, .inr (11, OX z i1 i2 i3 i4 i5 i6 i7 i8 i30 i43 i45 i46 i47 i48 i49 i50 i51 i58 i59 i65 i68 i69 i72 i78 i80 i81 i82 i87 i92 i96 i100 i103 i104)), ((z 44), .inl (T 0, 800, .inl g44))]) [1, 0] (by decide +kernel) rfl) hS (lv_sub hl [0, 1] rfl)
        · skip
          have hp27600080 := hAlt
          have hp27600080 : x27600072.toInt = 0 ∧ 24 < x27600071.toInt := hp27600080
          clear hAlt
          refine W.widen (k := 0) (n := 0) (Nat.le_refl _) (Nat.le_refl _) ?_
          refine lv_if_ne (tgt := 34) hx hb dX11_mark_25 (by decide) (fun hc => by have hf : x27600072.toInt ≠ 0 := ne_ti rfl (by decide) hc; omega) (fun c27600081 => ?_)
          have kc27600081 : x27600072.toInt = 0 := eq_ti rfl (by decide) c27600081
          obtain ⟨x27600082, ex27600082⟩ : ∃ y : Int32, y = x27600053 + (-1) := ⟨_, rfl⟩
          have hx27600082 : x27600082.toInt = x27600053.toInt + (-1) := ti_add ex27600082 rfl (by decide) (by omega) (by omega)
          refine lv_iinc (v := x27600082) (lv' := [(1, .int x27600082), (0, .ref a)]) hx hb dX11_mark_28 hl (k := 0) rfl (by rw [ex27600082]; rfl) (by decide) rfl (fun ls hl => ?_)
          refine lv_goto (tgt := 7) hx hb dX11_mark_31 (by decide) ?_
          exact ih27600067 x27600082 _ _ ls ⟨by omega, by omega⟩ (NM.more hNMr (by omega) (by omega) (by omega) ex27600071 (by omega)) (by omega) (by omega) (hP.sub (ws' := [(a, .inr (11, OX z i1 i2 i3 i4 i5 i6 i7 i8 i30 i43 i45 i46 i47 i48 i49 i50 i51 i58 i59 i65 i68 i69 i72 i78 i80 i81 i82 i87 i92 i96 i100 i103 i104)), ((z 44), .inl (T 0, 800, .inl g44))]) [1, 0] rfl) (hD.sub (ws' := [(a, .inr (11, OX z i1 i2 i3 i4 i5 i6 i7 i8 i30 i43 i45 i46 i47 i48 i49 i50 i51 i58 i59 i65 i68 i69 i72 i78 i80 i81 i82 i87 i92 i96 i100 i103 i104)), ((z 44), .inl (T 0, 800, .inl g44))]) [1, 0] (by decide +kernel) rfl) hS (lv_sub hl [0, 1] rfl)
  exact L27600065 _ x27600041 _ _ ls ⟨by omega, by omega⟩ (NM.none (by omega)) (by omega) (Nat.lt_succ_self _) (hP.sub (ws' := [(a, .inr (11, OX z i1 i2 i3 i4 i5 i6 i7 i8 i30 i43 i45 i46 i47 i48 i49 i50 i51 i58 i59 i65 i68 i69 i72 i78 i80 i81 i82 i87 i92 i96 i100 i103 i104)), ((z 44), .inl (T 0, 800, .inl g44))]) [0, 1] rfl) (hD.sub (ws' := [(a, .inr (11, OX z i1 i2 i3 i4 i5 i6 i7 i8 i30 i43 i45 i46 i47 i48 i49 i50 i51 i58 i59 i65 i68 i69 i72 i78 i80 i81 i82 i87 i92 i96 i100 i103 i104)), ((z 44), .inl (T 0, 800, .inl g44))]) [0, 1] (by decide +kernel) rfl) hS (lv_sub hl [0, 1] rfl)
set_option maxHeartbeats 4000000 in
set_option maxRecDepth 100000 in
theorem h_X11_hasSquare_27700198 (l : Launch) (D : va_G) (T : Nat → ClassId) (sq sv sz : Nat) (a : Nat) (z : Nat → Nat) (i1 i2 i3 i4 i5 i6 i7 i8 i30 i43 i45 i46 i47 i48 i49 i50 i51 i58 i59 i65 i68 i69 i72 i78 i80 i81 i82 i87 i92 i96 i100 i103 i104 : Int32) (g44 : Nat → Int32) (hi45 : 0 ≤ i45.toInt ∧ i45.toInt ≤ 800) : Met l yX11_hasSquare (.code yX11_hasSquare cX11_hasSquare 2 (some .boolean) :: TB) { frames := 0, cells := 0, slots := 0, locals := 0 } (PC2 D T sq sv [.ref a] [(a, .inr (11, OX z i1 i2 i3 i4 i5 i6 i7 i8 i30 i43 i45 i46 i47 i48 i49 i50 i51 i58 i59 i65 i68 i69 i72 i78 i80 i81 i82 i87 i92 i96 i100 i103 i104)), ((z 44), .inl (T 0, 800, .inl g44))] sz) (Qi (S := Unit) (fun (r : Int32) (_ : Unit) => (((r.toInt = 1) ∧ (HS i45.toInt g44)) ∨ ((r.toInt = 0) ∧ (NQ i45.toInt g44))) ∧ (0 ≤ r.toInt ∧ r.toInt ≤ 1)) (fun (_ : Unit) => [(a, .inr (11, OX z i1 i2 i3 i4 i5 i6 i7 i8 i30 i43 i45 i46 i47 i48 i49 i50 i51 i58 i59 i65 i68 i69 i72 i78 i80 i81 i82 i87 i92 i96 i100 i103 i104)), ((z 44), .inl (T 0, 800, .inl g44))]) D (va_A [(a, .inr (11, OX z i1 i2 i3 i4 i5 i6 i7 i8 i30 i43 i45 i46 i47 i48 i49 i50 i51 i58 i59 i65 i68 i69 i72 i78 i80 i81 i82 i87 i92 i96 i100 i103 i104)), ((z 44), .inl (T 0, 800, .inl g44))] sz)) 0 0 (va_A [(a, .inr (11, OX z i1 i2 i3 i4 i5 i6 i7 i8 i30 i43 i45 i46 i47 i48 i49 i50 i51 i58 i59 i65 i68 i69 i72 i78 i80 i81 i82 i87 i92 i96 i100 i103 i104)), ((z 44), .inl (T 0, 800, .inl g44))] sz) := by
  refine ct_begin2 (Qc := Qi (S := Unit) (fun (r : Int32) (_ : Unit) => (((r.toInt = 1) ∧ (HS i45.toInt g44)) ∨ ((r.toInt = 0) ∧ (NQ i45.toInt g44))) ∧ (0 ≤ r.toInt ∧ r.toInt ≤ 1)) (fun (_ : Unit) => [(a, .inr (11, OX z i1 i2 i3 i4 i5 i6 i7 i8 i30 i43 i45 i46 i47 i48 i49 i50 i51 i58 i59 i65 i68 i69 i72 i78 i80 i81 i82 i87 i92 i96 i100 i103 i104)), ((z 44), .inl (T 0, 800, .inl g44))]) D) (by decide +kernel) (Nat.le_of_ble_eq_true rfl) ?_
  intro p e s m below meth c A ls C0 hr hlocks hnm hE hStr hA hP hD hl
  generalize ([.ref a] : List Value).toArray = args at C0 ⊢
  have hx := C0.1
  have hb := C0.2.1
  have hml := C0.2.2.1
  have hown := C0.2.2.2.1
  have hT := C0.2.2.2.2
  have hK := hE.1
  generalize hH : s.heap = H at hP ⊢
  have hS : va_S A s.heap H [] := by rw [← hH]; exact va_S.rf
  have hP : va_P D vwCl [(a, .inr (11, OX z i1 i2 i3 i4 i5 i6 i7 i8 i30 i43 i45 i46 i47 i48 i49 i50 i51 i58 i59 i65 i68 i69 i72 i78 i80 i81 i82 i87 i92 i96 i100 i103 i104)), ((z 44), .inl (T 0, 800, .inl g44))] H := hP
  have hD : va_D A [(a, .inr (11, OX z i1 i2 i3 i4 i5 i6 i7 i8 i30 i43 i45 i46 i47 i48 i49 i50 i51 i58 i59 i65 i68 i69 i72 i78 i80 i81 i82 i87 i92 i96 i100 i103 i104)), ((z 44), .inl (T 0, 800, .inl g44))] := hD
  have hl : lv_has ls 2 [(0, .ref a)] := hl
  refine lv_iconst (v := 0) hx hb dX11_hasSquare_0 (by decide) ?_
  refine lv_istore_n (lv' := [(1, .int 0), (0, .ref a)]) hx hb dX11_hasSquare_1 rfl hl (by decide) rfl (fun ls hl => ?_)
  have L27700392 : ∀ (n : Nat) (x27700387 : Int32) (H : Heap) (locs : List Loc) (ls : Array Slot), (0 ≤ x27700387.toInt ∧ x27700387.toInt ≤ 800) → (NQ x27700387.toInt g44) → (801 - x27700387.toInt).toNat < n → va_P D vwCl [(a, .inr (11, OX z i1 i2 i3 i4 i5 i6 i7 i8 i30 i43 i45 i46 i47 i48 i49 i50 i51 i58 i59 i65 i68 i69 i72 i78 i80 i81 i82 i87 i92 i96 i100 i103 i104)), ((z 44), .inl (T 0, 800, .inl g44))] H → va_D A [(a, .inr (11, OX z i1 i2 i3 i4 i5 i6 i7 i8 i30 i43 i45 i46 i47 i48 i49 i50 i51 i58 i59 i65 i68 i69 i72 i78 i80 i81 i82 i87 i92 i96 i100 i103 i104)), ((z 44), .inl (T 0, 800, .inl g44))] → va_S A s.heap H locs → lv_has ls 2 [(1, .int x27700387), (0, .ref a)] → W p l e { frames := 0, cells := 0, slots := 0, locals := 0 } s m args below meth c H locs 0 0 (MQ below ((Qi (S := Unit) (fun (r : Int32) (_ : Unit) => (((r.toInt = 1) ∧ (HS i45.toInt g44)) ∨ ((r.toInt = 0) ∧ (NQ i45.toInt g44))) ∧ (0 ≤ r.toInt ∧ r.toInt ≤ 1)) (fun (_ : Unit) => [(a, .inr (11, OX z i1 i2 i3 i4 i5 i6 i7 i8 i30 i43 i45 i46 i47 i48 i49 i50 i51 i58 i59 i65 i68 i69 i72 i78 i80 i81 i82 i87 i92 i96 i100 i103 i104)), ((z 44), .inl (T 0, 800, .inl g44))]) D) A) args s 0 0 A) (F0 m 2 ls []) := by
    intro n
    induction n with
    | zero =>
      intro x27700387 H locs ls hx27700387 hNQr hms hP hD hS hl
      exact absurd hms (Nat.not_lt_zero _)
    | succ n ih27700393 =>
      intro x27700387 H locs ls hx27700387 hNQr hms hP hD hS hl
      refine lv_iload_n hx hb dX11_hasSquare_2 rfl (lv_at hl 0 rfl) ?_
      refine lv_aload_n hx hb dX11_hasSquare_3 rfl (lv_at hl 1 rfl) ?_
      refine r_get (v := .int i45) C0 hE ffX11_45 mw_835 hP 0 rfl ox_45 dX11_hasSquare_4 ?_
      refine lv_icmp_ge (tgt := 29) hx hb dX11_hasSquare_7 (by decide) (fun c27700394 => ?_) (fun c27700394 => ?_)
      · skip
        have kc27700394 : i45.toInt ≤ x27700387.toInt := le_ti rfl rfl c27700394
        refine lv_iconst (v := 0) hx hb dX11_hasSquare_29 (by decide) ?_
        have hl27700395 : (0 : Int32).toInt = 0 := by decide
        exact r_zret () C0 hr (by decide +kernel) hlocks hS (Nat.le_refl _) (Nat.le_refl _) dX11_hasSquare_30 ⟨(Or.inr ⟨(by omega), (NQ.mono hNQr (by omega))⟩), ⟨by decide, by decide⟩⟩ (hP.sub (ws' := [(a, .inr (11, OX z i1 i2 i3 i4 i5 i6 i7 i8 i30 i43 i45 i46 i47 i48 i49 i50 i51 i58 i59 i65 i68 i69 i72 i78 i80 i81 i82 i87 i92 i96 i100 i103 i104)), ((z 44), .inl (T 0, 800, .inl g44))]) [0, 1] rfl) (hD.sub (ws' := [(a, .inr (11, OX z i1 i2 i3 i4 i5 i6 i7 i8 i30 i43 i45 i46 i47 i48 i49 i50 i51 i58 i59 i65 i68 i69 i72 i78 i80 i81 i82 i87 i92 i96 i100 i103 i104)), ((z 44), .inl (T 0, 800, .inl g44))]) [0, 1] (by decide +kernel) rfl)
      · skip
        have kc27700394 : x27700387.toInt < i45.toInt := nle_ti rfl rfl c27700394
        refine lv_aload_n hx hb dX11_hasSquare_10 rfl (lv_at hl 1 rfl) ?_
        refine r_get (v := .ref (z 44)) C0 hE ffX11_44 mw_834 hP 0 rfl ox_44 dX11_hasSquare_11 ?_
        refine lv_iload_n hx hb dX11_hasSquare_14 rfl (lv_at hl 0 rfl) ?_
        refine va_iald hx hb hK hP 1 0 rfl rfl (in_ti rfl (by omega) (by omega)) dX11_hasSquare_15 ?_
        refine lv_topi (fun x27700396 ex27700396 => ?_)
        refine lv_bipush (v := 25) hx hb dX11_hasSquare_16 (by decide) ?_
        refine lv_icmp_ne (tgt := 23) hx hb dX11_hasSquare_18 (by decide) (fun c27700397 => ?_) (fun c27700397 => ?_)
        · skip
          have kc27700397 : x27700396.toInt ≠ 25 := ne_ti rfl (by decide) c27700397
          obtain ⟨x27700398, ex27700398⟩ : ∃ y : Int32, y = x27700387 + 1 := ⟨_, rfl⟩
          have hx27700398 : x27700398.toInt = x27700387.toInt + 1 := ti_add ex27700398 rfl (by decide) (by omega) (by omega)
          refine lv_iinc (v := x27700398) (lv' := [(1, .int x27700398), (0, .ref a)]) hx hb dX11_hasSquare_23 hl (k := 0) rfl (by rw [ex27700398]; rfl) (by decide) rfl (fun ls hl => ?_)
          refine lv_goto (tgt := 2) hx hb dX11_hasSquare_26 (by decide) ?_
          exact ih27700393 x27700398 _ _ ls ⟨by omega, by omega⟩ (NQ.more hNQr (by omega) (by omega) (by omega) ex27700396 (by omega)) (by omega) (hP.sub (ws' := [(a, .inr (11, OX z i1 i2 i3 i4 i5 i6 i7 i8 i30 i43 i45 i46 i47 i48 i49 i50 i51 i58 i59 i65 i68 i69 i72 i78 i80 i81 i82 i87 i92 i96 i100 i103 i104)), ((z 44), .inl (T 0, 800, .inl g44))]) [0, 1] rfl) (hD.sub (ws' := [(a, .inr (11, OX z i1 i2 i3 i4 i5 i6 i7 i8 i30 i43 i45 i46 i47 i48 i49 i50 i51 i58 i59 i65 i68 i69 i72 i78 i80 i81 i82 i87 i92 i96 i100 i103 i104)), ((z 44), .inl (T 0, 800, .inl g44))]) [0, 1] (by decide +kernel) rfl) hS (lv_sub hl [0, 1] rfl)
        · skip
          have kc27700397 : x27700396.toInt = 25 := eq_ti rfl (by decide) c27700397
          refine lv_iconst (v := 1) hx hb dX11_hasSquare_21 (by decide) ?_
          have hl27700399 : (1 : Int32).toInt = 1 := by decide
          exact r_zret () C0 hr (by decide +kernel) hlocks hS (Nat.le_refl _) (Nat.le_refl _) dX11_hasSquare_22 ⟨(Or.inl ⟨(by omega), (HS.mk ex27700396 (by omega) (by omega) (by omega))⟩), ⟨by decide, by decide⟩⟩ (hP.sub (ws' := [(a, .inr (11, OX z i1 i2 i3 i4 i5 i6 i7 i8 i30 i43 i45 i46 i47 i48 i49 i50 i51 i58 i59 i65 i68 i69 i72 i78 i80 i81 i82 i87 i92 i96 i100 i103 i104)), ((z 44), .inl (T 0, 800, .inl g44))]) [0, 1] rfl) (hD.sub (ws' := [(a, .inr (11, OX z i1 i2 i3 i4 i5 i6 i7 i8 i30 i43 i45 i46 i47 i48 i49 i50 i51 i58 i59 i65 i68 i69 i72 i78 i80 i81 i82 i87 i92 i96 i100 i103 i104)), ((z 44), .inl (T 0, 800, .inl g44))]) [0, 1] (by decide +kernel) rfl)
  have hl27700400 : (0 : Int32).toInt = 0 := by decide
  exact L27700392 _ 0 _ _ ls ⟨by decide, by decide⟩ (NQ.zero (by decide)) (Nat.lt_succ_self _) (hP.sub (ws' := [(a, .inr (11, OX z i1 i2 i3 i4 i5 i6 i7 i8 i30 i43 i45 i46 i47 i48 i49 i50 i51 i58 i59 i65 i68 i69 i72 i78 i80 i81 i82 i87 i92 i96 i100 i103 i104)), ((z 44), .inl (T 0, 800, .inl g44))]) [0, 1] rfl) (hD.sub (ws' := [(a, .inr (11, OX z i1 i2 i3 i4 i5 i6 i7 i8 i30 i43 i45 i46 i47 i48 i49 i50 i51 i58 i59 i65 i68 i69 i72 i78 i80 i81 i82 i87 i92 i96 i100 i103 i104)), ((z 44), .inl (T 0, 800, .inl g44))]) [0, 1] (by decide +kernel) rfl) hS (lv_sub hl [0, 1] rfl)
