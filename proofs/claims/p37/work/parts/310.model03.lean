set_option maxHeartbeats 4000000 in
set_option maxRecDepth 100000 in
theorem h_X11_as_21700006 (l : Launch) (D : va_G) (T : Nat → ClassId) (sq sv sz : Nat) (a : Nat) (z : Nat → Nat) (i1 i2 i3 i4 i5 i6 i7 i8 i30 i43 i45 i46 i47 i48 i49 i50 i51 i58 i59 i65 i68 i69 i72 i78 i80 i81 i82 i87 i92 i96 i100 i103 i104 : Int32) (p1 : Int32) (hi51 : 0 ≤ i51.toInt ∧ i51.toInt ≤ 120) (hi58 : -1 ≤ i58.toInt ∧ i58.toInt ≤ 120) : Met l yX11_as (.code yX11_as cX11_as 2 (some .boolean) :: TB) { frames := 1, cells := 0, slots := 0, locals := 25 } (PC2 D T sq sv [.ref a, .int p1] [(a, .inr (11, OX z i1 i2 i3 i4 i5 i6 i7 i8 i30 i43 i45 i46 i47 i48 i49 i50 i51 i58 i59 i65 i68 i69 i72 i78 i80 i81 i82 i87 i92 i96 i100 i103 i104))] sz) (Qi (S := Int32) (fun (r : Int32) (ui58 : Int32) => (-1 ≤ ui58.toInt ∧ ui58.toInt ≤ 120) ∧ (0 ≤ r.toInt ∧ r.toInt ≤ 1)) (fun (ui58 : Int32) => [(a, .inr (11, OX z i1 i2 i3 i4 i5 i6 i7 i8 i30 i43 i45 i46 i47 i48 i49 i50 i51 ui58 i59 i65 i68 i69 i72 i78 i80 i81 i82 i87 i92 i96 i100 i103 i104))]) D (va_A [(a, .inr (11, OX z i1 i2 i3 i4 i5 i6 i7 i8 i30 i43 i45 i46 i47 i48 i49 i50 i51 i58 i59 i65 i68 i69 i72 i78 i80 i81 i82 i87 i92 i96 i100 i103 i104))] sz)) 0 0 (va_A [(a, .inr (11, OX z i1 i2 i3 i4 i5 i6 i7 i8 i30 i43 i45 i46 i47 i48 i49 i50 i51 i58 i59 i65 i68 i69 i72 i78 i80 i81 i82 i87 i92 i96 i100 i103 i104))] sz) := by
  refine ct_begin2 (Qc := Qi (S := Int32) (fun (r : Int32) (ui58 : Int32) => (-1 ≤ ui58.toInt ∧ ui58.toInt ≤ 120) ∧ (0 ≤ r.toInt ∧ r.toInt ≤ 1)) (fun (ui58 : Int32) => [(a, .inr (11, OX z i1 i2 i3 i4 i5 i6 i7 i8 i30 i43 i45 i46 i47 i48 i49 i50 i51 ui58 i59 i65 i68 i69 i72 i78 i80 i81 i82 i87 i92 i96 i100 i103 i104))]) D) (by decide +kernel) (Nat.le_of_ble_eq_true rfl) ?_
  intro p e s m below meth c A ls C0 hr hlocks hnm hE hStr hA hP hD hl
  generalize ([.ref a, .int p1] : List Value).toArray = args at C0 ⊢
  have hx := C0.1
  have hb := C0.2.1
  have hml := C0.2.2.1
  have hown := C0.2.2.2.1
  have hT := C0.2.2.2.2
  have hK := hE.1
  generalize hH : s.heap = H at hP ⊢
  have hS : va_S A s.heap H [] := by rw [← hH]; exact va_S.rf
  have hP : va_P D vwCl [(a, .inr (11, OX z i1 i2 i3 i4 i5 i6 i7 i8 i30 i43 i45 i46 i47 i48 i49 i50 i51 i58 i59 i65 i68 i69 i72 i78 i80 i81 i82 i87 i92 i96 i100 i103 i104))] H := hP
  have hD : va_D A [(a, .inr (11, OX z i1 i2 i3 i4 i5 i6 i7 i8 i30 i43 i45 i46 i47 i48 i49 i50 i51 i58 i59 i65 i68 i69 i72 i78 i80 i81 i82 i87 i92 i96 i100 i103 i104))] := hD
  have hl : lv_has ls 2 [(0, .ref a), (1, .int p1)] := hl
  refine lv_iload_n hx hb dX11_as_0 rfl (lv_at hl 1 rfl) ?_
  refine lv_i2l hx hb dX11_as_1 rfl ?_
  refine lv_topl (fun x21700007 ex21700007 => ?_)
  have hx21700007 : x21700007.toInt = p1.toInt := by rw [ex21700007]; exact Int32.toInt_toInt64 _
  refine lv_ldc2 hx hb hown (hT _ mw_1058) dX11_as_2 ?_
  refine lv_aload_n hx hb dX11_as_5 rfl (lv_at hl 0 rfl) ?_
  refine r_get (v := .int i51) C0 hE ffX11_51 mw_841 hP 0 rfl ox_51 dX11_as_6 ?_
  refine lv_i2l hx hb dX11_as_9 rfl ?_
  refine lv_topl (fun x21700008 ex21700008 => ?_)
  have hx21700008 : x21700008.toInt = i51.toInt := by rw [ex21700008]; exact Int32.toInt_toInt64 _
  refine r_calli (wr := [(a, .inr (11, OX z i1 i2 i3 i4 i5 i6 i7 i8 i30 i43 i45 i46 i47 i48 i49 i50 i51 i58 i59 i65 i68 i69 i72 i78 i80 i81 i82 i87 i92 i96 i100 i103 i104))]) (r_runS2 (As := [.long x21700007, .long (-1), .long x21700008]) (rest := []) (wc := []) C0 hE hStr hS (va_free (wc := []) hD hS hA [] rfl) (h_X11_isIn_20000007 l D T sq sv H.size x21700007 (-1) x21700008) mw_910 mw_911 mw_14 mw_912 dn_1704 rfl rfl ⟨Nat.le_of_ble_eq_true rfl, Nat.le_of_ble_eq_true rfl⟩ (hP.sub (ws' := []) [] rfl) (hD.sub (ws' := []) [] (by decide +kernel) rfl) hl.1 rfl (Nat.le_of_ble_eq_true rfl) dX11_as_10 ⟨Nat.le_of_ble_eq_true rfl, Nat.le_of_ble_eq_true rfl⟩) hP hD hS hA [] [0] rfl rfl (by decide +kernel) (by decide +kernel) (fun x21700009 u H locs hq hP hD hS => ?_)
  obtain ⟨hp21700010, hx21700009⟩ := hq
  have hp21700010 : (x21700009.toInt = 0 ∧ (x21700007.toInt < (-1) ∨ x21700008.toInt < x21700007.toInt)) ∨ (x21700009.toInt = 1 ∧ (-1) ≤ x21700007.toInt ∧ x21700007.toInt ≤ x21700008.toInt) := hp21700010
  have hx21700009 : 0 ≤ x21700009.toInt ∧ x21700009.toInt ≤ 1 := hx21700009
  have hl21700011 : ((-1) : Int64).toInt = -1 := by decide
  have hP : va_P D vwCl [(a, .inr (11, OX z i1 i2 i3 i4 i5 i6 i7 i8 i30 i43 i45 i46 i47 i48 i49 i50 i51 i58 i59 i65 i68 i69 i72 i78 i80 i81 i82 i87 i92 i96 i100 i103 i104))] H := hP
  have hD : va_D A [(a, .inr (11, OX z i1 i2 i3 i4 i5 i6 i7 i8 i30 i43 i45 i46 i47 i48 i49 i50 i51 i58 i59 i65 i68 i69 i72 i78 i80 i81 i82 i87 i92 i96 i100 i103 i104))] := hD
  refine W.widen (k := 0) (n := 0) (Nat.le_refl _) (Nat.le_refl _) ?_
  refine lv_if_ne (tgt := 18) hx hb dX11_as_13 (by decide) (fun c21700012 => ?_) (fun c21700012 => ?_)
  · skip
    have kc21700012 : x21700009.toInt ≠ 0 := ne_ti rfl (by decide) c21700012
    have nzx21700009 : ¬ x21700009 = 0 := c21700012
    refine lv_aload_n hx hb dX11_as_18 rfl (lv_at hl 0 rfl) ?_
    refine lv_iload_n hx hb dX11_as_19 rfl (lv_at hl 1 rfl) ?_
    refine r_put (v := .int p1) (ty := .int) (ws1 := [(a, .inr (11, OX z i1 i2 i3 i4 i5 i6 i7 i8 i30 i43 i45 i46 i47 i48 i49 i50 i51 p1 i59 i65 i68 i69 i72 i78 i80 i81 i82 i87 i92 i96 i100 i103 i104))]) C0 hE ffX11_58 tyX11 tyX11_ok nmX11 mw_848 pf_1358 hP hD hS 0 rfl rfl rfl ol_58 os_58 rfl dX11_as_20 (fun H locs hP hD hS => ?_)
    refine lv_iconst (v := 1) hx hb dX11_as_23 (by decide) ?_
    exact r_zret (p1 : Int32) C0 hr (by decide +kernel) hlocks hS (Nat.le_refl _) (Nat.le_refl _) dX11_as_24 ⟨⟨by omega, by omega⟩, ⟨by decide, by decide⟩⟩ (hP.sub (ws' := [(a, .inr (11, OX z i1 i2 i3 i4 i5 i6 i7 i8 i30 i43 i45 i46 i47 i48 i49 i50 i51 p1 i59 i65 i68 i69 i72 i78 i80 i81 i82 i87 i92 i96 i100 i103 i104))]) [0] rfl) (hD.sub (ws' := [(a, .inr (11, OX z i1 i2 i3 i4 i5 i6 i7 i8 i30 i43 i45 i46 i47 i48 i49 i50 i51 p1 i59 i65 i68 i69 i72 i78 i80 i81 i82 i87 i92 i96 i100 i103 i104))]) [0] (by decide +kernel) rfl)
  · skip
    have kc21700012 : x21700009.toInt = 0 := eq_ti rfl (by decide) c21700012
    refine lv_iconst (v := 0) hx hb dX11_as_16 (by decide) ?_
    exact r_zret (i58 : Int32) C0 hr (by decide +kernel) hlocks hS (Nat.le_refl _) (Nat.le_refl _) dX11_as_17 ⟨⟨by omega, by omega⟩, ⟨by decide, by decide⟩⟩ (hP.sub (ws' := [(a, .inr (11, OX z i1 i2 i3 i4 i5 i6 i7 i8 i30 i43 i45 i46 i47 i48 i49 i50 i51 i58 i59 i65 i68 i69 i72 i78 i80 i81 i82 i87 i92 i96 i100 i103 i104))]) [0] rfl) (hD.sub (ws' := [(a, .inr (11, OX z i1 i2 i3 i4 i5 i6 i7 i8 i30 i43 i45 i46 i47 i48 i49 i50 i51 i58 i59 i65 i68 i69 i72 i78 i80 i81 i82 i87 i92 i96 i100 i103 i104))]) [0] (by decide +kernel) rfl)
set_option maxHeartbeats 4000000 in
set_option maxRecDepth 100000 in
theorem h_X11_now_21800003 (l : Launch) (D : va_G) (T : Nat → ClassId) (sq sv sz : Nat) (a : Nat) (z : Nat → Nat) (i1 i2 i3 i4 i5 i6 i7 i8 i30 i43 i45 i46 i47 i48 i49 i50 i51 i58 i59 i65 i68 i69 i72 i78 i80 i81 i82 i87 i92 i96 i100 i103 i104 : Int32) (hi51 : 0 ≤ i51.toInt ∧ i51.toInt ≤ 120) (hi58 : -1 ≤ i58.toInt ∧ i58.toInt ≤ 120) : Met l yX11_now (.code yX11_now cX11_now 1 (some .int) :: TB) { frames := 0, cells := 0, slots := 0, locals := 0 } (PC2 D T sq sv [.ref a] [(a, .inr (11, OX z i1 i2 i3 i4 i5 i6 i7 i8 i30 i43 i45 i46 i47 i48 i49 i50 i51 i58 i59 i65 i68 i69 i72 i78 i80 i81 i82 i87 i92 i96 i100 i103 i104))] sz) (Qi (S := Unit) (fun (r : Int32) (_ : Unit) => (0 ≤ r.toInt ∧ r.toInt ≤ 120)) (fun (_ : Unit) => [(a, .inr (11, OX z i1 i2 i3 i4 i5 i6 i7 i8 i30 i43 i45 i46 i47 i48 i49 i50 i51 i58 i59 i65 i68 i69 i72 i78 i80 i81 i82 i87 i92 i96 i100 i103 i104))]) D (va_A [(a, .inr (11, OX z i1 i2 i3 i4 i5 i6 i7 i8 i30 i43 i45 i46 i47 i48 i49 i50 i51 i58 i59 i65 i68 i69 i72 i78 i80 i81 i82 i87 i92 i96 i100 i103 i104))] sz)) 0 0 (va_A [(a, .inr (11, OX z i1 i2 i3 i4 i5 i6 i7 i8 i30 i43 i45 i46 i47 i48 i49 i50 i51 i58 i59 i65 i68 i69 i72 i78 i80 i81 i82 i87 i92 i96 i100 i103 i104))] sz) := by
  refine ct_begin2 (Qc := Qi (S := Unit) (fun (r : Int32) (_ : Unit) => (0 ≤ r.toInt ∧ r.toInt ≤ 120)) (fun (_ : Unit) => [(a, .inr (11, OX z i1 i2 i3 i4 i5 i6 i7 i8 i30 i43 i45 i46 i47 i48 i49 i50 i51 i58 i59 i65 i68 i69 i72 i78 i80 i81 i82 i87 i92 i96 i100 i103 i104))]) D) (by decide +kernel) (Nat.le_of_ble_eq_true rfl) ?_
  intro p e s m below meth c A ls C0 hr hlocks hnm hE hStr hA hP hD hl
  generalize ([.ref a] : List Value).toArray = args at C0 ⊢
  have hx := C0.1
  have hb := C0.2.1
  have hml := C0.2.2.1
  have hown := C0.2.2.2.1
  have hT := C0.2.2.2.2
  have hK := hE.1
  generalize hH : s.heap = H at hP ⊢
  have hS : va_S A s.heap H [] := by rw [← hH]; exact va_S.rf
  have hP : va_P D vwCl [(a, .inr (11, OX z i1 i2 i3 i4 i5 i6 i7 i8 i30 i43 i45 i46 i47 i48 i49 i50 i51 i58 i59 i65 i68 i69 i72 i78 i80 i81 i82 i87 i92 i96 i100 i103 i104))] H := hP
  have hD : va_D A [(a, .inr (11, OX z i1 i2 i3 i4 i5 i6 i7 i8 i30 i43 i45 i46 i47 i48 i49 i50 i51 i58 i59 i65 i68 i69 i72 i78 i80 i81 i82 i87 i92 i96 i100 i103 i104))] := hD
  have hl : lv_has ls 1 [(0, .ref a)] := hl
  refine lv_aload_n hx hb dX11_now_0 rfl (lv_at hl 0 rfl) ?_
  refine r_get (v := .int i58) C0 hE ffX11_58 mw_848 hP 0 rfl ox_58 dX11_now_1 ?_
  refine lv_iconst (v := (-1)) hx hb dX11_now_4 (by decide) ?_
  have J21800006 : ∀ (x21800005 : Int32) (H : Heap) (locs : List Loc) (ls : Array Slot), (0 ≤ x21800005.toInt ∧ x21800005.toInt ≤ 120) → va_P D vwCl [(a, .inr (11, OX z i1 i2 i3 i4 i5 i6 i7 i8 i30 i43 i45 i46 i47 i48 i49 i50 i51 i58 i59 i65 i68 i69 i72 i78 i80 i81 i82 i87 i92 i96 i100 i103 i104))] H → va_D A [(a, .inr (11, OX z i1 i2 i3 i4 i5 i6 i7 i8 i30 i43 i45 i46 i47 i48 i49 i50 i51 i58 i59 i65 i68 i69 i72 i78 i80 i81 i82 i87 i92 i96 i100 i103 i104))] → va_S A s.heap H locs → lv_has ls 1 [(0, .ref a)] → W p l e { frames := 0, cells := 0, slots := 0, locals := 0 } s m args below meth c H locs 0 0 (MQ below ((Qi (S := Unit) (fun (r : Int32) (_ : Unit) => (0 ≤ r.toInt ∧ r.toInt ≤ 120)) (fun (_ : Unit) => [(a, .inr (11, OX z i1 i2 i3 i4 i5 i6 i7 i8 i30 i43 i45 i46 i47 i48 i49 i50 i51 i58 i59 i65 i68 i69 i72 i78 i80 i81 i82 i87 i92 i96 i100 i103 i104))]) D) A) args s 0 0 A) (F0 m 19 ls [.int x21800005]) := by
    intro x21800005 H locs ls hx21800005 hP hD hS hl
    exact r_iret () C0 hr hlocks hS (Nat.le_refl _) (Nat.le_refl _) dX11_now_19 ⟨by omega, by omega⟩ (hP.sub (ws' := [(a, .inr (11, OX z i1 i2 i3 i4 i5 i6 i7 i8 i30 i43 i45 i46 i47 i48 i49 i50 i51 i58 i59 i65 i68 i69 i72 i78 i80 i81 i82 i87 i92 i96 i100 i103 i104))]) [0] rfl) (hD.sub (ws' := [(a, .inr (11, OX z i1 i2 i3 i4 i5 i6 i7 i8 i30 i43 i45 i46 i47 i48 i49 i50 i51 i58 i59 i65 i68 i69 i72 i78 i80 i81 i82 i87 i92 i96 i100 i103 i104))]) [0] (by decide +kernel) rfl)
  refine lv_icmp_ne (tgt := 15) hx hb dX11_now_5 (by decide) (fun c21800004 => ?_) (fun c21800004 => ?_)
  · skip
    have kc21800004 : i58.toInt ≠ (-1) := ne_ti rfl (by decide) c21800004
    refine lv_aload_n hx hb dX11_now_15 rfl (lv_at hl 0 rfl) ?_
    refine r_get (v := .int i58) C0 hE ffX11_58 mw_848 hP 0 rfl ox_58 dX11_now_16 ?_
    exact J21800006 i58 _ _ ls ⟨by omega, by omega⟩ (hP.sub (ws' := [(a, .inr (11, OX z i1 i2 i3 i4 i5 i6 i7 i8 i30 i43 i45 i46 i47 i48 i49 i50 i51 i58 i59 i65 i68 i69 i72 i78 i80 i81 i82 i87 i92 i96 i100 i103 i104))]) [0] rfl) (hD.sub (ws' := [(a, .inr (11, OX z i1 i2 i3 i4 i5 i6 i7 i8 i30 i43 i45 i46 i47 i48 i49 i50 i51 i58 i59 i65 i68 i69 i72 i78 i80 i81 i82 i87 i92 i96 i100 i103 i104))]) [0] (by decide +kernel) rfl) hS (lv_sub hl [0] rfl)
  · skip
    have kc21800004 : i58.toInt = (-1) := eq_ti rfl (by decide) c21800004
    refine lv_aload_n hx hb dX11_now_8 rfl (lv_at hl 0 rfl) ?_
    refine r_get (v := .int i51) C0 hE ffX11_51 mw_841 hP 0 rfl ox_51 dX11_now_9 ?_
    refine lv_goto (tgt := 19) hx hb dX11_now_12 (by decide) ?_
    exact J21800006 i51 _ _ ls ⟨by omega, by omega⟩ (hP.sub (ws' := [(a, .inr (11, OX z i1 i2 i3 i4 i5 i6 i7 i8 i30 i43 i45 i46 i47 i48 i49 i50 i51 i58 i59 i65 i68 i69 i72 i78 i80 i81 i82 i87 i92 i96 i100 i103 i104))]) [0] rfl) (hD.sub (ws' := [(a, .inr (11, OX z i1 i2 i3 i4 i5 i6 i7 i8 i30 i43 i45 i46 i47 i48 i49 i50 i51 i58 i59 i65 i68 i69 i72 i78 i80 i81 i82 i87 i92 i96 i100 i103 i104))]) [0] (by decide +kernel) rfl) hS (lv_sub hl [0] rfl)
set_option maxHeartbeats 4000000 in
set_option maxRecDepth 100000 in
theorem h_X11_isKnown_21900008 (l : Launch) (D : va_G) (T : Nat → ClassId) (sq sv sz : Nat) (a : Nat) (z : Nat → Nat) (i1 i2 i3 i4 i5 i6 i7 i8 i30 i43 i45 i46 i47 i48 i49 i50 i51 i58 i59 i65 i68 i69 i72 i78 i80 i81 i82 i87 i92 i96 i100 i103 i104 : Int32) (p1 : Int32) (p2 : Int32) (g57 : Nat → Int32) (hp1 : 0 ≤ p1.toInt ∧ p1.toInt ≤ 120) : Met l yX11_isKnown (.code yX11_isKnown cX11_isKnown 3 (some .boolean) :: TB) { frames := 0, cells := 0, slots := 0, locals := 0 } (PC2 D T sq sv [.ref a, .int p1, .int p2] [(a, .inr (11, OX z i1 i2 i3 i4 i5 i6 i7 i8 i30 i43 i45 i46 i47 i48 i49 i50 i51 i58 i59 i65 i68 i69 i72 i78 i80 i81 i82 i87 i92 i96 i100 i103 i104)), ((z 57), .inl (T 0, 121, .inl g57))] sz) (Qi (S := Unit) (fun (r : Int32) (_ : Unit) => (0 ≤ r.toInt ∧ r.toInt ≤ 1)) (fun (_ : Unit) => [(a, .inr (11, OX z i1 i2 i3 i4 i5 i6 i7 i8 i30 i43 i45 i46 i47 i48 i49 i50 i51 i58 i59 i65 i68 i69 i72 i78 i80 i81 i82 i87 i92 i96 i100 i103 i104)), ((z 57), .inl (T 0, 121, .inl g57))]) D (va_A [(a, .inr (11, OX z i1 i2 i3 i4 i5 i6 i7 i8 i30 i43 i45 i46 i47 i48 i49 i50 i51 i58 i59 i65 i68 i69 i72 i78 i80 i81 i82 i87 i92 i96 i100 i103 i104)), ((z 57), .inl (T 0, 121, .inl g57))] sz)) 0 0 (va_A [(a, .inr (11, OX z i1 i2 i3 i4 i5 i6 i7 i8 i30 i43 i45 i46 i47 i48 i49 i50 i51 i58 i59 i65 i68 i69 i72 i78 i80 i81 i82 i87 i92 i96 i100 i103 i104)), ((z 57), .inl (T 0, 121, .inl g57))] sz) := by
  refine ct_begin2 (Qc := Qi (S := Unit) (fun (r : Int32) (_ : Unit) => (0 ≤ r.toInt ∧ r.toInt ≤ 1)) (fun (_ : Unit) => [(a, .inr (11, OX z i1 i2 i3 i4 i5 i6 i7 i8 i30 i43 i45 i46 i47 i48 i49 i50 i51 i58 i59 i65 i68 i69 i72 i78 i80 i81 i82 i87 i92 i96 i100 i103 i104)), ((z 57), .inl (T 0, 121, .inl g57))]) D) (by decide +kernel) (Nat.le_of_ble_eq_true rfl) ?_
  intro p e s m below meth c A ls C0 hr hlocks hnm hE hStr hA hP hD hl
  generalize ([.ref a, .int p1, .int p2] : List Value).toArray = args at C0 ⊢
  have hx := C0.1
  have hb := C0.2.1
  have hml := C0.2.2.1
  have hown := C0.2.2.2.1
  have hT := C0.2.2.2.2
  have hK := hE.1
  generalize hH : s.heap = H at hP ⊢
  have hS : va_S A s.heap H [] := by rw [← hH]; exact va_S.rf
  have hP : va_P D vwCl [(a, .inr (11, OX z i1 i2 i3 i4 i5 i6 i7 i8 i30 i43 i45 i46 i47 i48 i49 i50 i51 i58 i59 i65 i68 i69 i72 i78 i80 i81 i82 i87 i92 i96 i100 i103 i104)), ((z 57), .inl (T 0, 121, .inl g57))] H := hP
  have hD : va_D A [(a, .inr (11, OX z i1 i2 i3 i4 i5 i6 i7 i8 i30 i43 i45 i46 i47 i48 i49 i50 i51 i58 i59 i65 i68 i69 i72 i78 i80 i81 i82 i87 i92 i96 i100 i103 i104)), ((z 57), .inl (T 0, 121, .inl g57))] := hD
  have hl : lv_has ls 3 [(0, .ref a), (1, .int p1), (2, .int p2)] := hl
  refine lv_aload_n hx hb dX11_isKnown_0 rfl (lv_at hl 0 rfl) ?_
  refine r_get (v := .ref (z 57)) C0 hE ffX11_57 mw_847 hP 0 rfl ox_57 dX11_isKnown_1 ?_
  refine lv_iload_n hx hb dX11_isKnown_4 rfl (lv_at hl 1 rfl) ?_
  refine va_iald hx hb hK hP 1 0 rfl rfl (in_ti rfl (by omega) (by omega)) dX11_isKnown_5 ?_
  refine lv_topi (fun x21900009 ex21900009 => ?_)
  have J21900016 : ∀ (x21900015 : Int32) (H : Heap) (locs : List Loc) (ls : Array Slot), (0 ≤ x21900015.toInt ∧ x21900015.toInt ≤ 1) → va_P D vwCl [(a, .inr (11, OX z i1 i2 i3 i4 i5 i6 i7 i8 i30 i43 i45 i46 i47 i48 i49 i50 i51 i58 i59 i65 i68 i69 i72 i78 i80 i81 i82 i87 i92 i96 i100 i103 i104)), ((z 57), .inl (T 0, 121, .inl g57))] H → va_D A [(a, .inr (11, OX z i1 i2 i3 i4 i5 i6 i7 i8 i30 i43 i45 i46 i47 i48 i49 i50 i51 i58 i59 i65 i68 i69 i72 i78 i80 i81 i82 i87 i92 i96 i100 i103 i104)), ((z 57), .inl (T 0, 121, .inl g57))] → va_S A s.heap H locs → lv_has ls 3 [(0, .ref a), (1, .int p1), (2, .int p2)] → W p l e { frames := 0, cells := 0, slots := 0, locals := 0 } s m args below meth c H locs 0 0 (MQ below ((Qi (S := Unit) (fun (r : Int32) (_ : Unit) => (0 ≤ r.toInt ∧ r.toInt ≤ 1)) (fun (_ : Unit) => [(a, .inr (11, OX z i1 i2 i3 i4 i5 i6 i7 i8 i30 i43 i45 i46 i47 i48 i49 i50 i51 i58 i59 i65 i68 i69 i72 i78 i80 i81 i82 i87 i92 i96 i100 i103 i104)), ((z 57), .inl (T 0, 121, .inl g57))]) D) A) args s 0 0 A) (F0 m 24 ls [.int x21900015]) := by
    intro x21900015 H locs ls hx21900015 hP hD hS hl
    exact r_zret () C0 hr (bool_nar ⟨by omega, by omega⟩) hlocks hS (Nat.le_refl _) (Nat.le_refl _) dX11_isKnown_24 ⟨by omega, by omega⟩ (hP.sub (ws' := [(a, .inr (11, OX z i1 i2 i3 i4 i5 i6 i7 i8 i30 i43 i45 i46 i47 i48 i49 i50 i51 i58 i59 i65 i68 i69 i72 i78 i80 i81 i82 i87 i92 i96 i100 i103 i104)), ((z 57), .inl (T 0, 121, .inl g57))]) [0, 1] rfl) (hD.sub (ws' := [(a, .inr (11, OX z i1 i2 i3 i4 i5 i6 i7 i8 i30 i43 i45 i46 i47 i48 i49 i50 i51 i58 i59 i65 i68 i69 i72 i78 i80 i81 i82 i87 i92 i96 i100 i103 i104)), ((z 57), .inl (T 0, 121, .inl g57))]) [0, 1] (by decide +kernel) rfl)
  refine lv_if_eq (tgt := 19) hx hb dX11_isKnown_6 (by decide) (fun c21900010 => ?_) (fun c21900010 => ?_)
  · skip
    have kc21900010 : x21900009.toInt = 0 := eq_ti rfl (by decide) c21900010
    refine lv_iconst (v := 1) hx hb dX11_isKnown_19 (by decide) ?_
    refine lv_goto (tgt := 24) hx hb dX11_isKnown_20 (by decide) ?_
    exact J21900016 1 _ _ ls ⟨by decide, by decide⟩ (hP.sub (ws' := [(a, .inr (11, OX z i1 i2 i3 i4 i5 i6 i7 i8 i30 i43 i45 i46 i47 i48 i49 i50 i51 i58 i59 i65 i68 i69 i72 i78 i80 i81 i82 i87 i92 i96 i100 i103 i104)), ((z 57), .inl (T 0, 121, .inl g57))]) [0, 1] rfl) (hD.sub (ws' := [(a, .inr (11, OX z i1 i2 i3 i4 i5 i6 i7 i8 i30 i43 i45 i46 i47 i48 i49 i50 i51 i58 i59 i65 i68 i69 i72 i78 i80 i81 i82 i87 i92 i96 i100 i103 i104)), ((z 57), .inl (T 0, 121, .inl g57))]) [0, 1] (by decide +kernel) rfl) hS (lv_sub hl [0, 1, 2] rfl)
  · skip
    have kc21900010 : x21900009.toInt ≠ 0 := ne_ti rfl (by decide) c21900010
    have nzx21900009 : ¬ x21900009 = 0 := c21900010
    refine lv_aload_n hx hb dX11_isKnown_9 rfl (lv_at hl 0 rfl) ?_
    refine r_get (v := .ref (z 57)) C0 hE ffX11_57 mw_847 hP 0 rfl ox_57 dX11_isKnown_10 ?_
    refine lv_iload_n hx hb dX11_isKnown_13 rfl (lv_at hl 1 rfl) ?_
    refine va_iald hx hb hK hP 1 0 rfl rfl (in_ti rfl (by omega) (by omega)) dX11_isKnown_14 ?_
    refine lv_topi (fun x21900017 ex21900017 => ?_)
    refine lv_iload_n hx hb dX11_isKnown_15 rfl (lv_at hl 2 rfl) ?_
    refine lv_icmp_le (tgt := 23) hx hb dX11_isKnown_16 (by decide) (fun c21900018 => ?_) (fun c21900018 => ?_)
    · skip
      have kc21900018 : x21900017.toInt ≤ p2.toInt := le_ti rfl rfl c21900018
      refine lv_iconst (v := 0) hx hb dX11_isKnown_23 (by decide) ?_
      exact J21900016 0 _ _ ls ⟨by decide, by decide⟩ (hP.sub (ws' := [(a, .inr (11, OX z i1 i2 i3 i4 i5 i6 i7 i8 i30 i43 i45 i46 i47 i48 i49 i50 i51 i58 i59 i65 i68 i69 i72 i78 i80 i81 i82 i87 i92 i96 i100 i103 i104)), ((z 57), .inl (T 0, 121, .inl g57))]) [0, 1] rfl) (hD.sub (ws' := [(a, .inr (11, OX z i1 i2 i3 i4 i5 i6 i7 i8 i30 i43 i45 i46 i47 i48 i49 i50 i51 i58 i59 i65 i68 i69 i72 i78 i80 i81 i82 i87 i92 i96 i100 i103 i104)), ((z 57), .inl (T 0, 121, .inl g57))]) [0, 1] (by decide +kernel) rfl) hS (lv_sub hl [0, 1, 2] rfl)
    · skip
      have kc21900018 : p2.toInt < x21900017.toInt := nle_ti rfl rfl c21900018
      have rg21900019 := i32_rng x21900017
      have rg21900020 := i32_rng p2
      refine lv_iconst (v := 1) hx hb dX11_isKnown_19 (by decide) ?_
      refine lv_goto (tgt := 24) hx hb dX11_isKnown_20 (by decide) ?_
      exact J21900016 1 _ _ ls ⟨by decide, by decide⟩ (hP.sub (ws' := [(a, .inr (11, OX z i1 i2 i3 i4 i5 i6 i7 i8 i30 i43 i45 i46 i47 i48 i49 i50 i51 i58 i59 i65 i68 i69 i72 i78 i80 i81 i82 i87 i92 i96 i100 i103 i104)), ((z 57), .inl (T 0, 121, .inl g57))]) [0, 1] rfl) (hD.sub (ws' := [(a, .inr (11, OX z i1 i2 i3 i4 i5 i6 i7 i8 i30 i43 i45 i46 i47 i48 i49 i50 i51 i58 i59 i65 i68 i69 i72 i78 i80 i81 i82 i87 i92 i96 i100 i103 i104)), ((z 57), .inl (T 0, 121, .inl g57))]) [0, 1] (by decide +kernel) rfl) hS (lv_sub hl [0, 1, 2] rfl)
set_option maxHeartbeats 4000000 in
set_option maxRecDepth 100000 in
theorem h_X11_stiffOf_22000010 (l : Launch) (D : va_G) (T : Nat → ClassId) (sq sv sz : Nat) (a : Nat) (z : Nat → Nat) (i1 i2 i3 i4 i5 i6 i7 i8 i30 i43 i45 i46 i47 i48 i49 i50 i51 i58 i59 i65 i68 i69 i72 i78 i80 i81 i82 i87 i92 i96 i100 i103 i104 : Int32) (p1 : Int32) (g33 : Nat → Int32) (g60 : Nat → Int32) (g62 : Nat → Int32) (hp1 : 0 ≤ p1.toInt ∧ p1.toInt ≤ 63) (hbg60 : Bd (-1) (7) g60) : Met l yX11_stiffOf (.code yX11_stiffOf cX11_stiffOf 3 (some .int) :: TB) { frames := 0, cells := 0, slots := 0, locals := 0 } (PC2 D T sq sv [.ref a, .int p1] [(a, .inr (11, OX z i1 i2 i3 i4 i5 i6 i7 i8 i30 i43 i45 i46 i47 i48 i49 i50 i51 i58 i59 i65 i68 i69 i72 i78 i80 i81 i82 i87 i92 i96 i100 i103 i104)), ((z 33), .inl (T 0, 16, .inl g33)), ((z 60), .inl (T 0, 64, .inl g60)), ((z 62), .inl (T 0, 64, .inl g62))] sz) (Qi (S := Unit) (fun (r : Int32) (_ : Unit) => (1 ≤ r.toInt ∧ r.toInt ≤ 2147483647)) (fun (_ : Unit) => [(a, .inr (11, OX z i1 i2 i3 i4 i5 i6 i7 i8 i30 i43 i45 i46 i47 i48 i49 i50 i51 i58 i59 i65 i68 i69 i72 i78 i80 i81 i82 i87 i92 i96 i100 i103 i104)), ((z 33), .inl (T 0, 16, .inl g33)), ((z 60), .inl (T 0, 64, .inl g60)), ((z 62), .inl (T 0, 64, .inl g62))]) D (va_A [(a, .inr (11, OX z i1 i2 i3 i4 i5 i6 i7 i8 i30 i43 i45 i46 i47 i48 i49 i50 i51 i58 i59 i65 i68 i69 i72 i78 i80 i81 i82 i87 i92 i96 i100 i103 i104)), ((z 33), .inl (T 0, 16, .inl g33)), ((z 60), .inl (T 0, 64, .inl g60)), ((z 62), .inl (T 0, 64, .inl g62))] sz)) 0 0 (va_A [(a, .inr (11, OX z i1 i2 i3 i4 i5 i6 i7 i8 i30 i43 i45 i46 i47 i48 i49 i50 i51 i58 i59 i65 i68 i69 i72 i78 i80 i81 i82 i87 i92 i96 i100 i103 i104)), ((z 33), .inl (T 0, 16, .inl g33)), ((z 60), .inl (T 0, 64, .inl g60)), ((z 62), .inl (T 0, 64, .inl g62))] sz) := by
  refine ct_begin2 (Qc := Qi (S := Unit) (fun (r : Int32) (_ : Unit) => (1 ≤ r.toInt ∧ r.toInt ≤ 2147483647)) (fun (_ : Unit) => [(a, .inr (11, OX z i1 i2 i3 i4 i5 i6 i7 i8 i30 i43 i45 i46 i47 i48 i49 i50 i51 i58 i59 i65 i68 i69 i72 i78 i80 i81 i82 i87 i92 i96 i100 i103 i104)), ((z 33), .inl (T 0, 16, .inl g33)), ((z 60), .inl (T 0, 64, .inl g60)), ((z 62), .inl (T 0, 64, .inl g62))]) D) (by decide +kernel) (Nat.le_of_ble_eq_true rfl) ?_
  intro p e s m below meth c A ls C0 hr hlocks hnm hE hStr hA hP hD hl
  generalize ([.ref a, .int p1] : List Value).toArray = args at C0 ⊢
  have hx := C0.1
  have hb := C0.2.1
  have hml := C0.2.2.1
  have hown := C0.2.2.2.1
  have hT := C0.2.2.2.2
  have hK := hE.1
  generalize hH : s.heap = H at hP ⊢
  have hS : va_S A s.heap H [] := by rw [← hH]; exact va_S.rf
  have hP : va_P D vwCl [(a, .inr (11, OX z i1 i2 i3 i4 i5 i6 i7 i8 i30 i43 i45 i46 i47 i48 i49 i50 i51 i58 i59 i65 i68 i69 i72 i78 i80 i81 i82 i87 i92 i96 i100 i103 i104)), ((z 33), .inl (T 0, 16, .inl g33)), ((z 60), .inl (T 0, 64, .inl g60)), ((z 62), .inl (T 0, 64, .inl g62))] H := hP
  have hD : va_D A [(a, .inr (11, OX z i1 i2 i3 i4 i5 i6 i7 i8 i30 i43 i45 i46 i47 i48 i49 i50 i51 i58 i59 i65 i68 i69 i72 i78 i80 i81 i82 i87 i92 i96 i100 i103 i104)), ((z 33), .inl (T 0, 16, .inl g33)), ((z 60), .inl (T 0, 64, .inl g60)), ((z 62), .inl (T 0, 64, .inl g62))] := hD
  have hl : lv_has ls 3 [(0, .ref a), (1, .int p1)] := hl
  refine lv_aload_n hx hb dX11_stiffOf_0 rfl (lv_at hl 0 rfl) ?_
  refine r_get (v := .ref (z 33)) C0 hE ffX11_33 mw_823 hP 0 rfl ox_33 dX11_stiffOf_1 ?_
  refine lv_bipush (v := 8) hx hb dX11_stiffOf_4 (by decide) ?_
  refine lv_aload_n hx hb dX11_stiffOf_6 rfl (lv_at hl 0 rfl) ?_
  refine r_get (v := .ref (z 60)) C0 hE ffX11_60 mw_850 hP 0 rfl ox_60 dX11_stiffOf_7 ?_
  refine lv_iload_n hx hb dX11_stiffOf_10 rfl (lv_at hl 1 rfl) ?_
  refine va_iald hx hb hK hP 2 0 rfl rfl (in_ti rfl (by omega) (by omega)) dX11_stiffOf_11 ?_
  refine lv_topi (fun x22000011 ex22000011 => ?_)
  have hx22000011 : -1 ≤ x22000011.toInt ∧ x22000011.toInt ≤ 7 := by rw [ex22000011]; exact hbg60 _
  refine lv_iadd hx hb dX11_stiffOf_12 ?_
  refine lv_topi (fun x22000012 ex22000012 => ?_)
  have hx22000012 : x22000012.toInt = 8 + x22000011.toInt := ti_add ex22000012 (by decide) rfl (by omega) (by omega)
  refine va_iald hx hb hK hP 1 0 rfl rfl (in_ti rfl (by omega) (by omega)) dX11_stiffOf_13 ?_
  refine lv_topi (fun x22000013 ex22000013 => ?_)
  refine lv_sipush (v := 1000) hx hb dX11_stiffOf_14 (by decide) ?_
  refine lv_aload_n hx hb dX11_stiffOf_17 rfl (lv_at hl 0 rfl) ?_
  refine r_get (v := .ref (z 62)) C0 hE ffX11_62 mw_852 hP 0 rfl ox_62 dX11_stiffOf_18 ?_
  refine lv_iload_n hx hb dX11_stiffOf_21 rfl (lv_at hl 1 rfl) ?_
  refine va_iald hx hb hK hP 3 0 rfl rfl (in_ti rfl (by omega) (by omega)) dX11_stiffOf_22 ?_
  refine lv_topi (fun x22000014 ex22000014 => ?_)
  refine lv_isub hx hb dX11_stiffOf_23 ?_
  refine lv_topi (fun x22000015 ex22000015 => ?_)
  refine lv_imul hx hb dX11_stiffOf_24 ?_
  refine lv_topi (fun x22000016 ex22000016 => ?_)
  refine lv_sipush (v := 1000) hx hb dX11_stiffOf_25 (by decide) ?_
  refine lv_idiv hx hb dX11_stiffOf_28 (by decide +kernel) ?_
  refine lv_topi (fun x22000017 ex22000017 => ?_)
  refine lv_istore_n (lv' := [(2, .int x22000017), (0, .ref a), (1, .int p1)]) hx hb dX11_stiffOf_29 rfl hl (by decide) rfl (fun ls hl => ?_)
  refine lv_iload_n hx hb dX11_stiffOf_30 rfl (lv_at hl 0 rfl) ?_
  refine lv_iconst (v := 1) hx hb dX11_stiffOf_31 (by decide) ?_
  have J22000020 : ∀ (x22000019 : Int32) (H : Heap) (locs : List Loc) (ls : Array Slot), (1 ≤ x22000019.toInt ∧ x22000019.toInt ≤ 2147483647) → va_P D vwCl [(a, .inr (11, OX z i1 i2 i3 i4 i5 i6 i7 i8 i30 i43 i45 i46 i47 i48 i49 i50 i51 i58 i59 i65 i68 i69 i72 i78 i80 i81 i82 i87 i92 i96 i100 i103 i104)), ((z 33), .inl (T 0, 16, .inl g33)), ((z 60), .inl (T 0, 64, .inl g60)), ((z 62), .inl (T 0, 64, .inl g62))] H → va_D A [(a, .inr (11, OX z i1 i2 i3 i4 i5 i6 i7 i8 i30 i43 i45 i46 i47 i48 i49 i50 i51 i58 i59 i65 i68 i69 i72 i78 i80 i81 i82 i87 i92 i96 i100 i103 i104)), ((z 33), .inl (T 0, 16, .inl g33)), ((z 60), .inl (T 0, 64, .inl g60)), ((z 62), .inl (T 0, 64, .inl g62))] → va_S A s.heap H locs → lv_has ls 3 [(2, .int x22000017), (0, .ref a), (1, .int p1)] → W p l e { frames := 0, cells := 0, slots := 0, locals := 0 } s m args below meth c H locs 0 0 (MQ below ((Qi (S := Unit) (fun (r : Int32) (_ : Unit) => (1 ≤ r.toInt ∧ r.toInt ≤ 2147483647)) (fun (_ : Unit) => [(a, .inr (11, OX z i1 i2 i3 i4 i5 i6 i7 i8 i30 i43 i45 i46 i47 i48 i49 i50 i51 i58 i59 i65 i68 i69 i72 i78 i80 i81 i82 i87 i92 i96 i100 i103 i104)), ((z 33), .inl (T 0, 16, .inl g33)), ((z 60), .inl (T 0, 64, .inl g60)), ((z 62), .inl (T 0, 64, .inl g62))]) D) A) args s 0 0 A) (F0 m 40 ls [.int x22000019]) := by
    intro x22000019 H locs ls hx22000019 hP hD hS hl
    exact r_iret () C0 hr hlocks hS (Nat.le_refl _) (Nat.le_refl _) dX11_stiffOf_40 ⟨by omega, (i32_rng _).2⟩ (hP.sub (ws' := [(a, .inr (11, OX z i1 i2 i3 i4 i5 i6 i7 i8 i30 i43 i45 i46 i47 i48 i49 i50 i51 i58 i59 i65 i68 i69 i72 i78 i80 i81 i82 i87 i92 i96 i100 i103 i104)), ((z 33), .inl (T 0, 16, .inl g33)), ((z 60), .inl (T 0, 64, .inl g60)), ((z 62), .inl (T 0, 64, .inl g62))]) [0, 1, 2, 3] rfl) (hD.sub (ws' := [(a, .inr (11, OX z i1 i2 i3 i4 i5 i6 i7 i8 i30 i43 i45 i46 i47 i48 i49 i50 i51 i58 i59 i65 i68 i69 i72 i78 i80 i81 i82 i87 i92 i96 i100 i103 i104)), ((z 33), .inl (T 0, 16, .inl g33)), ((z 60), .inl (T 0, 64, .inl g60)), ((z 62), .inl (T 0, 64, .inl g62))]) [0, 1, 2, 3] (by decide +kernel) rfl)
  refine lv_icmp_ge (tgt := 39) hx hb dX11_stiffOf_32 (by decide) (fun c22000018 => ?_) (fun c22000018 => ?_)
  · skip
    have kc22000018 : 1 ≤ x22000017.toInt := le_ti (by decide) rfl c22000018
    refine lv_iload_n hx hb dX11_stiffOf_39 rfl (lv_at hl 0 rfl) ?_
    exact J22000020 x22000017 _ _ ls ⟨by omega, (i32_rng _).2⟩ (hP.sub (ws' := [(a, .inr (11, OX z i1 i2 i3 i4 i5 i6 i7 i8 i30 i43 i45 i46 i47 i48 i49 i50 i51 i58 i59 i65 i68 i69 i72 i78 i80 i81 i82 i87 i92 i96 i100 i103 i104)), ((z 33), .inl (T 0, 16, .inl g33)), ((z 60), .inl (T 0, 64, .inl g60)), ((z 62), .inl (T 0, 64, .inl g62))]) [0, 1, 2, 3] rfl) (hD.sub (ws' := [(a, .inr (11, OX z i1 i2 i3 i4 i5 i6 i7 i8 i30 i43 i45 i46 i47 i48 i49 i50 i51 i58 i59 i65 i68 i69 i72 i78 i80 i81 i82 i87 i92 i96 i100 i103 i104)), ((z 33), .inl (T 0, 16, .inl g33)), ((z 60), .inl (T 0, 64, .inl g60)), ((z 62), .inl (T 0, 64, .inl g62))]) [0, 1, 2, 3] (by decide +kernel) rfl) hS (lv_sub hl [0, 1, 2] rfl)
  · skip
    have kc22000018 : x22000017.toInt < 1 := nle_ti (by decide) rfl c22000018
    have rg22000021 := i32_rng x22000017
    refine lv_iconst (v := 1) hx hb dX11_stiffOf_35 (by decide) ?_
    refine lv_goto (tgt := 40) hx hb dX11_stiffOf_36 (by decide) ?_
    exact J22000020 1 _ _ ls ⟨by decide, by decide⟩ (hP.sub (ws' := [(a, .inr (11, OX z i1 i2 i3 i4 i5 i6 i7 i8 i30 i43 i45 i46 i47 i48 i49 i50 i51 i58 i59 i65 i68 i69 i72 i78 i80 i81 i82 i87 i92 i96 i100 i103 i104)), ((z 33), .inl (T 0, 16, .inl g33)), ((z 60), .inl (T 0, 64, .inl g60)), ((z 62), .inl (T 0, 64, .inl g62))]) [0, 1, 2, 3] rfl) (hD.sub (ws' := [(a, .inr (11, OX z i1 i2 i3 i4 i5 i6 i7 i8 i30 i43 i45 i46 i47 i48 i49 i50 i51 i58 i59 i65 i68 i69 i72 i78 i80 i81 i82 i87 i92 i96 i100 i103 i104)), ((z 33), .inl (T 0, 16, .inl g33)), ((z 60), .inl (T 0, 64, .inl g60)), ((z 62), .inl (T 0, 64, .inl g62))]) [0, 1, 2, 3] (by decide +kernel) rfl) hS (lv_sub hl [0, 1, 2] rfl)
set_option maxHeartbeats 4000000 in
set_option maxRecDepth 100000 in
theorem h_X11_clip_22100007 (l : Launch) (D : va_G) (T : Nat → ClassId) (sq sv sz : Nat) (p0 : Int64) : Met l yX11_clip (.code yX11_clip cX11_clip 2 (some .long) :: TB) { frames := 0, cells := 0, slots := 0, locals := 0 } (PC2 D T sq sv [.long p0] ([] : va_W) sz) (Ql (S := Unit) (fun (r : Int64) (_ : Unit) => True) (fun (_ : Unit) => ([] : va_W)) D (va_A ([] : va_W) sz)) 0 0 (va_A ([] : va_W) sz) := by
  refine ct_begin2 (Qc := Ql (S := Unit) (fun (r : Int64) (_ : Unit) => True) (fun (_ : Unit) => ([] : va_W)) D) (by decide +kernel) (Nat.le_of_ble_eq_true rfl) ?_
  intro p e s m below meth c A ls C0 hr hlocks hnm hE hStr hA hP hD hl
  generalize ([.long p0] : List Value).toArray = args at C0 ⊢
  have hx := C0.1
  have hb := C0.2.1
  have hml := C0.2.2.1
  have hown := C0.2.2.2.1
  have hT := C0.2.2.2.2
  have hK := hE.1
  generalize hH : s.heap = H at hP ⊢
  have hS : va_S A s.heap H [] := by rw [← hH]; exact va_S.rf
  have hP : va_P D vwCl ([] : va_W) H := hP
  have hD : va_D A ([] : va_W) := hD
  have hl : lv_has ls 2 [(0, .long p0)] := hl
  refine lv_lload_n hx hb dX11_clip_0 rfl (lv_at hl 0 rfl) ?_
  refine lv_ldc2 hx hb hown (hT _ mw_1104) dX11_clip_1 ?_
  refine W.lcmp hx hb dX11_clip_4 ?_
  refine lv_topi (fun x22100008 ex22100008 => ?_)
  have J22100014 : ∀ (x22100013 : Int64) (H : Heap) (locs : List Loc) (ls : Array Slot), va_P D vwCl [] H → va_D A [] → va_S A s.heap H locs → lv_has ls 2 [(0, .long p0)] → W p l e { frames := 0, cells := 0, slots := 0, locals := 0 } s m args below meth c H locs 0 0 (MQ below ((Ql (S := Unit) (fun (r : Int64) (_ : Unit) => True) (fun (_ : Unit) => ([] : va_W)) D) A) args s 0 0 A) (F0 m 29 ls [.long x22100013]) := by
    intro x22100013 H locs ls hP hD hS hl
    exact r_lret () C0 hr hlocks hS (Nat.le_refl _) (Nat.le_refl _) dX11_clip_29 trivial (hP.sub (ws' := []) [] rfl) (hD.sub (ws' := []) [] (by decide +kernel) rfl)
  refine lv_if_le (tgt := 14) hx hb dX11_clip_5 (by decide) (fun c22100009 => ?_) (fun c22100009 => ?_)
  · skip
    have kc22100009 : x22100008.toInt ≤ 0 := le_ti rfl (by decide) c22100009
    have qc22100009 : p0.toInt ≤ 1000000000 := lc_le ex22100008 rfl (by decide) kc22100009
    refine lv_lload_n hx hb dX11_clip_14 rfl (lv_at hl 0 rfl) ?_
    refine lv_ldc2 hx hb hown (hT _ mw_1105) dX11_clip_15 ?_
    refine W.lcmp hx hb dX11_clip_18 ?_
    refine lv_topi (fun x22100015 ex22100015 => ?_)
    refine lv_if_ge (tgt := 28) hx hb dX11_clip_19 (by decide) (fun c22100016 => ?_) (fun c22100016 => ?_)
    · skip
      have kc22100016 : 0 ≤ x22100015.toInt := le_ti (by decide) rfl c22100016
      have qc22100016 : (-1000000000) ≤ p0.toInt := lc_ge ex22100015 rfl (by decide) kc22100016
      refine lv_lload_n hx hb dX11_clip_28 rfl (lv_at hl 0 rfl) ?_
      exact J22100014 p0 _ _ ls (hP.sub (ws' := []) [] rfl) (hD.sub (ws' := []) [] (by decide +kernel) rfl) hS (lv_sub hl [0] rfl)
    · skip
      have kc22100016 : x22100015.toInt < 0 := nle_ti (by decide) rfl c22100016
      have qc22100016 : p0.toInt < (-1000000000) := lc_lt ex22100015 rfl (by decide) kc22100016
      have rg22100017 := i32_rng x22100015
      refine lv_ldc2 hx hb hown (hT _ mw_1105) dX11_clip_22 ?_
      refine lv_goto (tgt := 29) hx hb dX11_clip_25 (by decide) ?_
      exact J22100014 (-1000000000) _ _ ls (hP.sub (ws' := []) [] rfl) (hD.sub (ws' := []) [] (by decide +kernel) rfl) hS (lv_sub hl [0] rfl)
  · skip
    have kc22100009 : 0 < x22100008.toInt := nle_ti rfl (by decide) c22100009
    have qc22100009 : 1000000000 < p0.toInt := lc_gt ex22100008 rfl (by decide) kc22100009
    have rg22100018 := i32_rng x22100008
    refine lv_ldc2 hx hb hown (hT _ mw_1104) dX11_clip_8 ?_
    refine lv_goto (tgt := 29) hx hb dX11_clip_11 (by decide) ?_
    exact J22100014 1000000000 _ _ ls (hP.sub (ws' := []) [] rfl) (hD.sub (ws' := []) [] (by decide +kernel) rfl) hS (lv_sub hl [0] rfl)
set_option maxHeartbeats 4000000 in
set_option maxRecDepth 100000 in
theorem h_X11_floor_22200016 (l : Launch) (D : va_G) (T : Nat → ClassId) (sq sv sz : Nat) (p0 : Int64) (p1 : Int64) : Met l yX11_floor (.code yX11_floor cX11_floor 6 (some .long) :: TB) { frames := 0, cells := 0, slots := 0, locals := 0 } (PC2 D T sq sv [.long p0, .long p1] ([] : va_W) sz) (Ql (S := Unit) (fun (r : Int64) (_ : Unit) => True) (fun (_ : Unit) => ([] : va_W)) D (va_A ([] : va_W) sz)) 0 0 (va_A ([] : va_W) sz) := by
  refine ct_begin2 (Qc := Ql (S := Unit) (fun (r : Int64) (_ : Unit) => True) (fun (_ : Unit) => ([] : va_W)) D) (by decide +kernel) (Nat.le_of_ble_eq_true rfl) ?_
  intro p e s m below meth c A ls C0 hr hlocks hnm hE hStr hA hP hD hl
  generalize ([.long p0, .long p1] : List Value).toArray = args at C0 ⊢
  have hx := C0.1
  have hb := C0.2.1
  have hml := C0.2.2.1
  have hown := C0.2.2.2.1
  have hT := C0.2.2.2.2
  have hK := hE.1
  generalize hH : s.heap = H at hP ⊢
  have hS : va_S A s.heap H [] := by rw [← hH]; exact va_S.rf
  have hP : va_P D vwCl ([] : va_W) H := hP
  have hD : va_D A ([] : va_W) := hD
  have hl : lv_has ls 6 [(0, .long p0), (2, .long p1)] := hl
  refine lv_lload_n hx hb dX11_floor_0 rfl (lv_at hl 1 rfl) ?_
  refine lv_lconst (v := 0) hx hb dX11_floor_1 (by decide) ?_
  refine W.lcmp hx hb dX11_floor_2 ?_
  refine lv_topi (fun x22200017 ex22200017 => ?_)
  refine lv_if_ne (tgt := 8) hx hb dX11_floor_3 (by decide) (fun c22200018 => ?_) (fun c22200018 => ?_)
  · skip
    have kc22200018 : x22200017.toInt ≠ 0 := ne_ti rfl (by decide) c22200018
    have nzx22200017 : ¬ x22200017 = 0 := c22200018
    have n0p1 : ¬ p1 = 0 := fun hz => c22200018 (by rw [ex22200017, hz]; rfl)
    have qc22200018 : p1.toInt ≠ 0 := lc_ne ex22200017 rfl (by decide) kc22200018
    refine lv_lload_n hx hb dX11_floor_8 rfl (lv_at hl 0 rfl) ?_
    refine lv_lload_n hx hb dX11_floor_9 rfl (lv_at hl 1 rfl) ?_
    refine lv_ldiv hx hb dX11_floor_10 n0p1 ?_
    refine lv_topl (fun x22200019 ex22200019 => ?_)
    refine lv_lstore (lv' := [(4, .long x22200019), (0, .long p0), (2, .long p1)]) hx hb dX11_floor_11 hl (by decide) rfl (fun ls hl => ?_)
    refine lv_lload_n hx hb dX11_floor_13 rfl (lv_at hl 1 rfl) ?_
    refine lv_lload_n hx hb dX11_floor_14 rfl (lv_at hl 2 rfl) ?_
    refine lv_lrem hx hb dX11_floor_15 n0p1 ?_
    refine lv_topl (fun x22200020 ex22200020 => ?_)
    refine lv_lconst (v := 0) hx hb dX11_floor_16 (by decide) ?_
    refine W.lcmp hx hb dX11_floor_17 ?_
    refine lv_topi (fun x22200021 ex22200021 => ?_)
    have J22200032 : ∀ (x22200031 : Int64) (H : Heap) (locs : List Loc) (ls : Array Slot), va_P D vwCl [] H → va_D A [] → va_S A s.heap H locs → lv_has ls 6 [(4, .long x22200019), (0, .long p0), (2, .long p1)] → W p l e { frames := 0, cells := 0, slots := 0, locals := 0 } s m args below meth c H locs 0 0 (MQ below ((Ql (S := Unit) (fun (r : Int64) (_ : Unit) => True) (fun (_ : Unit) => ([] : va_W)) D) A) args s 0 0 A) (F0 m 55 ls [.long x22200031]) := by
      intro x22200031 H locs ls hP hD hS hl
      exact r_lret () C0 hr hlocks hS (Nat.le_refl _) (Nat.le_refl _) dX11_floor_55 trivial (hP.sub (ws' := []) [] rfl) (hD.sub (ws' := []) [] (by decide +kernel) rfl)
    refine lv_if_eq (tgt := 53) hx hb dX11_floor_18 (by decide) (fun c22200022 => ?_) (fun c22200022 => ?_)
    · skip
      have kc22200022 : x22200021.toInt = 0 := eq_ti rfl (by decide) c22200022
      have qc22200022 : x22200020.toInt = 0 := lc_eq ex22200021 rfl (by decide) kc22200022
      refine lv_lload hx hb dX11_floor_53 (lv_at hl 0 rfl) ?_
      exact J22200032 x22200019 _ _ ls (hP.sub (ws' := []) [] rfl) (hD.sub (ws' := []) [] (by decide +kernel) rfl) hS (lv_sub hl [0, 1, 2] rfl)
    · skip
      have kc22200022 : x22200021.toInt ≠ 0 := ne_ti rfl (by decide) c22200022
      have nzx22200021 : ¬ x22200021 = 0 := c22200022
      have n0x22200020 : ¬ x22200020 = 0 := fun hz => c22200022 (by rw [ex22200021, hz]; rfl)
      have qc22200022 : x22200020.toInt ≠ 0 := lc_ne ex22200021 rfl (by decide) kc22200022
      refine lv_lload_n hx hb dX11_floor_21 rfl (lv_at hl 1 rfl) ?_
      refine lv_lconst (v := 0) hx hb dX11_floor_22 (by decide) ?_
      refine W.lcmp hx hb dX11_floor_23 ?_
      refine lv_topi (fun x22200033 ex22200033 => ?_)
      have J22200036 : ∀ (x22200035 : Int32) (H : Heap) (locs : List Loc) (ls : Array Slot), (0 ≤ x22200035.toInt ∧ x22200035.toInt ≤ 1) → va_P D vwCl [] H → va_D A [] → va_S A s.heap H locs → lv_has ls 6 [(4, .long x22200019), (0, .long p0), (2, .long p1)] → W p l e { frames := 0, cells := 0, slots := 0, locals := 0 } s m args below meth c H locs 0 0 (MQ below ((Ql (S := Unit) (fun (r : Int64) (_ : Unit) => True) (fun (_ : Unit) => ([] : va_W)) D) A) args s 0 0 A) (F0 m 32 ls [.int x22200035]) := by
        intro x22200035 H locs ls hx22200035 hP hD hS hl
        refine lv_lload_n hx hb dX11_floor_32 rfl (lv_at hl 2 rfl) ?_
        refine lv_lconst (v := 0) hx hb dX11_floor_33 (by decide) ?_
        refine W.lcmp hx hb dX11_floor_34 ?_
        refine lv_topi (fun x22200037 ex22200037 => ?_)
        have J22200040 : ∀ (x22200039 : Int32) (H : Heap) (locs : List Loc) (ls : Array Slot), (0 ≤ x22200039.toInt ∧ x22200039.toInt ≤ 1) → va_P D vwCl [] H → va_D A [] → va_S A s.heap H locs → lv_has ls 6 [(4, .long x22200019), (0, .long p0), (2, .long p1)] → W p l e { frames := 0, cells := 0, slots := 0, locals := 0 } s m args below meth c H locs 0 0 (MQ below ((Ql (S := Unit) (fun (r : Int64) (_ : Unit) => True) (fun (_ : Unit) => ([] : va_W)) D) A) args s 0 0 A) (F0 m 43 ls [.int x22200039, .int x22200035]) := by
          intro x22200039 H locs ls hx22200039 hP hD hS hl
          refine lv_icmp_eq (tgt := 53) hx hb dX11_floor_43 (by decide) (fun c22200041 => ?_) (fun c22200041 => ?_)
          · skip
            have kc22200041 : x22200035.toInt = x22200039.toInt := eq_ti rfl rfl c22200041
            refine lv_lload hx hb dX11_floor_53 (lv_at hl 0 rfl) ?_
            exact J22200032 x22200019 _ _ ls (hP.sub (ws' := []) [] rfl) (hD.sub (ws' := []) [] (by decide +kernel) rfl) hS (lv_sub hl [0, 1, 2] rfl)
          · skip
            have kc22200041 : x22200035.toInt ≠ x22200039.toInt := ne_ti rfl rfl c22200041
            refine lv_lload hx hb dX11_floor_46 (lv_at hl 0 rfl) ?_
            refine lv_lconst (v := 1) hx hb dX11_floor_48 (by decide) ?_
            refine lv_lsub hx hb dX11_floor_49 ?_
            refine lv_topl (fun x22200042 ex22200042 => ?_)
            refine lv_goto (tgt := 55) hx hb dX11_floor_50 (by decide) ?_
            exact J22200032 x22200042 _ _ ls (hP.sub (ws' := []) [] rfl) (hD.sub (ws' := []) [] (by decide +kernel) rfl) hS (lv_sub hl [0, 1, 2] rfl)
        refine lv_if_ge (tgt := 42) hx hb dX11_floor_35 (by decide) (fun c22200038 => ?_) (fun c22200038 => ?_)
        · skip
          have kc22200038 : 0 ≤ x22200037.toInt := le_ti (by decide) rfl c22200038
          have qc22200038 : 0 ≤ p1.toInt := lc_ge ex22200037 rfl (by decide) kc22200038
          refine lv_iconst (v := 0) hx hb dX11_floor_42 (by decide) ?_
          exact J22200040 0 _ _ ls ⟨by decide, by decide⟩ (hP.sub (ws' := []) [] rfl) (hD.sub (ws' := []) [] (by decide +kernel) rfl) hS (lv_sub hl [0, 1, 2] rfl)
        · skip
          have kc22200038 : x22200037.toInt < 0 := nle_ti (by decide) rfl c22200038
          have qc22200038 : p1.toInt < 0 := lc_lt ex22200037 rfl (by decide) kc22200038
          have rg22200043 := i32_rng x22200037
          refine lv_iconst (v := 1) hx hb dX11_floor_38 (by decide) ?_
          refine lv_goto (tgt := 43) hx hb dX11_floor_39 (by decide) ?_
          exact J22200040 1 _ _ ls ⟨by decide, by decide⟩ (hP.sub (ws' := []) [] rfl) (hD.sub (ws' := []) [] (by decide +kernel) rfl) hS (lv_sub hl [0, 1, 2] rfl)
      refine lv_if_ge (tgt := 31) hx hb dX11_floor_24 (by decide) (fun c22200034 => ?_) (fun c22200034 => ?_)
      · skip
        have kc22200034 : 0 ≤ x22200033.toInt := le_ti (by decide) rfl c22200034
        have qc22200034 : 0 ≤ p0.toInt := lc_ge ex22200033 rfl (by decide) kc22200034
        refine lv_iconst (v := 0) hx hb dX11_floor_31 (by decide) ?_
        exact J22200036 0 _ _ ls ⟨by decide, by decide⟩ (hP.sub (ws' := []) [] rfl) (hD.sub (ws' := []) [] (by decide +kernel) rfl) hS (lv_sub hl [0, 1, 2] rfl)
      · skip
        have kc22200034 : x22200033.toInt < 0 := nle_ti (by decide) rfl c22200034
        have qc22200034 : p0.toInt < 0 := lc_lt ex22200033 rfl (by decide) kc22200034
        have rg22200044 := i32_rng x22200033
        refine lv_iconst (v := 1) hx hb dX11_floor_27 (by decide) ?_
        refine lv_goto (tgt := 32) hx hb dX11_floor_28 (by decide) ?_
        exact J22200036 1 _ _ ls ⟨by decide, by decide⟩ (hP.sub (ws' := []) [] rfl) (hD.sub (ws' := []) [] (by decide +kernel) rfl) hS (lv_sub hl [0, 1, 2] rfl)
  · skip
    have kc22200018 : x22200017.toInt = 0 := eq_ti rfl (by decide) c22200018
    have qc22200018 : p1.toInt = 0 := lc_eq ex22200017 rfl (by decide) kc22200018
    refine lv_lconst (v := 0) hx hb dX11_floor_6 (by decide) ?_
    exact r_lret () C0 hr hlocks hS (Nat.le_refl _) (Nat.le_refl _) dX11_floor_7 trivial (hP.sub (ws' := []) [] rfl) (hD.sub (ws' := []) [] (by decide +kernel) rfl)
set_option maxHeartbeats 4000000 in
set_option maxRecDepth 100000 in
theorem h_X11_above_22300009 (l : Launch) (D : va_G) (T : Nat → ClassId) (sq sv sz : Nat) (a : Nat) (z : Nat → Nat) (i1 i2 i3 i4 i5 i6 i7 i8 i30 i43 i45 i46 i47 i48 i49 i50 i51 i58 i59 i65 i68 i69 i72 i78 i80 i81 i82 i87 i92 i96 i100 i103 i104 : Int32) (p1 : Int32) (g74 : Nat → Int32) (g75 : Nat → Int32) (g76 : Nat → Int32) (hp1 : 0 ≤ p1.toInt ∧ p1.toInt ≤ 63) : Met l yX11_above (.code yX11_above cX11_above 2 (some .long) :: TB) { frames := 0, cells := 0, slots := 0, locals := 0 } (PC2 D T sq sv [.ref a, .int p1] [(a, .inr (11, OX z i1 i2 i3 i4 i5 i6 i7 i8 i30 i43 i45 i46 i47 i48 i49 i50 i51 i58 i59 i65 i68 i69 i72 i78 i80 i81 i82 i87 i92 i96 i100 i103 i104)), ((z 74), .inl (T 0, 64, .inl g74)), ((z 75), .inl (T 0, 64, .inl g75)), ((z 76), .inl (T 0, 64, .inl g76))] sz) (Ql (S := Unit) (fun (r : Int64) (_ : Unit) => True) (fun (_ : Unit) => [(a, .inr (11, OX z i1 i2 i3 i4 i5 i6 i7 i8 i30 i43 i45 i46 i47 i48 i49 i50 i51 i58 i59 i65 i68 i69 i72 i78 i80 i81 i82 i87 i92 i96 i100 i103 i104)), ((z 74), .inl (T 0, 64, .inl g74)), ((z 75), .inl (T 0, 64, .inl g75)), ((z 76), .inl (T 0, 64, .inl g76))]) D (va_A [(a, .inr (11, OX z i1 i2 i3 i4 i5 i6 i7 i8 i30 i43 i45 i46 i47 i48 i49 i50 i51 i58 i59 i65 i68 i69 i72 i78 i80 i81 i82 i87 i92 i96 i100 i103 i104)), ((z 74), .inl (T 0, 64, .inl g74)), ((z 75), .inl (T 0, 64, .inl g75)), ((z 76), .inl (T 0, 64, .inl g76))] sz)) 0 0 (va_A [(a, .inr (11, OX z i1 i2 i3 i4 i5 i6 i7 i8 i30 i43 i45 i46 i47 i48 i49 i50 i51 i58 i59 i65 i68 i69 i72 i78 i80 i81 i82 i87 i92 i96 i100 i103 i104)), ((z 74), .inl (T 0, 64, .inl g74)), ((z 75), .inl (T 0, 64, .inl g75)), ((z 76), .inl (T 0, 64, .inl g76))] sz) := by
  refine ct_begin2 (Qc := Ql (S := Unit) (fun (r : Int64) (_ : Unit) => True) (fun (_ : Unit) => [(a, .inr (11, OX z i1 i2 i3 i4 i5 i6 i7 i8 i30 i43 i45 i46 i47 i48 i49 i50 i51 i58 i59 i65 i68 i69 i72 i78 i80 i81 i82 i87 i92 i96 i100 i103 i104)), ((z 74), .inl (T 0, 64, .inl g74)), ((z 75), .inl (T 0, 64, .inl g75)), ((z 76), .inl (T 0, 64, .inl g76))]) D) (by decide +kernel) (Nat.le_of_ble_eq_true rfl) ?_
  intro p e s m below meth c A ls C0 hr hlocks hnm hE hStr hA hP hD hl
  generalize ([.ref a, .int p1] : List Value).toArray = args at C0 ⊢
  have hx := C0.1
  have hb := C0.2.1
  have hml := C0.2.2.1
  have hown := C0.2.2.2.1
  have hT := C0.2.2.2.2
  have hK := hE.1
  generalize hH : s.heap = H at hP ⊢
  have hS : va_S A s.heap H [] := by rw [← hH]; exact va_S.rf
  have hP : va_P D vwCl [(a, .inr (11, OX z i1 i2 i3 i4 i5 i6 i7 i8 i30 i43 i45 i46 i47 i48 i49 i50 i51 i58 i59 i65 i68 i69 i72 i78 i80 i81 i82 i87 i92 i96 i100 i103 i104)), ((z 74), .inl (T 0, 64, .inl g74)), ((z 75), .inl (T 0, 64, .inl g75)), ((z 76), .inl (T 0, 64, .inl g76))] H := hP
  have hD : va_D A [(a, .inr (11, OX z i1 i2 i3 i4 i5 i6 i7 i8 i30 i43 i45 i46 i47 i48 i49 i50 i51 i58 i59 i65 i68 i69 i72 i78 i80 i81 i82 i87 i92 i96 i100 i103 i104)), ((z 74), .inl (T 0, 64, .inl g74)), ((z 75), .inl (T 0, 64, .inl g75)), ((z 76), .inl (T 0, 64, .inl g76))] := hD
  have hl : lv_has ls 2 [(0, .ref a), (1, .int p1)] := hl
  refine lv_aload_n hx hb dX11_above_0 rfl (lv_at hl 0 rfl) ?_
  refine r_get (v := .ref (z 75)) C0 hE ffX11_75 mw_865 hP 0 rfl ox_75 dX11_above_1 ?_
  refine lv_iload_n hx hb dX11_above_4 rfl (lv_at hl 1 rfl) ?_
  refine va_iald hx hb hK hP 2 0 rfl rfl (in_ti rfl (by omega) (by omega)) dX11_above_5 ?_
  refine lv_topi (fun x22300010 ex22300010 => ?_)
  refine lv_i2l hx hb dX11_above_6 rfl ?_
  refine lv_topl (fun x22300011 ex22300011 => ?_)
  have hx22300011 : x22300011.toInt = x22300010.toInt := by rw [ex22300011]; exact Int32.toInt_toInt64 _
  refine lv_aload_n hx hb dX11_above_7 rfl (lv_at hl 0 rfl) ?_
  refine r_get (v := .ref (z 74)) C0 hE ffX11_74 mw_864 hP 0 rfl ox_74 dX11_above_8 ?_
  refine lv_iload_n hx hb dX11_above_11 rfl (lv_at hl 1 rfl) ?_
  refine va_iald hx hb hK hP 1 0 rfl rfl (in_ti rfl (by omega) (by omega)) dX11_above_12 ?_
  refine lv_topi (fun x22300012 ex22300012 => ?_)
  refine lv_i2l hx hb dX11_above_13 rfl ?_
  refine lv_topl (fun x22300013 ex22300013 => ?_)
  have hx22300013 : x22300013.toInt = x22300012.toInt := by rw [ex22300013]; exact Int32.toInt_toInt64 _
  refine lv_lmul hx hb dX11_above_14 ?_
  refine lv_topl (fun x22300014 ex22300014 => ?_)
  refine lv_aload_n hx hb dX11_above_15 rfl (lv_at hl 0 rfl) ?_
  refine r_get (v := .ref (z 76)) C0 hE ffX11_76 mw_866 hP 0 rfl ox_76 dX11_above_16 ?_
  refine lv_iload_n hx hb dX11_above_19 rfl (lv_at hl 1 rfl) ?_
  refine va_iald hx hb hK hP 3 0 rfl rfl (in_ti rfl (by omega) (by omega)) dX11_above_20 ?_
  refine lv_topi (fun x22300015 ex22300015 => ?_)
  refine lv_i2l hx hb dX11_above_21 rfl ?_
  refine lv_topl (fun x22300016 ex22300016 => ?_)
  have hx22300016 : x22300016.toInt = x22300015.toInt := by rw [ex22300016]; exact Int32.toInt_toInt64 _
  refine lv_ladd hx hb dX11_above_22 ?_
  refine lv_topl (fun x22300017 ex22300017 => ?_)
  exact r_lret () C0 hr hlocks hS (Nat.le_refl _) (Nat.le_refl _) dX11_above_23 trivial (hP.sub (ws' := [(a, .inr (11, OX z i1 i2 i3 i4 i5 i6 i7 i8 i30 i43 i45 i46 i47 i48 i49 i50 i51 i58 i59 i65 i68 i69 i72 i78 i80 i81 i82 i87 i92 i96 i100 i103 i104)), ((z 74), .inl (T 0, 64, .inl g74)), ((z 75), .inl (T 0, 64, .inl g75)), ((z 76), .inl (T 0, 64, .inl g76))]) [0, 1, 2, 3] rfl) (hD.sub (ws' := [(a, .inr (11, OX z i1 i2 i3 i4 i5 i6 i7 i8 i30 i43 i45 i46 i47 i48 i49 i50 i51 i58 i59 i65 i68 i69 i72 i78 i80 i81 i82 i87 i92 i96 i100 i103 i104)), ((z 74), .inl (T 0, 64, .inl g74)), ((z 75), .inl (T 0, 64, .inl g75)), ((z 76), .inl (T 0, 64, .inl g76))]) [0, 1, 2, 3] (by decide +kernel) rfl)
set_option maxHeartbeats 4000000 in
set_option maxRecDepth 100000 in
theorem h_X11_isBefore_22400012 (l : Launch) (D : va_G) (T : Nat → ClassId) (sq sv sz : Nat) (a : Nat) (z : Nat → Nat) (i1 i2 i3 i4 i5 i6 i7 i8 i30 i43 i45 i46 i47 i48 i49 i50 i51 i58 i59 i65 i68 i69 i72 i78 i80 i81 i82 i87 i92 i96 i100 i103 i104 : Int32) (p1 : Int32) (p2 : Int32) (g74 : Nat → Int32) (g75 : Nat → Int32) (g76 : Nat → Int32) (hp1 : 0 ≤ p1.toInt ∧ p1.toInt ≤ 63) (hp2 : 0 ≤ p2.toInt ∧ p2.toInt ≤ 63) : Met l yX11_isBefore (.code yX11_isBefore cX11_isBefore 3 (some .boolean) :: TB) { frames := 1, cells := 0, slots := 0, locals := 21 } (PC2 D T sq sv [.ref a, .int p1, .int p2] [(a, .inr (11, OX z i1 i2 i3 i4 i5 i6 i7 i8 i30 i43 i45 i46 i47 i48 i49 i50 i51 i58 i59 i65 i68 i69 i72 i78 i80 i81 i82 i87 i92 i96 i100 i103 i104)), ((z 74), .inl (T 0, 64, .inl g74)), ((z 75), .inl (T 0, 64, .inl g75)), ((z 76), .inl (T 0, 64, .inl g76))] sz) (Qi (S := Unit) (fun (r : Int32) (_ : Unit) => (0 ≤ r.toInt ∧ r.toInt ≤ 1)) (fun (_ : Unit) => [(a, .inr (11, OX z i1 i2 i3 i4 i5 i6 i7 i8 i30 i43 i45 i46 i47 i48 i49 i50 i51 i58 i59 i65 i68 i69 i72 i78 i80 i81 i82 i87 i92 i96 i100 i103 i104)), ((z 74), .inl (T 0, 64, .inl g74)), ((z 75), .inl (T 0, 64, .inl g75)), ((z 76), .inl (T 0, 64, .inl g76))]) D (va_A [(a, .inr (11, OX z i1 i2 i3 i4 i5 i6 i7 i8 i30 i43 i45 i46 i47 i48 i49 i50 i51 i58 i59 i65 i68 i69 i72 i78 i80 i81 i82 i87 i92 i96 i100 i103 i104)), ((z 74), .inl (T 0, 64, .inl g74)), ((z 75), .inl (T 0, 64, .inl g75)), ((z 76), .inl (T 0, 64, .inl g76))] sz)) 0 0 (va_A [(a, .inr (11, OX z i1 i2 i3 i4 i5 i6 i7 i8 i30 i43 i45 i46 i47 i48 i49 i50 i51 i58 i59 i65 i68 i69 i72 i78 i80 i81 i82 i87 i92 i96 i100 i103 i104)), ((z 74), .inl (T 0, 64, .inl g74)), ((z 75), .inl (T 0, 64, .inl g75)), ((z 76), .inl (T 0, 64, .inl g76))] sz) := by
  refine ct_begin2 (Qc := Qi (S := Unit) (fun (r : Int32) (_ : Unit) => (0 ≤ r.toInt ∧ r.toInt ≤ 1)) (fun (_ : Unit) => [(a, .inr (11, OX z i1 i2 i3 i4 i5 i6 i7 i8 i30 i43 i45 i46 i47 i48 i49 i50 i51 i58 i59 i65 i68 i69 i72 i78 i80 i81 i82 i87 i92 i96 i100 i103 i104)), ((z 74), .inl (T 0, 64, .inl g74)), ((z 75), .inl (T 0, 64, .inl g75)), ((z 76), .inl (T 0, 64, .inl g76))]) D) (by decide +kernel) (Nat.le_of_ble_eq_true rfl) ?_
  intro p e s m below meth c A ls C0 hr hlocks hnm hE hStr hA hP hD hl
  generalize ([.ref a, .int p1, .int p2] : List Value).toArray = args at C0 ⊢
  have hx := C0.1
  have hb := C0.2.1
  have hml := C0.2.2.1
  have hown := C0.2.2.2.1
  have hT := C0.2.2.2.2
  have hK := hE.1
  generalize hH : s.heap = H at hP ⊢
  have hS : va_S A s.heap H [] := by rw [← hH]; exact va_S.rf
  have hP : va_P D vwCl [(a, .inr (11, OX z i1 i2 i3 i4 i5 i6 i7 i8 i30 i43 i45 i46 i47 i48 i49 i50 i51 i58 i59 i65 i68 i69 i72 i78 i80 i81 i82 i87 i92 i96 i100 i103 i104)), ((z 74), .inl (T 0, 64, .inl g74)), ((z 75), .inl (T 0, 64, .inl g75)), ((z 76), .inl (T 0, 64, .inl g76))] H := hP
  have hD : va_D A [(a, .inr (11, OX z i1 i2 i3 i4 i5 i6 i7 i8 i30 i43 i45 i46 i47 i48 i49 i50 i51 i58 i59 i65 i68 i69 i72 i78 i80 i81 i82 i87 i92 i96 i100 i103 i104)), ((z 74), .inl (T 0, 64, .inl g74)), ((z 75), .inl (T 0, 64, .inl g75)), ((z 76), .inl (T 0, 64, .inl g76))] := hD
  have hl : lv_has ls 3 [(0, .ref a), (1, .int p1), (2, .int p2)] := hl
  refine lv_aload_n hx hb dX11_isBefore_0 rfl (lv_at hl 0 rfl) ?_
  refine lv_iload_n hx hb dX11_isBefore_1 rfl (lv_at hl 1 rfl) ?_
  refine r_calll (wr := []) (r_runV2 (As := [.int p1]) (rest := []) (wc := [(a, .inr (11, OX z i1 i2 i3 i4 i5 i6 i7 i8 i30 i43 i45 i46 i47 i48 i49 i50 i51 i58 i59 i65 i68 i69 i72 i78 i80 i81 i82 i87 i92 i96 i100 i103 i104)), ((z 74), .inl (T 0, 64, .inl g74)), ((z 75), .inl (T 0, 64, .inl g75)), ((z 76), .inl (T 0, 64, .inl g76))]) (ci := 11) C0 hE hStr hS (va_free (wc := [(a, .inr (11, OX z i1 i2 i3 i4 i5 i6 i7 i8 i30 i43 i45 i46 i47 i48 i49 i50 i51 i58 i59 i65 i68 i69 i72 i78 i80 i81 i82 i87 i92 i96 i100 i103 i104)), ((z 74), .inl (T 0, 64, .inl g74)), ((z 75), .inl (T 0, 64, .inl g75)), ((z 76), .inl (T 0, 64, .inl g76))]) hD hS hA [0, 1, 2, 3] rfl) (h_X11_above_22300009 l D T sq sv H.size a z i1 i2 i3 i4 i5 i6 i7 i8 i30 i43 i45 i46 i47 i48 i49 i50 i51 i58 i59 i65 i68 i69 i72 i78 i80 i81 i82 i87 i92 i96 i100 i103 i104 p1 g74 g75 g76 ⟨by omega, by omega⟩) mw_1121 mw_1122 mw_1345 mw_14 mw_1123 dn_1775 rfl rfl ⟨Nat.le_of_ble_eq_true rfl, Nat.le_of_ble_eq_true rfl⟩ (hP.sub (ws' := [(a, .inr (11, OX z i1 i2 i3 i4 i5 i6 i7 i8 i30 i43 i45 i46 i47 i48 i49 i50 i51 i58 i59 i65 i68 i69 i72 i78 i80 i81 i82 i87 i92 i96 i100 i103 i104)), ((z 74), .inl (T 0, 64, .inl g74)), ((z 75), .inl (T 0, 64, .inl g75)), ((z 76), .inl (T 0, 64, .inl g76))]) [0, 1, 2, 3] rfl) (hD.sub (ws' := [(a, .inr (11, OX z i1 i2 i3 i4 i5 i6 i7 i8 i30 i43 i45 i46 i47 i48 i49 i50 i51 i58 i59 i65 i68 i69 i72 i78 i80 i81 i82 i87 i92 i96 i100 i103 i104)), ((z 74), .inl (T 0, 64, .inl g74)), ((z 75), .inl (T 0, 64, .inl g75)), ((z 76), .inl (T 0, 64, .inl g76))]) [0, 1, 2, 3] (by decide +kernel) rfl) rfl rfl rfl hl.1 rfl (Nat.le_of_ble_eq_true rfl) dX11_isBefore_2 ⟨Nat.le_of_ble_eq_true rfl, Nat.le_of_ble_eq_true rfl⟩) hP hD hS hA [0, 1, 2, 3] [] rfl rfl (by decide +kernel) (by decide +kernel) (fun x22400013 u H locs hq hP hD hS => ?_)
  have hP : va_P D vwCl [(a, .inr (11, OX z i1 i2 i3 i4 i5 i6 i7 i8 i30 i43 i45 i46 i47 i48 i49 i50 i51 i58 i59 i65 i68 i69 i72 i78 i80 i81 i82 i87 i92 i96 i100 i103 i104)), ((z 74), .inl (T 0, 64, .inl g74)), ((z 75), .inl (T 0, 64, .inl g75)), ((z 76), .inl (T 0, 64, .inl g76))] H := hP
  have hD : va_D A [(a, .inr (11, OX z i1 i2 i3 i4 i5 i6 i7 i8 i30 i43 i45 i46 i47 i48 i49 i50 i51 i58 i59 i65 i68 i69 i72 i78 i80 i81 i82 i87 i92 i96 i100 i103 i104)), ((z 74), .inl (T 0, 64, .inl g74)), ((z 75), .inl (T 0, 64, .inl g75)), ((z 76), .inl (T 0, 64, .inl g76))] := hD
  refine W.widen (k := 0) (n := 0) (Nat.le_refl _) (Nat.le_refl _) ?_
  refine lv_aload_n hx hb dX11_isBefore_5 rfl (lv_at hl 0 rfl) ?_
  refine r_get (v := .ref (z 74)) C0 hE ffX11_74 mw_864 hP 0 rfl ox_74 dX11_isBefore_6 ?_
  refine lv_iload_n hx hb dX11_isBefore_9 rfl (lv_at hl 2 rfl) ?_
  refine va_iald hx hb hK hP 1 0 rfl rfl (in_ti rfl (by omega) (by omega)) dX11_isBefore_10 ?_
  refine lv_topi (fun x22400014 ex22400014 => ?_)
  refine lv_i2l hx hb dX11_isBefore_11 rfl ?_
  refine lv_topl (fun x22400015 ex22400015 => ?_)
  have hx22400015 : x22400015.toInt = x22400014.toInt := by rw [ex22400015]; exact Int32.toInt_toInt64 _
  refine lv_lmul hx hb dX11_isBefore_12 ?_
  refine lv_topl (fun x22400016 ex22400016 => ?_)
  refine lv_aload_n hx hb dX11_isBefore_13 rfl (lv_at hl 0 rfl) ?_
  refine lv_iload_n hx hb dX11_isBefore_14 rfl (lv_at hl 2 rfl) ?_
  refine r_calll (wr := []) (r_runV2 (As := [.int p2]) (rest := [.long x22400016]) (wc := [(a, .inr (11, OX z i1 i2 i3 i4 i5 i6 i7 i8 i30 i43 i45 i46 i47 i48 i49 i50 i51 i58 i59 i65 i68 i69 i72 i78 i80 i81 i82 i87 i92 i96 i100 i103 i104)), ((z 74), .inl (T 0, 64, .inl g74)), ((z 75), .inl (T 0, 64, .inl g75)), ((z 76), .inl (T 0, 64, .inl g76))]) (ci := 11) C0 hE hStr hS (va_free (wc := [(a, .inr (11, OX z i1 i2 i3 i4 i5 i6 i7 i8 i30 i43 i45 i46 i47 i48 i49 i50 i51 i58 i59 i65 i68 i69 i72 i78 i80 i81 i82 i87 i92 i96 i100 i103 i104)), ((z 74), .inl (T 0, 64, .inl g74)), ((z 75), .inl (T 0, 64, .inl g75)), ((z 76), .inl (T 0, 64, .inl g76))]) hD hS hA [0, 1, 2, 3] rfl) (h_X11_above_22300009 l D T sq sv H.size a z i1 i2 i3 i4 i5 i6 i7 i8 i30 i43 i45 i46 i47 i48 i49 i50 i51 i58 i59 i65 i68 i69 i72 i78 i80 i81 i82 i87 i92 i96 i100 i103 i104 p2 g74 g75 g76 ⟨by omega, by omega⟩) mw_1121 mw_1122 mw_1345 mw_14 mw_1123 dn_1775 rfl rfl ⟨Nat.le_of_ble_eq_true rfl, Nat.le_of_ble_eq_true rfl⟩ (hP.sub (ws' := [(a, .inr (11, OX z i1 i2 i3 i4 i5 i6 i7 i8 i30 i43 i45 i46 i47 i48 i49 i50 i51 i58 i59 i65 i68 i69 i72 i78 i80 i81 i82 i87 i92 i96 i100 i103 i104)), ((z 74), .inl (T 0, 64, .inl g74)), ((z 75), .inl (T 0, 64, .inl g75)), ((z 76), .inl (T 0, 64, .inl g76))]) [0, 1, 2, 3] rfl) (hD.sub (ws' := [(a, .inr (11, OX z i1 i2 i3 i4 i5 i6 i7 i8 i30 i43 i45 i46 i47 i48 i49 i50 i51 i58 i59 i65 i68 i69 i72 i78 i80 i81 i82 i87 i92 i96 i100 i103 i104)), ((z 74), .inl (T 0, 64, .inl g74)), ((z 75), .inl (T 0, 64, .inl g75)), ((z 76), .inl (T 0, 64, .inl g76))]) [0, 1, 2, 3] (by decide +kernel) rfl) rfl rfl rfl hl.1 rfl (Nat.le_of_ble_eq_true rfl) dX11_isBefore_15 ⟨Nat.le_of_ble_eq_true rfl, Nat.le_of_ble_eq_true rfl⟩) hP hD hS hA [0, 1, 2, 3] [] rfl rfl (by decide +kernel) (by decide +kernel) (fun x22400017 u H locs hq hP hD hS => ?_)
  have hP : va_P D vwCl [(a, .inr (11, OX z i1 i2 i3 i4 i5 i6 i7 i8 i30 i43 i45 i46 i47 i48 i49 i50 i51 i58 i59 i65 i68 i69 i72 i78 i80 i81 i82 i87 i92 i96 i100 i103 i104)), ((z 74), .inl (T 0, 64, .inl g74)), ((z 75), .inl (T 0, 64, .inl g75)), ((z 76), .inl (T 0, 64, .inl g76))] H := hP
  have hD : va_D A [(a, .inr (11, OX z i1 i2 i3 i4 i5 i6 i7 i8 i30 i43 i45 i46 i47 i48 i49 i50 i51 i58 i59 i65 i68 i69 i72 i78 i80 i81 i82 i87 i92 i96 i100 i103 i104)), ((z 74), .inl (T 0, 64, .inl g74)), ((z 75), .inl (T 0, 64, .inl g75)), ((z 76), .inl (T 0, 64, .inl g76))] := hD
  refine W.widen (k := 0) (n := 0) (Nat.le_refl _) (Nat.le_refl _) ?_
  refine lv_aload_n hx hb dX11_isBefore_18 rfl (lv_at hl 0 rfl) ?_
  refine r_get (v := .ref (z 74)) C0 hE ffX11_74 mw_864 hP 0 rfl ox_74 dX11_isBefore_19 ?_
  refine lv_iload_n hx hb dX11_isBefore_22 rfl (lv_at hl 1 rfl) ?_
  refine va_iald hx hb hK hP 1 0 rfl rfl (in_ti rfl (by omega) (by omega)) dX11_isBefore_23 ?_
  refine lv_topi (fun x22400018 ex22400018 => ?_)
  refine lv_i2l hx hb dX11_isBefore_24 rfl ?_
  refine lv_topl (fun x22400019 ex22400019 => ?_)
  have hx22400019 : x22400019.toInt = x22400018.toInt := by rw [ex22400019]; exact Int32.toInt_toInt64 _
  refine lv_lmul hx hb dX11_isBefore_25 ?_
  refine lv_topl (fun x22400020 ex22400020 => ?_)
  refine W.lcmp hx hb dX11_isBefore_26 ?_
  refine lv_topi (fun x22400021 ex22400021 => ?_)
  have J22400024 : ∀ (x22400023 : Int32) (H : Heap) (locs : List Loc) (ls : Array Slot), (0 ≤ x22400023.toInt ∧ x22400023.toInt ≤ 1) → va_P D vwCl [(a, .inr (11, OX z i1 i2 i3 i4 i5 i6 i7 i8 i30 i43 i45 i46 i47 i48 i49 i50 i51 i58 i59 i65 i68 i69 i72 i78 i80 i81 i82 i87 i92 i96 i100 i103 i104)), ((z 74), .inl (T 0, 64, .inl g74)), ((z 75), .inl (T 0, 64, .inl g75)), ((z 76), .inl (T 0, 64, .inl g76))] H → va_D A [(a, .inr (11, OX z i1 i2 i3 i4 i5 i6 i7 i8 i30 i43 i45 i46 i47 i48 i49 i50 i51 i58 i59 i65 i68 i69 i72 i78 i80 i81 i82 i87 i92 i96 i100 i103 i104)), ((z 74), .inl (T 0, 64, .inl g74)), ((z 75), .inl (T 0, 64, .inl g75)), ((z 76), .inl (T 0, 64, .inl g76))] → va_S A s.heap H locs → lv_has ls 3 [(0, .ref a), (1, .int p1), (2, .int p2)] → W p l e { frames := 1, cells := 0, slots := 0, locals := 21 } s m args below meth c H locs 0 0 (MQ below ((Qi (S := Unit) (fun (r : Int32) (_ : Unit) => (0 ≤ r.toInt ∧ r.toInt ≤ 1)) (fun (_ : Unit) => [(a, .inr (11, OX z i1 i2 i3 i4 i5 i6 i7 i8 i30 i43 i45 i46 i47 i48 i49 i50 i51 i58 i59 i65 i68 i69 i72 i78 i80 i81 i82 i87 i92 i96 i100 i103 i104)), ((z 74), .inl (T 0, 64, .inl g74)), ((z 75), .inl (T 0, 64, .inl g75)), ((z 76), .inl (T 0, 64, .inl g76))]) D) A) args s 0 0 A) (F0 m 35 ls [.int x22400023]) := by
    intro x22400023 H locs ls hx22400023 hP hD hS hl
    exact r_zret () C0 hr (bool_nar ⟨by omega, by omega⟩) hlocks hS (Nat.le_refl _) (Nat.le_refl _) dX11_isBefore_35 ⟨by omega, by omega⟩ (hP.sub (ws' := [(a, .inr (11, OX z i1 i2 i3 i4 i5 i6 i7 i8 i30 i43 i45 i46 i47 i48 i49 i50 i51 i58 i59 i65 i68 i69 i72 i78 i80 i81 i82 i87 i92 i96 i100 i103 i104)), ((z 74), .inl (T 0, 64, .inl g74)), ((z 75), .inl (T 0, 64, .inl g75)), ((z 76), .inl (T 0, 64, .inl g76))]) [0, 1, 2, 3] rfl) (hD.sub (ws' := [(a, .inr (11, OX z i1 i2 i3 i4 i5 i6 i7 i8 i30 i43 i45 i46 i47 i48 i49 i50 i51 i58 i59 i65 i68 i69 i72 i78 i80 i81 i82 i87 i92 i96 i100 i103 i104)), ((z 74), .inl (T 0, 64, .inl g74)), ((z 75), .inl (T 0, 64, .inl g75)), ((z 76), .inl (T 0, 64, .inl g76))]) [0, 1, 2, 3] (by decide +kernel) rfl)
  refine lv_if_ge (tgt := 34) hx hb dX11_isBefore_27 (by decide) (fun c22400022 => ?_) (fun c22400022 => ?_)
  · skip
    have kc22400022 : 0 ≤ x22400021.toInt := le_ti (by decide) rfl c22400022
    have qc22400022 : x22400020.toInt ≤ x22400016.toInt := lc_ge ex22400021 rfl rfl kc22400022
    refine lv_iconst (v := 0) hx hb dX11_isBefore_34 (by decide) ?_
    exact J22400024 0 _ _ ls ⟨by decide, by decide⟩ (hP.sub (ws' := [(a, .inr (11, OX z i1 i2 i3 i4 i5 i6 i7 i8 i30 i43 i45 i46 i47 i48 i49 i50 i51 i58 i59 i65 i68 i69 i72 i78 i80 i81 i82 i87 i92 i96 i100 i103 i104)), ((z 74), .inl (T 0, 64, .inl g74)), ((z 75), .inl (T 0, 64, .inl g75)), ((z 76), .inl (T 0, 64, .inl g76))]) [0, 1, 2, 3] rfl) (hD.sub (ws' := [(a, .inr (11, OX z i1 i2 i3 i4 i5 i6 i7 i8 i30 i43 i45 i46 i47 i48 i49 i50 i51 i58 i59 i65 i68 i69 i72 i78 i80 i81 i82 i87 i92 i96 i100 i103 i104)), ((z 74), .inl (T 0, 64, .inl g74)), ((z 75), .inl (T 0, 64, .inl g75)), ((z 76), .inl (T 0, 64, .inl g76))]) [0, 1, 2, 3] (by decide +kernel) rfl) hS (lv_sub hl [0, 1, 2] rfl)
  · skip
    have kc22400022 : x22400021.toInt < 0 := nle_ti (by decide) rfl c22400022
    have qc22400022 : x22400016.toInt < x22400020.toInt := lc_lt ex22400021 rfl rfl kc22400022
    have rg22400025 := i32_rng x22400021
    refine lv_iconst (v := 1) hx hb dX11_isBefore_30 (by decide) ?_
    refine lv_goto (tgt := 35) hx hb dX11_isBefore_31 (by decide) ?_
    exact J22400024 1 _ _ ls ⟨by decide, by decide⟩ (hP.sub (ws' := [(a, .inr (11, OX z i1 i2 i3 i4 i5 i6 i7 i8 i30 i43 i45 i46 i47 i48 i49 i50 i51 i58 i59 i65 i68 i69 i72 i78 i80 i81 i82 i87 i92 i96 i100 i103 i104)), ((z 74), .inl (T 0, 64, .inl g74)), ((z 75), .inl (T 0, 64, .inl g75)), ((z 76), .inl (T 0, 64, .inl g76))]) [0, 1, 2, 3] rfl) (hD.sub (ws' := [(a, .inr (11, OX z i1 i2 i3 i4 i5 i6 i7 i8 i30 i43 i45 i46 i47 i48 i49 i50 i51 i58 i59 i65 i68 i69 i72 i78 i80 i81 i82 i87 i92 i96 i100 i103 i104)), ((z 74), .inl (T 0, 64, .inl g74)), ((z 75), .inl (T 0, 64, .inl g75)), ((z 76), .inl (T 0, 64, .inl g76))]) [0, 1, 2, 3] (by decide +kernel) rfl) hS (lv_sub hl [0, 1, 2] rfl)
