set_option maxHeartbeats 4000000 in
set_option maxRecDepth 100000 in
theorem h_X11_greatest_23500372 (l : Launch) (D : va_G) (T : Nat → ClassId) (sq sv sz : Nat) (a : Nat) (z : Nat → Nat) (i1 i2 i3 i4 i5 i6 i7 i8 i30 i43 i45 i46 i47 i48 i49 i50 i51 i58 i59 i65 i68 i69 i72 i78 i80 i81 i82 i87 i92 i96 i100 i103 i104 : Int32) (g89 : Nat → Int64) (g90 : Nat → Int32) (hi87 : -1 ≤ i87.toInt ∧ i87.toInt ≤ 64) (hPT : PS i87.toInt g90) : Met l yX11_greatest (.code yX11_greatest cX11_greatest 4 (some .long) :: TB) { frames := 0, cells := 0, slots := 0, locals := 0 } (PC2 D T sq sv [.ref a] [(a, .inr (11, OX z i1 i2 i3 i4 i5 i6 i7 i8 i30 i43 i45 i46 i47 i48 i49 i50 i51 i58 i59 i65 i68 i69 i72 i78 i80 i81 i82 i87 i92 i96 i100 i103 i104)), ((z 89), .inl (T 1, 64, .inr (.inl g89))), ((z 90), .inl (T 0, 64, .inl g90))] sz) (Ql (S := Unit) (fun (r : Int64) (_ : Unit) => True) (fun (_ : Unit) => [(a, .inr (11, OX z i1 i2 i3 i4 i5 i6 i7 i8 i30 i43 i45 i46 i47 i48 i49 i50 i51 i58 i59 i65 i68 i69 i72 i78 i80 i81 i82 i87 i92 i96 i100 i103 i104)), ((z 89), .inl (T 1, 64, .inr (.inl g89))), ((z 90), .inl (T 0, 64, .inl g90))]) D (va_A [(a, .inr (11, OX z i1 i2 i3 i4 i5 i6 i7 i8 i30 i43 i45 i46 i47 i48 i49 i50 i51 i58 i59 i65 i68 i69 i72 i78 i80 i81 i82 i87 i92 i96 i100 i103 i104)), ((z 89), .inl (T 1, 64, .inr (.inl g89))), ((z 90), .inl (T 0, 64, .inl g90))] sz)) 0 0 (va_A [(a, .inr (11, OX z i1 i2 i3 i4 i5 i6 i7 i8 i30 i43 i45 i46 i47 i48 i49 i50 i51 i58 i59 i65 i68 i69 i72 i78 i80 i81 i82 i87 i92 i96 i100 i103 i104)), ((z 89), .inl (T 1, 64, .inr (.inl g89))), ((z 90), .inl (T 0, 64, .inl g90))] sz) := by
  refine ct_begin2 (Qc := Ql (S := Unit) (fun (r : Int64) (_ : Unit) => True) (fun (_ : Unit) => [(a, .inr (11, OX z i1 i2 i3 i4 i5 i6 i7 i8 i30 i43 i45 i46 i47 i48 i49 i50 i51 i58 i59 i65 i68 i69 i72 i78 i80 i81 i82 i87 i92 i96 i100 i103 i104)), ((z 89), .inl (T 1, 64, .inr (.inl g89))), ((z 90), .inl (T 0, 64, .inl g90))]) D) (by decide +kernel) (Nat.le_of_ble_eq_true rfl) ?_
  intro p e s m below meth c A ls C0 hr hlocks hnm hE hStr hA hP hD hl
  generalize ([.ref a] : List Value).toArray = args at C0 ⊢
  have hx := C0.1
  have hb := C0.2.1
  have hml := C0.2.2.1
  have hown := C0.2.2.2.1
  have hT := C0.2.2.2.2
  have hK := hE.1
  generalize hH : s.heap = H at hP ⊢
  have hS : va_S A s.heap H [] := by rw [← hH]; exact va_S.rf
  have hP : va_P D vwCl [(a, .inr (11, OX z i1 i2 i3 i4 i5 i6 i7 i8 i30 i43 i45 i46 i47 i48 i49 i50 i51 i58 i59 i65 i68 i69 i72 i78 i80 i81 i82 i87 i92 i96 i100 i103 i104)), ((z 89), .inl (T 1, 64, .inr (.inl g89))), ((z 90), .inl (T 0, 64, .inl g90))] H := hP
  have hD : va_D A [(a, .inr (11, OX z i1 i2 i3 i4 i5 i6 i7 i8 i30 i43 i45 i46 i47 i48 i49 i50 i51 i58 i59 i65 i68 i69 i72 i78 i80 i81 i82 i87 i92 i96 i100 i103 i104)), ((z 89), .inl (T 1, 64, .inr (.inl g89))), ((z 90), .inl (T 0, 64, .inl g90))] := hD
  have hl : lv_has ls 4 [(0, .ref a)] := hl
  refine lv_aload_n hx hb dX11_greatest_0 rfl (lv_at hl 0 rfl) ?_
  refine r_get (v := .int i87) C0 hE ffX11_87 mw_877 hP 0 rfl ox_87 dX11_greatest_1 ?_
  refine lv_iconst (v := (-1)) hx hb dX11_greatest_4 (by decide) ?_
  refine lv_icmp_ne (tgt := 12) hx hb dX11_greatest_5 (by decide) (fun c23500373 => ?_) (fun c23500373 => ?_)
  · skip
    have kc23500373 : i87.toInt ≠ (-1) := ne_ti rfl (by decide) c23500373
    refine lv_lconst (v := 0) hx hb dX11_greatest_12 (by decide) ?_
    refine lv_lstore_n (lv' := [(1, .long 0), (0, .ref a)]) hx hb dX11_greatest_13 rfl hl (by decide) rfl (fun ls hl => ?_)
    refine lv_iconst (v := 0) hx hb dX11_greatest_14 (by decide) ?_
    refine lv_istore_n (lv' := [(3, .int 0), (1, .long 0), (0, .ref a)]) hx hb dX11_greatest_15 rfl hl (by decide) rfl (fun ls hl => ?_)
    have L23500731 : ∀ (n : Nat) (x23500716 : Int32) (x23500717 : Int64) (H : Heap) (locs : List Loc) (ls : Array Slot), (0 ≤ x23500716.toInt ∧ x23500716.toInt ≤ 64) → (65 - x23500716.toInt).toNat < n → va_P D vwCl [(a, .inr (11, OX z i1 i2 i3 i4 i5 i6 i7 i8 i30 i43 i45 i46 i47 i48 i49 i50 i51 i58 i59 i65 i68 i69 i72 i78 i80 i81 i82 i87 i92 i96 i100 i103 i104)), ((z 89), .inl (T 1, 64, .inr (.inl g89))), ((z 90), .inl (T 0, 64, .inl g90))] H → va_D A [(a, .inr (11, OX z i1 i2 i3 i4 i5 i6 i7 i8 i30 i43 i45 i46 i47 i48 i49 i50 i51 i58 i59 i65 i68 i69 i72 i78 i80 i81 i82 i87 i92 i96 i100 i103 i104)), ((z 89), .inl (T 1, 64, .inr (.inl g89))), ((z 90), .inl (T 0, 64, .inl g90))] → va_S A s.heap H locs → lv_has ls 4 [(3, .int x23500716), (1, .long x23500717), (0, .ref a)] → W p l e { frames := 0, cells := 0, slots := 0, locals := 0 } s m args below meth c H locs 0 0 (MQ below ((Ql (S := Unit) (fun (r : Int64) (_ : Unit) => True) (fun (_ : Unit) => [(a, .inr (11, OX z i1 i2 i3 i4 i5 i6 i7 i8 i30 i43 i45 i46 i47 i48 i49 i50 i51 i58 i59 i65 i68 i69 i72 i78 i80 i81 i82 i87 i92 i96 i100 i103 i104)), ((z 89), .inl (T 1, 64, .inr (.inl g89))), ((z 90), .inl (T 0, 64, .inl g90))]) D) A) args s 0 0 A) (F0 m 16 ls []) := by
      intro n
      induction n with
      | zero =>
        intro x23500716 x23500717 H locs ls hx23500716 hms hP hD hS hl
        exact absurd hms (Nat.not_lt_zero _)
      | succ n ih23500732 =>
        intro x23500716 x23500717 H locs ls hx23500716 hms hP hD hS hl
        refine lv_iload_n hx hb dX11_greatest_16 rfl (lv_at hl 0 rfl) ?_
        refine lv_aload_n hx hb dX11_greatest_17 rfl (lv_at hl 2 rfl) ?_
        refine r_get (v := .int i87) C0 hE ffX11_87 mw_877 hP 0 rfl ox_87 dX11_greatest_18 ?_
        refine lv_icmp_ge (tgt := 64) hx hb dX11_greatest_21 (by decide) (fun c23500733 => ?_) (fun c23500733 => ?_)
        · skip
          have kc23500733 : i87.toInt ≤ x23500716.toInt := le_ti rfl rfl c23500733
          refine lv_lload_n hx hb dX11_greatest_64 rfl (lv_at hl 1 rfl) ?_
          exact r_lret () C0 hr hlocks hS (Nat.le_refl _) (Nat.le_refl _) dX11_greatest_65 trivial (hP.sub (ws' := [(a, .inr (11, OX z i1 i2 i3 i4 i5 i6 i7 i8 i30 i43 i45 i46 i47 i48 i49 i50 i51 i58 i59 i65 i68 i69 i72 i78 i80 i81 i82 i87 i92 i96 i100 i103 i104)), ((z 89), .inl (T 1, 64, .inr (.inl g89))), ((z 90), .inl (T 0, 64, .inl g90))]) [0, 1, 2] rfl) (hD.sub (ws' := [(a, .inr (11, OX z i1 i2 i3 i4 i5 i6 i7 i8 i30 i43 i45 i46 i47 i48 i49 i50 i51 i58 i59 i65 i68 i69 i72 i78 i80 i81 i82 i87 i92 i96 i100 i103 i104)), ((z 89), .inl (T 1, 64, .inr (.inl g89))), ((z 90), .inl (T 0, 64, .inl g90))]) [0, 1, 2] (by decide +kernel) rfl)
        · skip
          have kc23500733 : x23500716.toInt < i87.toInt := nle_ti rfl rfl c23500733
          refine lv_aload_n hx hb dX11_greatest_24 rfl (lv_at hl 2 rfl) ?_
          refine r_get (v := .ref (z 89)) C0 hE ffX11_89 mw_879 hP 0 rfl ox_89 dX11_greatest_25 ?_
          refine lv_iload_n hx hb dX11_greatest_28 rfl (lv_at hl 0 rfl) ?_
          refine va_lald hx hb hK hP 1 1 rfl rfl (in_ti rfl (by omega) (by omega)) dX11_greatest_29 ?_
          refine lv_topl (fun x23500746 ex23500746 => ?_)
          refine lv_aload_n hx hb dX11_greatest_30 rfl (lv_at hl 2 rfl) ?_
          refine r_get (v := .ref (z 90)) C0 hE ffX11_90 mw_880 hP 0 rfl ox_90 dX11_greatest_31 ?_
          refine lv_iload_n hx hb dX11_greatest_34 rfl (lv_at hl 0 rfl) ?_
          refine va_iald hx hb hK hP 2 0 rfl rfl (in_ti rfl (by omega) (by omega)) dX11_greatest_35 ?_
          refine lv_topi (fun x23500747 ex23500747 => ?_)
          have hyx23500747 : 1 ≤ x23500747.toInt := PS.at hPT ex23500747 (by omega) (by omega)
          refine lv_i2l hx hb dX11_greatest_36 rfl ?_
          refine lv_topl (fun x23500748 ex23500748 => ?_)
          have hx23500748 : x23500748.toInt = x23500747.toInt := by rw [ex23500748]; exact Int32.toInt_toInt64 _
          refine lv_ldiv hx hb dX11_greatest_37 (by rw [ex23500748]; exact nz_l rfl (by omega)) ?_
          refine lv_topl (fun x23500749 ex23500749 => ?_)
          refine lv_lload_n hx hb dX11_greatest_38 rfl (lv_at hl 1 rfl) ?_
          refine W.lcmp hx hb dX11_greatest_39 ?_
          refine lv_topi (fun x23500750 ex23500750 => ?_)
          have J23500757 : ∀ (x23500756 : Int64) (H : Heap) (locs : List Loc) (ls : Array Slot), va_P D vwCl [(a, .inr (11, OX z i1 i2 i3 i4 i5 i6 i7 i8 i30 i43 i45 i46 i47 i48 i49 i50 i51 i58 i59 i65 i68 i69 i72 i78 i80 i81 i82 i87 i92 i96 i100 i103 i104)), ((z 89), .inl (T 1, 64, .inr (.inl g89))), ((z 90), .inl (T 0, 64, .inl g90))] H → va_D A [(a, .inr (11, OX z i1 i2 i3 i4 i5 i6 i7 i8 i30 i43 i45 i46 i47 i48 i49 i50 i51 i58 i59 i65 i68 i69 i72 i78 i80 i81 i82 i87 i92 i96 i100 i103 i104)), ((z 89), .inl (T 1, 64, .inr (.inl g89))), ((z 90), .inl (T 0, 64, .inl g90))] → va_S A s.heap H locs → lv_has ls 4 [(3, .int x23500716), (1, .long x23500756), (0, .ref a)] → W p l e { frames := 0, cells := 0, slots := 0, locals := 0 } s m args below meth c H locs 0 0 (MQ below ((Ql (S := Unit) (fun (r : Int64) (_ : Unit) => True) (fun (_ : Unit) => [(a, .inr (11, OX z i1 i2 i3 i4 i5 i6 i7 i8 i30 i43 i45 i46 i47 i48 i49 i50 i51 i58 i59 i65 i68 i69 i72 i78 i80 i81 i82 i87 i92 i96 i100 i103 i104)), ((z 89), .inl (T 1, 64, .inr (.inl g89))), ((z 90), .inl (T 0, 64, .inl g90))]) D) A) args s 0 0 A) (F0 m 58 ls []) := by
            intro x23500756 H locs ls hP hD hS hl
            obtain ⟨x23500758, ex23500758⟩ : ∃ y : Int32, y = x23500716 + 1 := ⟨_, rfl⟩
            have hx23500758 : x23500758.toInt = x23500716.toInt + 1 := ti_add ex23500758 rfl (by decide) (by omega) (by omega)
            refine lv_iinc (v := x23500758) (lv' := [(3, .int x23500758), (1, .long x23500756), (0, .ref a)]) hx hb dX11_greatest_58 hl (k := 0) rfl (by rw [ex23500758]; rfl) (by decide) rfl (fun ls hl => ?_)
            refine lv_goto (tgt := 16) hx hb dX11_greatest_61 (by decide) ?_
            exact ih23500732 x23500758 x23500756 _ _ ls ⟨by omega, by omega⟩ (by omega) (hP.sub (ws' := [(a, .inr (11, OX z i1 i2 i3 i4 i5 i6 i7 i8 i30 i43 i45 i46 i47 i48 i49 i50 i51 i58 i59 i65 i68 i69 i72 i78 i80 i81 i82 i87 i92 i96 i100 i103 i104)), ((z 89), .inl (T 1, 64, .inr (.inl g89))), ((z 90), .inl (T 0, 64, .inl g90))]) [0, 1, 2] rfl) (hD.sub (ws' := [(a, .inr (11, OX z i1 i2 i3 i4 i5 i6 i7 i8 i30 i43 i45 i46 i47 i48 i49 i50 i51 i58 i59 i65 i68 i69 i72 i78 i80 i81 i82 i87 i92 i96 i100 i103 i104)), ((z 89), .inl (T 1, 64, .inr (.inl g89))), ((z 90), .inl (T 0, 64, .inl g90))]) [0, 1, 2] (by decide +kernel) rfl) hS (lv_sub hl [0, 1, 2] rfl)
          refine lv_if_le (tgt := 58) hx hb dX11_greatest_40 (by decide) (fun c23500751 => ?_) (fun c23500751 => ?_)
          · skip
            have kc23500751 : x23500750.toInt ≤ 0 := le_ti rfl (by decide) c23500751
            have qc23500751 : x23500749.toInt ≤ x23500717.toInt := lc_le ex23500750 rfl rfl kc23500751
            exact J23500757 x23500717 _ _ ls (hP.sub (ws' := [(a, .inr (11, OX z i1 i2 i3 i4 i5 i6 i7 i8 i30 i43 i45 i46 i47 i48 i49 i50 i51 i58 i59 i65 i68 i69 i72 i78 i80 i81 i82 i87 i92 i96 i100 i103 i104)), ((z 89), .inl (T 1, 64, .inr (.inl g89))), ((z 90), .inl (T 0, 64, .inl g90))]) [0, 1, 2] rfl) (hD.sub (ws' := [(a, .inr (11, OX z i1 i2 i3 i4 i5 i6 i7 i8 i30 i43 i45 i46 i47 i48 i49 i50 i51 i58 i59 i65 i68 i69 i72 i78 i80 i81 i82 i87 i92 i96 i100 i103 i104)), ((z 89), .inl (T 1, 64, .inr (.inl g89))), ((z 90), .inl (T 0, 64, .inl g90))]) [0, 1, 2] (by decide +kernel) rfl) hS (lv_sub hl [0, 1, 2] rfl)
          · skip
            have kc23500751 : 0 < x23500750.toInt := nle_ti rfl (by decide) c23500751
            have qc23500751 : x23500717.toInt < x23500749.toInt := lc_gt ex23500750 rfl rfl kc23500751
            have rg23500759 := i32_rng x23500750
            refine lv_aload_n hx hb dX11_greatest_43 rfl (lv_at hl 2 rfl) ?_
            refine r_get (v := .ref (z 89)) C0 hE ffX11_89 mw_879 hP 0 rfl ox_89 dX11_greatest_44 ?_
            refine lv_iload_n hx hb dX11_greatest_47 rfl (lv_at hl 0 rfl) ?_
            refine va_lald hx hb hK hP 1 1 rfl rfl (in_ti rfl (by omega) (by omega)) dX11_greatest_48 ?_
            refine lv_topl (fun x23500760 ex23500760 => ?_)
            refine lv_aload_n hx hb dX11_greatest_49 rfl (lv_at hl 2 rfl) ?_
            refine r_get (v := .ref (z 90)) C0 hE ffX11_90 mw_880 hP 0 rfl ox_90 dX11_greatest_50 ?_
            refine lv_iload_n hx hb dX11_greatest_53 rfl (lv_at hl 0 rfl) ?_
            refine va_iald hx hb hK hP 2 0 rfl rfl (in_ti rfl (by omega) (by omega)) dX11_greatest_54 ?_
            refine lv_topi (fun x23500761 ex23500761 => ?_)
            have hyx23500761 : 1 ≤ x23500761.toInt := PS.at hPT ex23500761 (by omega) (by omega)
            refine lv_i2l hx hb dX11_greatest_55 rfl ?_
            refine lv_topl (fun x23500762 ex23500762 => ?_)
            have hx23500762 : x23500762.toInt = x23500761.toInt := by rw [ex23500762]; exact Int32.toInt_toInt64 _
            refine lv_ldiv hx hb dX11_greatest_56 (by rw [ex23500762]; exact nz_l rfl (by omega)) ?_
            refine lv_topl (fun x23500763 ex23500763 => ?_)
            refine lv_lstore_n (lv' := [(1, .long x23500763), (3, .int x23500716), (0, .ref a)]) hx hb dX11_greatest_57 rfl hl (by decide) rfl (fun ls hl => ?_)
            exact J23500757 x23500763 _ _ ls (hP.sub (ws' := [(a, .inr (11, OX z i1 i2 i3 i4 i5 i6 i7 i8 i30 i43 i45 i46 i47 i48 i49 i50 i51 i58 i59 i65 i68 i69 i72 i78 i80 i81 i82 i87 i92 i96 i100 i103 i104)), ((z 89), .inl (T 1, 64, .inr (.inl g89))), ((z 90), .inl (T 0, 64, .inl g90))]) [0, 1, 2] rfl) (hD.sub (ws' := [(a, .inr (11, OX z i1 i2 i3 i4 i5 i6 i7 i8 i30 i43 i45 i46 i47 i48 i49 i50 i51 i58 i59 i65 i68 i69 i72 i78 i80 i81 i82 i87 i92 i96 i100 i103 i104)), ((z 89), .inl (T 1, 64, .inr (.inl g89))), ((z 90), .inl (T 0, 64, .inl g90))]) [0, 1, 2] (by decide +kernel) rfl) hS (lv_sub hl [1, 0, 2] rfl)
    exact L23500731 _ 0 0 _ _ ls ⟨by decide, by decide⟩ (Nat.lt_succ_self _) (hP.sub (ws' := [(a, .inr (11, OX z i1 i2 i3 i4 i5 i6 i7 i8 i30 i43 i45 i46 i47 i48 i49 i50 i51 i58 i59 i65 i68 i69 i72 i78 i80 i81 i82 i87 i92 i96 i100 i103 i104)), ((z 89), .inl (T 1, 64, .inr (.inl g89))), ((z 90), .inl (T 0, 64, .inl g90))]) [0, 1, 2] rfl) (hD.sub (ws' := [(a, .inr (11, OX z i1 i2 i3 i4 i5 i6 i7 i8 i30 i43 i45 i46 i47 i48 i49 i50 i51 i58 i59 i65 i68 i69 i72 i78 i80 i81 i82 i87 i92 i96 i100 i103 i104)), ((z 89), .inl (T 1, 64, .inr (.inl g89))), ((z 90), .inl (T 0, 64, .inl g90))]) [0, 1, 2] (by decide +kernel) rfl) hS (lv_sub hl [0, 1, 2] rfl)
  · skip
    have kc23500373 : i87.toInt = (-1) := eq_ti rfl (by decide) c23500373
    refine lv_ldc2 hx hb hown (hT _ mw_1058) dX11_greatest_8 ?_
    exact r_lret () C0 hr hlocks hS (Nat.le_refl _) (Nat.le_refl _) dX11_greatest_11 trivial (hP.sub (ws' := [(a, .inr (11, OX z i1 i2 i3 i4 i5 i6 i7 i8 i30 i43 i45 i46 i47 i48 i49 i50 i51 i58 i59 i65 i68 i69 i72 i78 i80 i81 i82 i87 i92 i96 i100 i103 i104)), ((z 89), .inl (T 1, 64, .inr (.inl g89))), ((z 90), .inl (T 0, 64, .inl g90))]) [0, 1, 2] rfl) (hD.sub (ws' := [(a, .inr (11, OX z i1 i2 i3 i4 i5 i6 i7 i8 i30 i43 i45 i46 i47 i48 i49 i50 i51 i58 i59 i65 i68 i69 i72 i78 i80 i81 i82 i87 i92 i96 i100 i103 i104)), ((z 89), .inl (T 1, 64, .inr (.inl g89))), ((z 90), .inl (T 0, 64, .inl g90))]) [0, 1, 2] (by decide +kernel) rfl)
set_option maxHeartbeats 4000000 in
set_option maxRecDepth 100000 in
theorem h_X11_hung_23600303 (l : Launch) (D : va_G) (T : Nat → ClassId) (sq sv sz : Nat) (a : Nat) (z : Nat → Nat) (i1 i2 i3 i4 i5 i6 i7 i8 i30 i43 i45 i46 i47 i48 i49 i50 i51 i58 i59 i65 i68 i69 i72 i78 i80 i81 i82 i87 i92 i96 i100 i103 i104 : Int32) (p1 : Int32) (g89 : Nat → Int64) (g90 : Nat → Int32) (g91 : Nat → Int32) (hi87 : -1 ≤ i87.toInt ∧ i87.toInt ≤ 64) : Met l yX11_hung (.code yX11_hung cX11_hung 3 (some .int) :: TB) { frames := 1, cells := 0, slots := 0, locals := 25 } (PC2 D T sq sv [.ref a, .int p1] [(a, .inr (11, OX z i1 i2 i3 i4 i5 i6 i7 i8 i30 i43 i45 i46 i47 i48 i49 i50 i51 i58 i59 i65 i68 i69 i72 i78 i80 i81 i82 i87 i92 i96 i100 i103 i104)), ((z 89), .inl (T 1, 64, .inr (.inl g89))), ((z 90), .inl (T 0, 64, .inl g90)), ((z 91), .inl (T 0, 64, .inl g91))] sz) (Qi (S := Unit) (fun (r : Int32) (_ : Unit) => True) (fun (_ : Unit) => [(a, .inr (11, OX z i1 i2 i3 i4 i5 i6 i7 i8 i30 i43 i45 i46 i47 i48 i49 i50 i51 i58 i59 i65 i68 i69 i72 i78 i80 i81 i82 i87 i92 i96 i100 i103 i104)), ((z 89), .inl (T 1, 64, .inr (.inl g89))), ((z 90), .inl (T 0, 64, .inl g90)), ((z 91), .inl (T 0, 64, .inl g91))]) D (va_A [(a, .inr (11, OX z i1 i2 i3 i4 i5 i6 i7 i8 i30 i43 i45 i46 i47 i48 i49 i50 i51 i58 i59 i65 i68 i69 i72 i78 i80 i81 i82 i87 i92 i96 i100 i103 i104)), ((z 89), .inl (T 1, 64, .inr (.inl g89))), ((z 90), .inl (T 0, 64, .inl g90)), ((z 91), .inl (T 0, 64, .inl g91))] sz)) 0 0 (va_A [(a, .inr (11, OX z i1 i2 i3 i4 i5 i6 i7 i8 i30 i43 i45 i46 i47 i48 i49 i50 i51 i58 i59 i65 i68 i69 i72 i78 i80 i81 i82 i87 i92 i96 i100 i103 i104)), ((z 89), .inl (T 1, 64, .inr (.inl g89))), ((z 90), .inl (T 0, 64, .inl g90)), ((z 91), .inl (T 0, 64, .inl g91))] sz) := by
  refine ct_begin2 (Qc := Qi (S := Unit) (fun (r : Int32) (_ : Unit) => True) (fun (_ : Unit) => [(a, .inr (11, OX z i1 i2 i3 i4 i5 i6 i7 i8 i30 i43 i45 i46 i47 i48 i49 i50 i51 i58 i59 i65 i68 i69 i72 i78 i80 i81 i82 i87 i92 i96 i100 i103 i104)), ((z 89), .inl (T 1, 64, .inr (.inl g89))), ((z 90), .inl (T 0, 64, .inl g90)), ((z 91), .inl (T 0, 64, .inl g91))]) D) (by decide +kernel) (Nat.le_of_ble_eq_true rfl) ?_
  intro p e s m below meth c A ls C0 hr hlocks hnm hE hStr hA hP hD hl
  generalize ([.ref a, .int p1] : List Value).toArray = args at C0 ⊢
  have hx := C0.1
  have hb := C0.2.1
  have hml := C0.2.2.1
  have hown := C0.2.2.2.1
  have hT := C0.2.2.2.2
  have hK := hE.1
  generalize hH : s.heap = H at hP ⊢
  have hS : va_S A s.heap H [] := by rw [← hH]; exact va_S.rf
  have hP : va_P D vwCl [(a, .inr (11, OX z i1 i2 i3 i4 i5 i6 i7 i8 i30 i43 i45 i46 i47 i48 i49 i50 i51 i58 i59 i65 i68 i69 i72 i78 i80 i81 i82 i87 i92 i96 i100 i103 i104)), ((z 89), .inl (T 1, 64, .inr (.inl g89))), ((z 90), .inl (T 0, 64, .inl g90)), ((z 91), .inl (T 0, 64, .inl g91))] H := hP
  have hD : va_D A [(a, .inr (11, OX z i1 i2 i3 i4 i5 i6 i7 i8 i30 i43 i45 i46 i47 i48 i49 i50 i51 i58 i59 i65 i68 i69 i72 i78 i80 i81 i82 i87 i92 i96 i100 i103 i104)), ((z 89), .inl (T 1, 64, .inr (.inl g89))), ((z 90), .inl (T 0, 64, .inl g90)), ((z 91), .inl (T 0, 64, .inl g91))] := hD
  have hl : lv_has ls 3 [(0, .ref a), (1, .int p1)] := hl
  refine lv_aload_n hx hb dX11_hung_0 rfl (lv_at hl 0 rfl) ?_
  refine r_get (v := .int i87) C0 hE ffX11_87 mw_877 hP 0 rfl ox_87 dX11_hung_1 ?_
  refine lv_iconst (v := (-1)) hx hb dX11_hung_4 (by decide) ?_
  refine lv_icmp_eq (tgt := 20) hx hb dX11_hung_5 (by decide) (fun c23600304 => ?_) (fun c23600304 => ?_)
  · skip
    have kc23600304 : i87.toInt = (-1) := eq_ti rfl (by decide) c23600304
    refine lv_iconst (v := (-1)) hx hb dX11_hung_20 (by decide) ?_
    exact r_iret () C0 hr hlocks hS (Nat.le_refl _) (Nat.le_refl _) dX11_hung_21 trivial (hP.sub (ws' := [(a, .inr (11, OX z i1 i2 i3 i4 i5 i6 i7 i8 i30 i43 i45 i46 i47 i48 i49 i50 i51 i58 i59 i65 i68 i69 i72 i78 i80 i81 i82 i87 i92 i96 i100 i103 i104)), ((z 89), .inl (T 1, 64, .inr (.inl g89))), ((z 90), .inl (T 0, 64, .inl g90)), ((z 91), .inl (T 0, 64, .inl g91))]) [0, 1, 2, 3] rfl) (hD.sub (ws' := [(a, .inr (11, OX z i1 i2 i3 i4 i5 i6 i7 i8 i30 i43 i45 i46 i47 i48 i49 i50 i51 i58 i59 i65 i68 i69 i72 i78 i80 i81 i82 i87 i92 i96 i100 i103 i104)), ((z 89), .inl (T 1, 64, .inr (.inl g89))), ((z 90), .inl (T 0, 64, .inl g90)), ((z 91), .inl (T 0, 64, .inl g91))]) [0, 1, 2, 3] (by decide +kernel) rfl)
  · skip
    have kc23600304 : i87.toInt ≠ (-1) := ne_ti rfl (by decide) c23600304
    refine lv_iload_n hx hb dX11_hung_8 rfl (lv_at hl 1 rfl) ?_
    refine lv_i2l hx hb dX11_hung_9 rfl ?_
    refine lv_topl (fun x23600305 ex23600305 => ?_)
    have hx23600305 : x23600305.toInt = p1.toInt := by rw [ex23600305]; exact Int32.toInt_toInt64 _
    refine lv_lconst (v := 0) hx hb dX11_hung_10 (by decide) ?_
    refine lv_ldc2 hx hb hown (hT _ mw_1188) dX11_hung_11 ?_
    refine r_calli (wr := [(a, .inr (11, OX z i1 i2 i3 i4 i5 i6 i7 i8 i30 i43 i45 i46 i47 i48 i49 i50 i51 i58 i59 i65 i68 i69 i72 i78 i80 i81 i82 i87 i92 i96 i100 i103 i104)), ((z 89), .inl (T 1, 64, .inr (.inl g89))), ((z 90), .inl (T 0, 64, .inl g90)), ((z 91), .inl (T 0, 64, .inl g91))]) (r_runS2 (As := [.long x23600305, .long 0, .long 10000000]) (rest := []) (wc := []) C0 hE hStr hS (va_free (wc := []) hD hS hA [] rfl) (h_X11_isIn_20000007 l D T sq sv H.size x23600305 0 10000000) mw_910 mw_911 mw_14 mw_912 dn_1704 rfl rfl ⟨Nat.le_of_ble_eq_true rfl, Nat.le_of_ble_eq_true rfl⟩ (hP.sub (ws' := []) [] rfl) (hD.sub (ws' := []) [] (by decide +kernel) rfl) hl.1 rfl (Nat.le_of_ble_eq_true rfl) dX11_hung_14 ⟨Nat.le_of_ble_eq_true rfl, Nat.le_of_ble_eq_true rfl⟩) hP hD hS hA [] [0, 1, 2, 3] rfl rfl (by decide +kernel) (by decide +kernel) (fun x23600306 u H locs hq hP hD hS => ?_)
    obtain ⟨hp23600307, hx23600306⟩ := hq
    have hp23600307 : (x23600306.toInt = 0 ∧ (x23600305.toInt < 0 ∨ 10000000 < x23600305.toInt)) ∨ (x23600306.toInt = 1 ∧ 0 ≤ x23600305.toInt ∧ x23600305.toInt ≤ 10000000) := hp23600307
    have hx23600306 : 0 ≤ x23600306.toInt ∧ x23600306.toInt ≤ 1 := hx23600306
    have hl23600308 : (0 : Int64).toInt = 0 := by decide
    have hl23600309 : (10000000 : Int64).toInt = 10000000 := by decide
    have hP : va_P D vwCl [(a, .inr (11, OX z i1 i2 i3 i4 i5 i6 i7 i8 i30 i43 i45 i46 i47 i48 i49 i50 i51 i58 i59 i65 i68 i69 i72 i78 i80 i81 i82 i87 i92 i96 i100 i103 i104)), ((z 89), .inl (T 1, 64, .inr (.inl g89))), ((z 90), .inl (T 0, 64, .inl g90)), ((z 91), .inl (T 0, 64, .inl g91))] H := hP
    have hD : va_D A [(a, .inr (11, OX z i1 i2 i3 i4 i5 i6 i7 i8 i30 i43 i45 i46 i47 i48 i49 i50 i51 i58 i59 i65 i68 i69 i72 i78 i80 i81 i82 i87 i92 i96 i100 i103 i104)), ((z 89), .inl (T 1, 64, .inr (.inl g89))), ((z 90), .inl (T 0, 64, .inl g90)), ((z 91), .inl (T 0, 64, .inl g91))] := hD
    refine W.widen (k := 0) (n := 0) (Nat.le_refl _) (Nat.le_refl _) ?_
    refine lv_if_ne (tgt := 22) hx hb dX11_hung_17 (by decide) (fun c23600310 => ?_) (fun c23600310 => ?_)
    · skip
      have kc23600310 : x23600306.toInt ≠ 0 := ne_ti rfl (by decide) c23600310
      have nzx23600306 : ¬ x23600306 = 0 := c23600310
      refine lv_iconst (v := 0) hx hb dX11_hung_22 (by decide) ?_
      refine lv_istore_n (lv' := [(2, .int 0), (0, .ref a), (1, .int p1)]) hx hb dX11_hung_23 rfl hl (by decide) rfl (fun ls hl => ?_)
      have L23600597 : ∀ (n : Nat) (x23600585 : Int32) (H : Heap) (locs : List Loc) (ls : Array Slot), (0 ≤ x23600585.toInt ∧ x23600585.toInt ≤ 64) → (65 - x23600585.toInt).toNat < n → va_P D vwCl [(a, .inr (11, OX z i1 i2 i3 i4 i5 i6 i7 i8 i30 i43 i45 i46 i47 i48 i49 i50 i51 i58 i59 i65 i68 i69 i72 i78 i80 i81 i82 i87 i92 i96 i100 i103 i104)), ((z 89), .inl (T 1, 64, .inr (.inl g89))), ((z 90), .inl (T 0, 64, .inl g90)), ((z 91), .inl (T 0, 64, .inl g91))] H → va_D A [(a, .inr (11, OX z i1 i2 i3 i4 i5 i6 i7 i8 i30 i43 i45 i46 i47 i48 i49 i50 i51 i58 i59 i65 i68 i69 i72 i78 i80 i81 i82 i87 i92 i96 i100 i103 i104)), ((z 89), .inl (T 1, 64, .inr (.inl g89))), ((z 90), .inl (T 0, 64, .inl g90)), ((z 91), .inl (T 0, 64, .inl g91))] → va_S A s.heap H locs → lv_has ls 3 [(2, .int x23600585), (0, .ref a), (1, .int p1)] → W p l e { frames := 1, cells := 0, slots := 0, locals := 25 } s m args below meth c H locs 0 0 (MQ below ((Qi (S := Unit) (fun (r : Int32) (_ : Unit) => True) (fun (_ : Unit) => [(a, .inr (11, OX z i1 i2 i3 i4 i5 i6 i7 i8 i30 i43 i45 i46 i47 i48 i49 i50 i51 i58 i59 i65 i68 i69 i72 i78 i80 i81 i82 i87 i92 i96 i100 i103 i104)), ((z 89), .inl (T 1, 64, .inr (.inl g89))), ((z 90), .inl (T 0, 64, .inl g90)), ((z 91), .inl (T 0, 64, .inl g91))]) D) A) args s 0 0 A) (F0 m 24 ls []) := by
        intro n
        induction n with
        | zero =>
          intro x23600585 H locs ls hx23600585 hms hP hD hS hl
          exact absurd hms (Nat.not_lt_zero _)
        | succ n ih23600598 =>
          intro x23600585 H locs ls hx23600585 hms hP hD hS hl
          refine lv_iload_n hx hb dX11_hung_24 rfl (lv_at hl 0 rfl) ?_
          refine lv_aload_n hx hb dX11_hung_25 rfl (lv_at hl 1 rfl) ?_
          refine r_get (v := .int i87) C0 hE ffX11_87 mw_877 hP 0 rfl ox_87 dX11_hung_26 ?_
          refine lv_icmp_ge (tgt := 65) hx hb dX11_hung_29 (by decide) (fun c23600599 => ?_) (fun c23600599 => ?_)
          · skip
            have kc23600599 : i87.toInt ≤ x23600585.toInt := le_ti rfl rfl c23600599
            refine lv_iconst (v := 0) hx hb dX11_hung_65 (by decide) ?_
            exact r_iret () C0 hr hlocks hS (Nat.le_refl _) (Nat.le_refl _) dX11_hung_66 trivial (hP.sub (ws' := [(a, .inr (11, OX z i1 i2 i3 i4 i5 i6 i7 i8 i30 i43 i45 i46 i47 i48 i49 i50 i51 i58 i59 i65 i68 i69 i72 i78 i80 i81 i82 i87 i92 i96 i100 i103 i104)), ((z 89), .inl (T 1, 64, .inr (.inl g89))), ((z 90), .inl (T 0, 64, .inl g90)), ((z 91), .inl (T 0, 64, .inl g91))]) [0, 1, 2, 3] rfl) (hD.sub (ws' := [(a, .inr (11, OX z i1 i2 i3 i4 i5 i6 i7 i8 i30 i43 i45 i46 i47 i48 i49 i50 i51 i58 i59 i65 i68 i69 i72 i78 i80 i81 i82 i87 i92 i96 i100 i103 i104)), ((z 89), .inl (T 1, 64, .inr (.inl g89))), ((z 90), .inl (T 0, 64, .inl g90)), ((z 91), .inl (T 0, 64, .inl g91))]) [0, 1, 2, 3] (by decide +kernel) rfl)
          · skip
            have kc23600599 : x23600585.toInt < i87.toInt := nle_ti rfl rfl c23600599
            refine lv_aload_n hx hb dX11_hung_32 rfl (lv_at hl 1 rfl) ?_
            refine r_get (v := .ref (z 89)) C0 hE ffX11_89 mw_879 hP 0 rfl ox_89 dX11_hung_33 ?_
            refine lv_iload_n hx hb dX11_hung_36 rfl (lv_at hl 0 rfl) ?_
            refine va_lald hx hb hK hP 1 1 rfl rfl (in_ti rfl (by omega) (by omega)) dX11_hung_37 ?_
            refine lv_topl (fun x23600600 ex23600600 => ?_)
            refine lv_iload_n hx hb dX11_hung_38 rfl (lv_at hl 2 rfl) ?_
            refine lv_i2l hx hb dX11_hung_39 rfl ?_
            refine lv_topl (fun x23600601 ex23600601 => ?_)
            have hx23600601 : x23600601.toInt = p1.toInt := by rw [ex23600601]; exact Int32.toInt_toInt64 _
            refine lv_aload_n hx hb dX11_hung_40 rfl (lv_at hl 1 rfl) ?_
            refine r_get (v := .ref (z 90)) C0 hE ffX11_90 mw_880 hP 0 rfl ox_90 dX11_hung_41 ?_
            refine lv_iload_n hx hb dX11_hung_44 rfl (lv_at hl 0 rfl) ?_
            refine va_iald hx hb hK hP 2 0 rfl rfl (in_ti rfl (by omega) (by omega)) dX11_hung_45 ?_
            refine lv_topi (fun x23600602 ex23600602 => ?_)
            refine lv_i2l hx hb dX11_hung_46 rfl ?_
            refine lv_topl (fun x23600603 ex23600603 => ?_)
            have hx23600603 : x23600603.toInt = x23600602.toInt := by rw [ex23600603]; exact Int32.toInt_toInt64 _
            refine lv_lmul hx hb dX11_hung_47 ?_
            refine lv_topl (fun x23600604 ex23600604 => ?_)
            refine W.lcmp hx hb dX11_hung_48 ?_
            refine lv_topi (fun x23600605 ex23600605 => ?_)
            refine lv_if_lt (tgt := 59) hx hb dX11_hung_49 (by decide) (fun c23600606 => ?_) (fun c23600606 => ?_)
            · skip
              have kc23600606 : x23600605.toInt < 0 := lt_ti rfl (by decide) c23600606
              have qc23600606 : x23600600.toInt < x23600604.toInt := lc_lt ex23600605 rfl rfl kc23600606
              have rg23600607 := i32_rng x23600605
              obtain ⟨x23600608, ex23600608⟩ : ∃ y : Int32, y = x23600585 + 1 := ⟨_, rfl⟩
              have hx23600608 : x23600608.toInt = x23600585.toInt + 1 := ti_add ex23600608 rfl (by decide) (by omega) (by omega)
              refine lv_iinc (v := x23600608) (lv' := [(2, .int x23600608), (0, .ref a), (1, .int p1)]) hx hb dX11_hung_59 hl (k := 0) rfl (by rw [ex23600608]; rfl) (by decide) rfl (fun ls hl => ?_)
              refine lv_goto (tgt := 24) hx hb dX11_hung_62 (by decide) ?_
              exact ih23600598 x23600608 _ _ ls ⟨by omega, by omega⟩ (by omega) (hP.sub (ws' := [(a, .inr (11, OX z i1 i2 i3 i4 i5 i6 i7 i8 i30 i43 i45 i46 i47 i48 i49 i50 i51 i58 i59 i65 i68 i69 i72 i78 i80 i81 i82 i87 i92 i96 i100 i103 i104)), ((z 89), .inl (T 1, 64, .inr (.inl g89))), ((z 90), .inl (T 0, 64, .inl g90)), ((z 91), .inl (T 0, 64, .inl g91))]) [0, 1, 2, 3] rfl) (hD.sub (ws' := [(a, .inr (11, OX z i1 i2 i3 i4 i5 i6 i7 i8 i30 i43 i45 i46 i47 i48 i49 i50 i51 i58 i59 i65 i68 i69 i72 i78 i80 i81 i82 i87 i92 i96 i100 i103 i104)), ((z 89), .inl (T 1, 64, .inr (.inl g89))), ((z 90), .inl (T 0, 64, .inl g90)), ((z 91), .inl (T 0, 64, .inl g91))]) [0, 1, 2, 3] (by decide +kernel) rfl) hS (lv_sub hl [0, 1, 2] rfl)
            · skip
              have kc23600606 : 0 ≤ x23600605.toInt := nlt_ti rfl (by decide) c23600606
              have qc23600606 : x23600604.toInt ≤ x23600600.toInt := lc_ge ex23600605 rfl rfl kc23600606
              refine lv_aload_n hx hb dX11_hung_52 rfl (lv_at hl 1 rfl) ?_
              refine r_get (v := .ref (z 91)) C0 hE ffX11_91 mw_881 hP 0 rfl ox_91 dX11_hung_53 ?_
              refine lv_iload_n hx hb dX11_hung_56 rfl (lv_at hl 0 rfl) ?_
              refine va_iald hx hb hK hP 3 0 rfl rfl (in_ti rfl (by omega) (by omega)) dX11_hung_57 ?_
              refine lv_topi (fun x23600609 ex23600609 => ?_)
              exact r_iret () C0 hr hlocks hS (Nat.le_refl _) (Nat.le_refl _) dX11_hung_58 trivial (hP.sub (ws' := [(a, .inr (11, OX z i1 i2 i3 i4 i5 i6 i7 i8 i30 i43 i45 i46 i47 i48 i49 i50 i51 i58 i59 i65 i68 i69 i72 i78 i80 i81 i82 i87 i92 i96 i100 i103 i104)), ((z 89), .inl (T 1, 64, .inr (.inl g89))), ((z 90), .inl (T 0, 64, .inl g90)), ((z 91), .inl (T 0, 64, .inl g91))]) [0, 1, 2, 3] rfl) (hD.sub (ws' := [(a, .inr (11, OX z i1 i2 i3 i4 i5 i6 i7 i8 i30 i43 i45 i46 i47 i48 i49 i50 i51 i58 i59 i65 i68 i69 i72 i78 i80 i81 i82 i87 i92 i96 i100 i103 i104)), ((z 89), .inl (T 1, 64, .inr (.inl g89))), ((z 90), .inl (T 0, 64, .inl g90)), ((z 91), .inl (T 0, 64, .inl g91))]) [0, 1, 2, 3] (by decide +kernel) rfl)
      exact L23600597 _ 0 _ _ ls ⟨by decide, by decide⟩ (Nat.lt_succ_self _) (hP.sub (ws' := [(a, .inr (11, OX z i1 i2 i3 i4 i5 i6 i7 i8 i30 i43 i45 i46 i47 i48 i49 i50 i51 i58 i59 i65 i68 i69 i72 i78 i80 i81 i82 i87 i92 i96 i100 i103 i104)), ((z 89), .inl (T 1, 64, .inr (.inl g89))), ((z 90), .inl (T 0, 64, .inl g90)), ((z 91), .inl (T 0, 64, .inl g91))]) [0, 1, 2, 3] rfl) (hD.sub (ws' := [(a, .inr (11, OX z i1 i2 i3 i4 i5 i6 i7 i8 i30 i43 i45 i46 i47 i48 i49 i50 i51 i58 i59 i65 i68 i69 i72 i78 i80 i81 i82 i87 i92 i96 i100 i103 i104)), ((z 89), .inl (T 1, 64, .inr (.inl g89))), ((z 90), .inl (T 0, 64, .inl g90)), ((z 91), .inl (T 0, 64, .inl g91))]) [0, 1, 2, 3] (by decide +kernel) rfl) hS (lv_sub hl [0, 1, 2] rfl)
    · skip
      have kc23600310 : x23600306.toInt = 0 := eq_ti rfl (by decide) c23600310
      refine lv_iconst (v := (-1)) hx hb dX11_hung_20 (by decide) ?_
      exact r_iret () C0 hr hlocks hS (Nat.le_refl _) (Nat.le_refl _) dX11_hung_21 trivial (hP.sub (ws' := [(a, .inr (11, OX z i1 i2 i3 i4 i5 i6 i7 i8 i30 i43 i45 i46 i47 i48 i49 i50 i51 i58 i59 i65 i68 i69 i72 i78 i80 i81 i82 i87 i92 i96 i100 i103 i104)), ((z 89), .inl (T 1, 64, .inr (.inl g89))), ((z 90), .inl (T 0, 64, .inl g90)), ((z 91), .inl (T 0, 64, .inl g91))]) [0, 1, 2, 3] rfl) (hD.sub (ws' := [(a, .inr (11, OX z i1 i2 i3 i4 i5 i6 i7 i8 i30 i43 i45 i46 i47 i48 i49 i50 i51 i58 i59 i65 i68 i69 i72 i78 i80 i81 i82 i87 i92 i96 i100 i103 i104)), ((z 89), .inl (T 1, 64, .inr (.inl g89))), ((z 90), .inl (T 0, 64, .inl g90)), ((z 91), .inl (T 0, 64, .inl g91))]) [0, 1, 2, 3] (by decide +kernel) rfl)
set_option maxHeartbeats 4000000 in
set_option maxRecDepth 100000 in
theorem h_X11_holdOf_23700247 (l : Launch) (D : va_G) (T : Nat → ClassId) (sq sv sz : Nat) (a : Nat) (z : Nat → Nat) (i1 i2 i3 i4 i5 i6 i7 i8 i30 i43 i45 i46 i47 i48 i49 i50 i51 i58 i59 i65 i68 i69 i72 i78 i80 i81 i82 i87 i92 i96 i100 i103 i104 : Int32) (p1 : Int32) (g83 : Nat → Int32) (g86 : Nat → Int32) (hi80 : 0 ≤ i80.toInt ∧ i80.toInt ≤ 64) (hi81 : 1 ≤ i81.toInt ∧ i81.toInt ≤ 8) : Met l yX11_holdOf (.code yX11_holdOf cX11_holdOf 4 (some .int) :: TB) { frames := 0, cells := 0, slots := 0, locals := 0 } (PC2 D T sq sv [.ref a, .int p1] [(a, .inr (11, OX z i1 i2 i3 i4 i5 i6 i7 i8 i30 i43 i45 i46 i47 i48 i49 i50 i51 i58 i59 i65 i68 i69 i72 i78 i80 i81 i82 i87 i92 i96 i100 i103 i104)), ((z 83), .inl (T 0, 64, .inl g83)), ((z 86), .inl (T 0, 64, .inl g86))] sz) (Qi (S := Unit) (fun (r : Int32) (_ : Unit) => True) (fun (_ : Unit) => [(a, .inr (11, OX z i1 i2 i3 i4 i5 i6 i7 i8 i30 i43 i45 i46 i47 i48 i49 i50 i51 i58 i59 i65 i68 i69 i72 i78 i80 i81 i82 i87 i92 i96 i100 i103 i104)), ((z 83), .inl (T 0, 64, .inl g83)), ((z 86), .inl (T 0, 64, .inl g86))]) D (va_A [(a, .inr (11, OX z i1 i2 i3 i4 i5 i6 i7 i8 i30 i43 i45 i46 i47 i48 i49 i50 i51 i58 i59 i65 i68 i69 i72 i78 i80 i81 i82 i87 i92 i96 i100 i103 i104)), ((z 83), .inl (T 0, 64, .inl g83)), ((z 86), .inl (T 0, 64, .inl g86))] sz)) 0 0 (va_A [(a, .inr (11, OX z i1 i2 i3 i4 i5 i6 i7 i8 i30 i43 i45 i46 i47 i48 i49 i50 i51 i58 i59 i65 i68 i69 i72 i78 i80 i81 i82 i87 i92 i96 i100 i103 i104)), ((z 83), .inl (T 0, 64, .inl g83)), ((z 86), .inl (T 0, 64, .inl g86))] sz) := by
  refine ct_begin2 (Qc := Qi (S := Unit) (fun (r : Int32) (_ : Unit) => True) (fun (_ : Unit) => [(a, .inr (11, OX z i1 i2 i3 i4 i5 i6 i7 i8 i30 i43 i45 i46 i47 i48 i49 i50 i51 i58 i59 i65 i68 i69 i72 i78 i80 i81 i82 i87 i92 i96 i100 i103 i104)), ((z 83), .inl (T 0, 64, .inl g83)), ((z 86), .inl (T 0, 64, .inl g86))]) D) (by decide +kernel) (Nat.le_of_ble_eq_true rfl) ?_
  intro p e s m below meth c A ls C0 hr hlocks hnm hE hStr hA hP hD hl
  generalize ([.ref a, .int p1] : List Value).toArray = args at C0 ⊢
  have hx := C0.1
  have hb := C0.2.1
  have hml := C0.2.2.1
  have hown := C0.2.2.2.1
  have hT := C0.2.2.2.2
  have hK := hE.1
  generalize hH : s.heap = H at hP ⊢
  have hS : va_S A s.heap H [] := by rw [← hH]; exact va_S.rf
  have hP : va_P D vwCl [(a, .inr (11, OX z i1 i2 i3 i4 i5 i6 i7 i8 i30 i43 i45 i46 i47 i48 i49 i50 i51 i58 i59 i65 i68 i69 i72 i78 i80 i81 i82 i87 i92 i96 i100 i103 i104)), ((z 83), .inl (T 0, 64, .inl g83)), ((z 86), .inl (T 0, 64, .inl g86))] H := hP
  have hD : va_D A [(a, .inr (11, OX z i1 i2 i3 i4 i5 i6 i7 i8 i30 i43 i45 i46 i47 i48 i49 i50 i51 i58 i59 i65 i68 i69 i72 i78 i80 i81 i82 i87 i92 i96 i100 i103 i104)), ((z 83), .inl (T 0, 64, .inl g83)), ((z 86), .inl (T 0, 64, .inl g86))] := hD
  have hl : lv_has ls 4 [(0, .ref a), (1, .int p1)] := hl
  refine lv_iconst (v := 0) hx hb dX11_holdOf_0 (by decide) ?_
  refine lv_istore_n (lv' := [(2, .int 0), (0, .ref a), (1, .int p1)]) hx hb dX11_holdOf_1 rfl hl (by decide) rfl (fun ls hl => ?_)
  refine lv_iconst (v := 0) hx hb dX11_holdOf_2 (by decide) ?_
  refine lv_istore_n (lv' := [(3, .int 0), (2, .int 0), (0, .ref a), (1, .int p1)]) hx hb dX11_holdOf_3 rfl hl (by decide) rfl (fun ls hl => ?_)
  have L23700486 : ∀ (n : Nat) (x23700476 : Int32) (x23700477 : Int32) (H : Heap) (locs : List Loc) (ls : Array Slot), (0 ≤ x23700476.toInt ∧ x23700476.toInt ≤ 64) → (65 - x23700476.toInt).toNat < n → va_P D vwCl [(a, .inr (11, OX z i1 i2 i3 i4 i5 i6 i7 i8 i30 i43 i45 i46 i47 i48 i49 i50 i51 i58 i59 i65 i68 i69 i72 i78 i80 i81 i82 i87 i92 i96 i100 i103 i104)), ((z 83), .inl (T 0, 64, .inl g83)), ((z 86), .inl (T 0, 64, .inl g86))] H → va_D A [(a, .inr (11, OX z i1 i2 i3 i4 i5 i6 i7 i8 i30 i43 i45 i46 i47 i48 i49 i50 i51 i58 i59 i65 i68 i69 i72 i78 i80 i81 i82 i87 i92 i96 i100 i103 i104)), ((z 83), .inl (T 0, 64, .inl g83)), ((z 86), .inl (T 0, 64, .inl g86))] → va_S A s.heap H locs → lv_has ls 4 [(3, .int x23700476), (2, .int x23700477), (0, .ref a), (1, .int p1)] → W p l e { frames := 0, cells := 0, slots := 0, locals := 0 } s m args below meth c H locs 0 0 (MQ below ((Qi (S := Unit) (fun (r : Int32) (_ : Unit) => True) (fun (_ : Unit) => [(a, .inr (11, OX z i1 i2 i3 i4 i5 i6 i7 i8 i30 i43 i45 i46 i47 i48 i49 i50 i51 i58 i59 i65 i68 i69 i72 i78 i80 i81 i82 i87 i92 i96 i100 i103 i104)), ((z 83), .inl (T 0, 64, .inl g83)), ((z 86), .inl (T 0, 64, .inl g86))]) D) A) args s 0 0 A) (F0 m 4 ls []) := by
    intro n
    induction n with
    | zero =>
      intro x23700476 x23700477 H locs ls hx23700476 hms hP hD hS hl
      exact absurd hms (Nat.not_lt_zero _)
    | succ n ih23700487 =>
      intro x23700476 x23700477 H locs ls hx23700476 hms hP hD hS hl
      refine lv_iload_n hx hb dX11_holdOf_4 rfl (lv_at hl 0 rfl) ?_
      refine lv_aload_n hx hb dX11_holdOf_5 rfl (lv_at hl 2 rfl) ?_
      refine r_get (v := .int i80) C0 hE ffX11_80 mw_870 hP 0 rfl ox_80 dX11_holdOf_6 ?_
      refine lv_icmp_ge (tgt := 42) hx hb dX11_holdOf_9 (by decide) (fun c23700488 => ?_) (fun c23700488 => ?_)
      · skip
        have kc23700488 : i80.toInt ≤ x23700476.toInt := le_ti rfl rfl c23700488
        refine lv_iload_n hx hb dX11_holdOf_42 rfl (lv_at hl 1 rfl) ?_
        exact r_iret () C0 hr hlocks hS (Nat.le_refl _) (Nat.le_refl _) dX11_holdOf_43 trivial (hP.sub (ws' := [(a, .inr (11, OX z i1 i2 i3 i4 i5 i6 i7 i8 i30 i43 i45 i46 i47 i48 i49 i50 i51 i58 i59 i65 i68 i69 i72 i78 i80 i81 i82 i87 i92 i96 i100 i103 i104)), ((z 83), .inl (T 0, 64, .inl g83)), ((z 86), .inl (T 0, 64, .inl g86))]) [0, 1, 2] rfl) (hD.sub (ws' := [(a, .inr (11, OX z i1 i2 i3 i4 i5 i6 i7 i8 i30 i43 i45 i46 i47 i48 i49 i50 i51 i58 i59 i65 i68 i69 i72 i78 i80 i81 i82 i87 i92 i96 i100 i103 i104)), ((z 83), .inl (T 0, 64, .inl g83)), ((z 86), .inl (T 0, 64, .inl g86))]) [0, 1, 2] (by decide +kernel) rfl)
      · skip
        have kc23700488 : x23700476.toInt < i80.toInt := nle_ti rfl rfl c23700488
        refine lv_aload_n hx hb dX11_holdOf_12 rfl (lv_at hl 2 rfl) ?_
        refine r_get (v := .ref (z 83)) C0 hE ffX11_83 mw_873 hP 0 rfl ox_83 dX11_holdOf_13 ?_
        refine lv_iload_n hx hb dX11_holdOf_16 rfl (lv_at hl 0 rfl) ?_
        refine va_iald hx hb hK hP 1 0 rfl rfl (in_ti rfl (by omega) (by omega)) dX11_holdOf_17 ?_
        refine lv_topi (fun x23700496 ex23700496 => ?_)
        refine lv_aload_n hx hb dX11_holdOf_18 rfl (lv_at hl 2 rfl) ?_
        refine r_get (v := .int i81) C0 hE ffX11_81 mw_871 hP 0 rfl ox_81 dX11_holdOf_19 ?_
        refine lv_idiv hx hb dX11_holdOf_22 (nz_ti rfl (by omega)) ?_
        refine lv_topi (fun x23700497 ex23700497 => ?_)
        refine lv_iload_n hx hb dX11_holdOf_23 rfl (lv_at hl 3 rfl) ?_
        have J23700502 : ∀ (x23700501 : Int32) (H : Heap) (locs : List Loc) (ls : Array Slot), va_P D vwCl [(a, .inr (11, OX z i1 i2 i3 i4 i5 i6 i7 i8 i30 i43 i45 i46 i47 i48 i49 i50 i51 i58 i59 i65 i68 i69 i72 i78 i80 i81 i82 i87 i92 i96 i100 i103 i104)), ((z 83), .inl (T 0, 64, .inl g83)), ((z 86), .inl (T 0, 64, .inl g86))] H → va_D A [(a, .inr (11, OX z i1 i2 i3 i4 i5 i6 i7 i8 i30 i43 i45 i46 i47 i48 i49 i50 i51 i58 i59 i65 i68 i69 i72 i78 i80 i81 i82 i87 i92 i96 i100 i103 i104)), ((z 83), .inl (T 0, 64, .inl g83)), ((z 86), .inl (T 0, 64, .inl g86))] → va_S A s.heap H locs → lv_has ls 4 [(3, .int x23700476), (2, .int x23700501), (0, .ref a), (1, .int p1)] → W p l e { frames := 0, cells := 0, slots := 0, locals := 0 } s m args below meth c H locs 0 0 (MQ below ((Qi (S := Unit) (fun (r : Int32) (_ : Unit) => True) (fun (_ : Unit) => [(a, .inr (11, OX z i1 i2 i3 i4 i5 i6 i7 i8 i30 i43 i45 i46 i47 i48 i49 i50 i51 i58 i59 i65 i68 i69 i72 i78 i80 i81 i82 i87 i92 i96 i100 i103 i104)), ((z 83), .inl (T 0, 64, .inl g83)), ((z 86), .inl (T 0, 64, .inl g86))]) D) A) args s 0 0 A) (F0 m 36 ls []) := by
          intro x23700501 H locs ls hP hD hS hl
          obtain ⟨x23700503, ex23700503⟩ : ∃ y : Int32, y = x23700476 + 1 := ⟨_, rfl⟩
          have hx23700503 : x23700503.toInt = x23700476.toInt + 1 := ti_add ex23700503 rfl (by decide) (by omega) (by omega)
          refine lv_iinc (v := x23700503) (lv' := [(3, .int x23700503), (2, .int x23700501), (0, .ref a), (1, .int p1)]) hx hb dX11_holdOf_36 hl (k := 0) rfl (by rw [ex23700503]; rfl) (by decide) rfl (fun ls hl => ?_)
          refine lv_goto (tgt := 4) hx hb dX11_holdOf_39 (by decide) ?_
          exact ih23700487 x23700503 x23700501 _ _ ls ⟨by omega, by omega⟩ (by omega) (hP.sub (ws' := [(a, .inr (11, OX z i1 i2 i3 i4 i5 i6 i7 i8 i30 i43 i45 i46 i47 i48 i49 i50 i51 i58 i59 i65 i68 i69 i72 i78 i80 i81 i82 i87 i92 i96 i100 i103 i104)), ((z 83), .inl (T 0, 64, .inl g83)), ((z 86), .inl (T 0, 64, .inl g86))]) [0, 1, 2] rfl) (hD.sub (ws' := [(a, .inr (11, OX z i1 i2 i3 i4 i5 i6 i7 i8 i30 i43 i45 i46 i47 i48 i49 i50 i51 i58 i59 i65 i68 i69 i72 i78 i80 i81 i82 i87 i92 i96 i100 i103 i104)), ((z 83), .inl (T 0, 64, .inl g83)), ((z 86), .inl (T 0, 64, .inl g86))]) [0, 1, 2] (by decide +kernel) rfl) hS (lv_sub hl [0, 1, 2, 3] rfl)
        refine lv_icmp_ne (tgt := 36) hx hb dX11_holdOf_24 (by decide) (fun c23700498 => ?_) (fun c23700498 => ?_)
        · skip
          have kc23700498 : x23700497.toInt ≠ p1.toInt := ne_ti rfl rfl c23700498
          exact J23700502 x23700477 _ _ ls (hP.sub (ws' := [(a, .inr (11, OX z i1 i2 i3 i4 i5 i6 i7 i8 i30 i43 i45 i46 i47 i48 i49 i50 i51 i58 i59 i65 i68 i69 i72 i78 i80 i81 i82 i87 i92 i96 i100 i103 i104)), ((z 83), .inl (T 0, 64, .inl g83)), ((z 86), .inl (T 0, 64, .inl g86))]) [0, 1, 2] rfl) (hD.sub (ws' := [(a, .inr (11, OX z i1 i2 i3 i4 i5 i6 i7 i8 i30 i43 i45 i46 i47 i48 i49 i50 i51 i58 i59 i65 i68 i69 i72 i78 i80 i81 i82 i87 i92 i96 i100 i103 i104)), ((z 83), .inl (T 0, 64, .inl g83)), ((z 86), .inl (T 0, 64, .inl g86))]) [0, 1, 2] (by decide +kernel) rfl) hS (lv_sub hl [0, 1, 2, 3] rfl)
        · skip
          have kc23700498 : x23700497.toInt = p1.toInt := eq_ti rfl rfl c23700498
          refine lv_iload_n hx hb dX11_holdOf_27 rfl (lv_at hl 1 rfl) ?_
          refine lv_aload_n hx hb dX11_holdOf_28 rfl (lv_at hl 2 rfl) ?_
          refine r_get (v := .ref (z 86)) C0 hE ffX11_86 mw_876 hP 0 rfl ox_86 dX11_holdOf_29 ?_
          refine lv_iload_n hx hb dX11_holdOf_32 rfl (lv_at hl 0 rfl) ?_
          refine va_iald hx hb hK hP 2 0 rfl rfl (in_ti rfl (by omega) (by omega)) dX11_holdOf_33 ?_
          refine lv_topi (fun x23700504 ex23700504 => ?_)
          refine lv_iadd hx hb dX11_holdOf_34 ?_
          refine lv_topi (fun x23700505 ex23700505 => ?_)
          refine lv_istore_n (lv' := [(2, .int x23700505), (3, .int x23700476), (0, .ref a), (1, .int p1)]) hx hb dX11_holdOf_35 rfl hl (by decide) rfl (fun ls hl => ?_)
          exact J23700502 x23700505 _ _ ls (hP.sub (ws' := [(a, .inr (11, OX z i1 i2 i3 i4 i5 i6 i7 i8 i30 i43 i45 i46 i47 i48 i49 i50 i51 i58 i59 i65 i68 i69 i72 i78 i80 i81 i82 i87 i92 i96 i100 i103 i104)), ((z 83), .inl (T 0, 64, .inl g83)), ((z 86), .inl (T 0, 64, .inl g86))]) [0, 1, 2] rfl) (hD.sub (ws' := [(a, .inr (11, OX z i1 i2 i3 i4 i5 i6 i7 i8 i30 i43 i45 i46 i47 i48 i49 i50 i51 i58 i59 i65 i68 i69 i72 i78 i80 i81 i82 i87 i92 i96 i100 i103 i104)), ((z 83), .inl (T 0, 64, .inl g83)), ((z 86), .inl (T 0, 64, .inl g86))]) [0, 1, 2] (by decide +kernel) rfl) hS (lv_sub hl [1, 0, 2, 3] rfl)
  exact L23700486 _ 0 0 _ _ ls ⟨by decide, by decide⟩ (Nat.lt_succ_self _) (hP.sub (ws' := [(a, .inr (11, OX z i1 i2 i3 i4 i5 i6 i7 i8 i30 i43 i45 i46 i47 i48 i49 i50 i51 i58 i59 i65 i68 i69 i72 i78 i80 i81 i82 i87 i92 i96 i100 i103 i104)), ((z 83), .inl (T 0, 64, .inl g83)), ((z 86), .inl (T 0, 64, .inl g86))]) [0, 1, 2] rfl) (hD.sub (ws' := [(a, .inr (11, OX z i1 i2 i3 i4 i5 i6 i7 i8 i30 i43 i45 i46 i47 i48 i49 i50 i51 i58 i59 i65 i68 i69 i72 i78 i80 i81 i82 i87 i92 i96 i100 i103 i104)), ((z 83), .inl (T 0, 64, .inl g83)), ((z 86), .inl (T 0, 64, .inl g86))]) [0, 1, 2] (by decide +kernel) rfl) hS (lv_sub hl [0, 1, 2, 3] rfl)
set_option maxHeartbeats 4000000 in
set_option maxRecDepth 100000 in
theorem h_X11_peel_23802254 (l : Launch) (D : va_G) (T : Nat → ClassId) (sq sv sz : Nat) (a : Nat) (z : Nat → Nat) (i1 i2 i3 i4 i5 i6 i7 i8 i30 i43 i45 i46 i47 i48 i49 i50 i51 i58 i59 i65 i68 i69 i72 i78 i80 i81 i82 i87 i92 i96 i100 i103 i104 : Int32) (p1 : Int32) (p2 : Int32) (g83 : Nat → Int32) (g86 : Nat → Int32) (g93 : Nat → Int32) (g94 : Nat → Int32) (g95 : Nat → Int32) (hi78 : 0 ≤ i78.toInt ∧ i78.toInt ≤ 1) (hi80 : 0 ≤ i80.toInt ∧ i80.toInt ≤ 64) (hi81 : 0 ≤ i81.toInt ∧ i81.toInt ≤ 8) (hi82 : 0 ≤ i82.toInt ∧ i82.toInt ≤ 8) (hi92 : -1 ≤ i92.toInt ∧ i92.toInt ≤ 8) (hpre0 : i78.toInt = 0 ∨ 1 ≤ i81.toInt) : Met l yX11_peel (.code yX11_peel cX11_peel 12 (some .int) :: TB) { frames := 1, cells := 0, slots := 0, locals := 25 } (PC2 D T sq sv [.ref a, .int p1, .int p2] [(a, .inr (11, OX z i1 i2 i3 i4 i5 i6 i7 i8 i30 i43 i45 i46 i47 i48 i49 i50 i51 i58 i59 i65 i68 i69 i72 i78 i80 i81 i82 i87 i92 i96 i100 i103 i104)), ((z 83), .inl (T 0, 64, .inl g83)), ((z 86), .inl (T 0, 64, .inl g86)), ((z 93), .inl (T 0, 8, .inl g93)), ((z 94), .inl (T 0, 8, .inl g94)), ((z 95), .inl (T 0, 8, .inl g95))] sz) (Qi (S := Int32 × (Nat → Int32) × (Nat → Int32) × (Nat → Int32)) (fun (r : Int32) (u : Int32 × (Nat → Int32) × (Nat → Int32) × (Nat → Int32)) => match u with | (ui92, ug93, ug94, ug95) => (-1 ≤ ui92.toInt ∧ ui92.toInt ≤ 8) ∧ (-1 ≤ r.toInt ∧ r.toInt ≤ 8)) (fun (u : Int32 × (Nat → Int32) × (Nat → Int32) × (Nat → Int32)) => match u with | (ui92, ug93, ug94, ug95) => [(a, .inr (11, OX z i1 i2 i3 i4 i5 i6 i7 i8 i30 i43 i45 i46 i47 i48 i49 i50 i51 i58 i59 i65 i68 i69 i72 i78 i80 i81 i82 i87 ui92 i96 i100 i103 i104)), ((z 83), .inl (T 0, 64, .inl g83)), ((z 86), .inl (T 0, 64, .inl g86)), ((z 93), .inl (T 0, 8, .inl ug93)), ((z 94), .inl (T 0, 8, .inl ug94)), ((z 95), .inl (T 0, 8, .inl ug95))]) D (va_A [(a, .inr (11, OX z i1 i2 i3 i4 i5 i6 i7 i8 i30 i43 i45 i46 i47 i48 i49 i50 i51 i58 i59 i65 i68 i69 i72 i78 i80 i81 i82 i87 i92 i96 i100 i103 i104)), ((z 83), .inl (T 0, 64, .inl g83)), ((z 86), .inl (T 0, 64, .inl g86)), ((z 93), .inl (T 0, 8, .inl g93)), ((z 94), .inl (T 0, 8, .inl g94)), ((z 95), .inl (T 0, 8, .inl g95))] sz)) 0 0 (va_A [(a, .inr (11, OX z i1 i2 i3 i4 i5 i6 i7 i8 i30 i43 i45 i46 i47 i48 i49 i50 i51 i58 i59 i65 i68 i69 i72 i78 i80 i81 i82 i87 i92 i96 i100 i103 i104)), ((z 83), .inl (T 0, 64, .inl g83)), ((z 86), .inl (T 0, 64, .inl g86)), ((z 93), .inl (T 0, 8, .inl g93)), ((z 94), .inl (T 0, 8, .inl g94)), ((z 95), .inl (T 0, 8, .inl g95))] sz) := by
  refine ct_begin2 (Qc := Qi (S := Int32 × (Nat → Int32) × (Nat → Int32) × (Nat → Int32)) (fun (r : Int32) (u : Int32 × (Nat → Int32) × (Nat → Int32) × (Nat → Int32)) => match u with | (ui92, ug93, ug94, ug95) => (-1 ≤ ui92.toInt ∧ ui92.toInt ≤ 8) ∧ (-1 ≤ r.toInt ∧ r.toInt ≤ 8)) (fun (u : Int32 × (Nat → Int32) × (Nat → Int32) × (Nat → Int32)) => match u with | (ui92, ug93, ug94, ug95) => [(a, .inr (11, OX z i1 i2 i3 i4 i5 i6 i7 i8 i30 i43 i45 i46 i47 i48 i49 i50 i51 i58 i59 i65 i68 i69 i72 i78 i80 i81 i82 i87 ui92 i96 i100 i103 i104)), ((z 83), .inl (T 0, 64, .inl g83)), ((z 86), .inl (T 0, 64, .inl g86)), ((z 93), .inl (T 0, 8, .inl ug93)), ((z 94), .inl (T 0, 8, .inl ug94)), ((z 95), .inl (T 0, 8, .inl ug95))]) D) (by decide +kernel) (Nat.le_of_ble_eq_true rfl) ?_
  intro p e s m below meth c A ls C0 hr hlocks hnm hE hStr hA hP hD hl
  generalize ([.ref a, .int p1, .int p2] : List Value).toArray = args at C0 ⊢
  have hx := C0.1
  have hb := C0.2.1
  have hml := C0.2.2.1
  have hown := C0.2.2.2.1
  have hT := C0.2.2.2.2
  have hK := hE.1
  generalize hH : s.heap = H at hP ⊢
  have hS : va_S A s.heap H [] := by rw [← hH]; exact va_S.rf
  have hP : va_P D vwCl [(a, .inr (11, OX z i1 i2 i3 i4 i5 i6 i7 i8 i30 i43 i45 i46 i47 i48 i49 i50 i51 i58 i59 i65 i68 i69 i72 i78 i80 i81 i82 i87 i92 i96 i100 i103 i104)), ((z 83), .inl (T 0, 64, .inl g83)), ((z 86), .inl (T 0, 64, .inl g86)), ((z 93), .inl (T 0, 8, .inl g93)), ((z 94), .inl (T 0, 8, .inl g94)), ((z 95), .inl (T 0, 8, .inl g95))] H := hP
  have hD : va_D A [(a, .inr (11, OX z i1 i2 i3 i4 i5 i6 i7 i8 i30 i43 i45 i46 i47 i48 i49 i50 i51 i58 i59 i65 i68 i69 i72 i78 i80 i81 i82 i87 i92 i96 i100 i103 i104)), ((z 83), .inl (T 0, 64, .inl g83)), ((z 86), .inl (T 0, 64, .inl g86)), ((z 93), .inl (T 0, 8, .inl g93)), ((z 94), .inl (T 0, 8, .inl g94)), ((z 95), .inl (T 0, 8, .inl g95))] := hD
  have hl : lv_has ls 12 [(0, .ref a), (1, .int p1), (2, .int p2)] := hl
  refine lv_aload_n hx hb dX11_peel_0 rfl (lv_at hl 0 rfl) ?_
  refine r_get (v := .int i78) C0 hE ffX11_78 mw_868 hP 0 rfl ox_78 dX11_peel_1 ?_
  refine lv_if_eq (tgt := 18) hx hb dX11_peel_4 (by decide) (fun c23802255 => ?_) (fun c23802255 => ?_)
  · skip
    have kc23802255 : i78.toInt = 0 := eq_ti rfl (by decide) c23802255
    refine lv_iconst (v := (-1)) hx hb dX11_peel_18 (by decide) ?_
    exact r_iret (i92, g93, g94, g95) C0 hr hlocks hS (Nat.le_refl _) (Nat.le_refl _) dX11_peel_19 ⟨⟨by omega, by omega⟩, ⟨by decide, by decide⟩⟩ (hP.sub (ws' := [(a, .inr (11, OX z i1 i2 i3 i4 i5 i6 i7 i8 i30 i43 i45 i46 i47 i48 i49 i50 i51 i58 i59 i65 i68 i69 i72 i78 i80 i81 i82 i87 i92 i96 i100 i103 i104)), ((z 83), .inl (T 0, 64, .inl g83)), ((z 86), .inl (T 0, 64, .inl g86)), ((z 93), .inl (T 0, 8, .inl g93)), ((z 94), .inl (T 0, 8, .inl g94)), ((z 95), .inl (T 0, 8, .inl g95))]) [0, 1, 2, 3, 4, 5] rfl) (hD.sub (ws' := [(a, .inr (11, OX z i1 i2 i3 i4 i5 i6 i7 i8 i30 i43 i45 i46 i47 i48 i49 i50 i51 i58 i59 i65 i68 i69 i72 i78 i80 i81 i82 i87 i92 i96 i100 i103 i104)), ((z 83), .inl (T 0, 64, .inl g83)), ((z 86), .inl (T 0, 64, .inl g86)), ((z 93), .inl (T 0, 8, .inl g93)), ((z 94), .inl (T 0, 8, .inl g94)), ((z 95), .inl (T 0, 8, .inl g95))]) [0, 1, 2, 3, 4, 5] (by decide +kernel) rfl)
  · skip
    have kc23802255 : i78.toInt ≠ 0 := ne_ti rfl (by decide) c23802255
    have nzi78 : ¬ i78 = 0 := c23802255
    refine lv_iload_n hx hb dX11_peel_7 rfl (lv_at hl 2 rfl) ?_
    refine lv_if_lt (tgt := 18) hx hb dX11_peel_8 (by decide) (fun c23802256 => ?_) (fun c23802256 => ?_)
    · skip
      have kc23802256 : p2.toInt < 0 := lt_ti rfl (by decide) c23802256
      have rg23802257 := i32_rng p2
      refine lv_iconst (v := (-1)) hx hb dX11_peel_18 (by decide) ?_
      exact r_iret (i92, g93, g94, g95) C0 hr hlocks hS (Nat.le_refl _) (Nat.le_refl _) dX11_peel_19 ⟨⟨by omega, by omega⟩, ⟨by decide, by decide⟩⟩ (hP.sub (ws' := [(a, .inr (11, OX z i1 i2 i3 i4 i5 i6 i7 i8 i30 i43 i45 i46 i47 i48 i49 i50 i51 i58 i59 i65 i68 i69 i72 i78 i80 i81 i82 i87 i92 i96 i100 i103 i104)), ((z 83), .inl (T 0, 64, .inl g83)), ((z 86), .inl (T 0, 64, .inl g86)), ((z 93), .inl (T 0, 8, .inl g93)), ((z 94), .inl (T 0, 8, .inl g94)), ((z 95), .inl (T 0, 8, .inl g95))]) [0, 1, 2, 3, 4, 5] rfl) (hD.sub (ws' := [(a, .inr (11, OX z i1 i2 i3 i4 i5 i6 i7 i8 i30 i43 i45 i46 i47 i48 i49 i50 i51 i58 i59 i65 i68 i69 i72 i78 i80 i81 i82 i87 i92 i96 i100 i103 i104)), ((z 83), .inl (T 0, 64, .inl g83)), ((z 86), .inl (T 0, 64, .inl g86)), ((z 93), .inl (T 0, 8, .inl g93)), ((z 94), .inl (T 0, 8, .inl g94)), ((z 95), .inl (T 0, 8, .inl g95))]) [0, 1, 2, 3, 4, 5] (by decide +kernel) rfl)
    · skip
      have kc23802256 : 0 ≤ p2.toInt := nlt_ti rfl (by decide) c23802256
      refine lv_iload_n hx hb dX11_peel_11 rfl (lv_at hl 2 rfl) ?_
      refine lv_ldcw hx hb hown (hT _ mw_1193) dX11_peel_12 ?_
      refine lv_icmp_le (tgt := 20) hx hb dX11_peel_15 (by decide) (fun c23802258 => ?_) (fun c23802258 => ?_)
      · skip
        have kc23802258 : p2.toInt ≤ 65535 := le_ti rfl (by decide) c23802258
        refine lv_iconst (v := 0) hx hb dX11_peel_20 (by decide) ?_
        refine lv_istore_n (lv' := [(3, .int 0), (0, .ref a), (1, .int p1), (2, .int p2)]) hx hb dX11_peel_21 rfl hl (by decide) rfl (fun ls hl => ?_)
        have L23803409 : ∀ (n : Nat) (x23802310 : Int32) (H : Heap) (locs : List Loc) (ls : Array Slot), (0 ≤ x23802310.toInt ∧ x23802310.toInt ≤ 4) → (x23802310.toInt = 0 ∨ 1 ≤ (p2 &&& 15).toInt) → (5 - x23802310.toInt).toNat < n → va_P D vwCl [(a, .inr (11, OX z i1 i2 i3 i4 i5 i6 i7 i8 i30 i43 i45 i46 i47 i48 i49 i50 i51 i58 i59 i65 i68 i69 i72 i78 i80 i81 i82 i87 i92 i96 i100 i103 i104)), ((z 83), .inl (T 0, 64, .inl g83)), ((z 86), .inl (T 0, 64, .inl g86)), ((z 93), .inl (T 0, 8, .inl g93)), ((z 94), .inl (T 0, 8, .inl g94)), ((z 95), .inl (T 0, 8, .inl g95))] H → va_D A [(a, .inr (11, OX z i1 i2 i3 i4 i5 i6 i7 i8 i30 i43 i45 i46 i47 i48 i49 i50 i51 i58 i59 i65 i68 i69 i72 i78 i80 i81 i82 i87 i92 i96 i100 i103 i104)), ((z 83), .inl (T 0, 64, .inl g83)), ((z 86), .inl (T 0, 64, .inl g86)), ((z 93), .inl (T 0, 8, .inl g93)), ((z 94), .inl (T 0, 8, .inl g94)), ((z 95), .inl (T 0, 8, .inl g95))] → va_S A s.heap H locs → lv_has ls 12 [(3, .int x23802310), (0, .ref a), (1, .int p1), (2, .int p2)] → W p l e { frames := 1, cells := 0, slots := 0, locals := 25 } s m args below meth c H locs 0 0 (MQ below ((Qi (S := Int32 × (Nat → Int32) × (Nat → Int32) × (Nat → Int32)) (fun (r : Int32) (u : Int32 × (Nat → Int32) × (Nat → Int32) × (Nat → Int32)) => match u with | (ui92, ug93, ug94, ug95) => (-1 ≤ ui92.toInt ∧ ui92.toInt ≤ 8) ∧ (-1 ≤ r.toInt ∧ r.toInt ≤ 8)) (fun (u : Int32 × (Nat → Int32) × (Nat → Int32) × (Nat → Int32)) => match u with | (ui92, ug93, ug94, ug95) => [(a, .inr (11, OX z i1 i2 i3 i4 i5 i6 i7 i8 i30 i43 i45 i46 i47 i48 i49 i50 i51 i58 i59 i65 i68 i69 i72 i78 i80 i81 i82 i87 ui92 i96 i100 i103 i104)), ((z 83), .inl (T 0, 64, .inl g83)), ((z 86), .inl (T 0, 64, .inl g86)), ((z 93), .inl (T 0, 8, .inl ug93)), ((z 94), .inl (T 0, 8, .inl ug94)), ((z 95), .inl (T 0, 8, .inl ug95))]) D) A) args s 0 0 A) (F0 m 22 ls []) := by
          intro n
          induction n with
          | zero =>
            intro x23802310 H locs ls hx23802310 hW15 hms hP hD hS hl
            exact absurd hms (Nat.not_lt_zero _)
          | succ n ih23803410 =>
            intro x23802310 H locs ls hx23802310 hW15 hms hP hD hS hl
            refine lv_iload_n hx hb dX11_peel_22 rfl (lv_at hl 0 rfl) ?_
            refine lv_iconst (v := 4) hx hb dX11_peel_23 (by decide) ?_
            refine lv_icmp_ge (tgt := 62) hx hb dX11_peel_24 (by decide) (fun c23803411 => ?_) (fun c23803411 => ?_)
            · skip
              have kc23803411 : 4 ≤ x23802310.toInt := le_ti (by decide) rfl c23803411
              refine lv_aload_n hx hb dX11_peel_62 rfl (lv_at hl 1 rfl) ?_
              refine lv_iconst (v := 0) hx hb dX11_peel_63 (by decide) ?_
              refine r_put (v := .int 0) (ty := .int) (ws1 := [(a, .inr (11, OX z i1 i2 i3 i4 i5 i6 i7 i8 i30 i43 i45 i46 i47 i48 i49 i50 i51 i58 i59 i65 i68 i69 i72 i78 i80 i81 i82 i87 0 i96 i100 i103 i104)), ((z 83), .inl (T 0, 64, .inl g83)), ((z 86), .inl (T 0, 64, .inl g86)), ((z 93), .inl (T 0, 8, .inl g93)), ((z 94), .inl (T 0, 8, .inl g94)), ((z 95), .inl (T 0, 8, .inl g95))]) C0 hE ffX11_92 tyX11 tyX11_ok nmX11 mw_882 pf_1358 hP hD hS 0 rfl rfl rfl ol_92 os_92 rfl dX11_peel_64 (fun H locs hP hD hS => ?_)
              refine lv_iconst (v := 0) hx hb dX11_peel_67 (by decide) ?_
              refine lv_istore_n (lv' := [(3, .int 0), (0, .ref a), (1, .int p1), (2, .int p2)]) hx hb dX11_peel_68 rfl hl (by decide) rfl (fun ls hl => ?_)
              have L23804134 : ∀ (n : Nat) (x23803767 : Int32) (x23803768 : Int32) (f23803769 : Nat → Int32) (f23803770 : Nat → Int32) (f23803771 : Nat → Int32) (H : Heap) (locs : List Loc) (ls : Array Slot), (0 ≤ x23803767.toInt ∧ x23803767.toInt ≤ 11) → (0 ≤ x23803768.toInt ∧ x23803768.toInt ≤ 8) → (x23803768.toInt ≤ x23803767.toInt) → (12 - x23803767.toInt).toNat < n → va_P D vwCl [(a, .inr (11, OX z i1 i2 i3 i4 i5 i6 i7 i8 i30 i43 i45 i46 i47 i48 i49 i50 i51 i58 i59 i65 i68 i69 i72 i78 i80 i81 i82 i87 x23803768 i96 i100 i103 i104)), ((z 83), .inl (T 0, 64, .inl g83)), ((z 86), .inl (T 0, 64, .inl g86)), ((z 93), .inl (T 0, 8, .inl f23803769)), ((z 94), .inl (T 0, 8, .inl f23803770)), ((z 95), .inl (T 0, 8, .inl f23803771))] H → va_D A [(a, .inr (11, OX z i1 i2 i3 i4 i5 i6 i7 i8 i30 i43 i45 i46 i47 i48 i49 i50 i51 i58 i59 i65 i68 i69 i72 i78 i80 i81 i82 i87 x23803768 i96 i100 i103 i104)), ((z 83), .inl (T 0, 64, .inl g83)), ((z 86), .inl (T 0, 64, .inl g86)), ((z 93), .inl (T 0, 8, .inl f23803769)), ((z 94), .inl (T 0, 8, .inl f23803770)), ((z 95), .inl (T 0, 8, .inl f23803771))] → va_S A s.heap H locs → lv_has ls 12 [(3, .int x23803767), (0, .ref a), (1, .int p1), (2, .int p2)] → W p l e { frames := 1, cells := 0, slots := 0, locals := 25 } s m args below meth c H locs 0 0 (MQ below ((Qi (S := Int32 × (Nat → Int32) × (Nat → Int32) × (Nat → Int32)) (fun (r : Int32) (u : Int32 × (Nat → Int32) × (Nat → Int32) × (Nat → Int32)) => match u with | (ui92, ug93, ug94, ug95) => (-1 ≤ ui92.toInt ∧ ui92.toInt ≤ 8) ∧ (-1 ≤ r.toInt ∧ r.toInt ≤ 8)) (fun (u : Int32 × (Nat → Int32) × (Nat → Int32) × (Nat → Int32)) => match u with | (ui92, ug93, ug94, ug95) => [(a, .inr (11, OX z i1 i2 i3 i4 i5 i6 i7 i8 i30 i43 i45 i46 i47 i48 i49 i50 i51 i58 i59 i65 i68 i69 i72 i78 i80 i81 i82 i87 ui92 i96 i100 i103 i104)), ((z 83), .inl (T 0, 64, .inl g83)), ((z 86), .inl (T 0, 64, .inl g86)), ((z 93), .inl (T 0, 8, .inl ug93)), ((z 94), .inl (T 0, 8, .inl ug94)), ((z 95), .inl (T 0, 8, .inl ug95))]) D) A) args s 0 0 A) (F0 m 69 ls []) := by
                intro n
                induction n with
                | zero =>
                  intro x23803767 x23803768 f23803769 f23803770 f23803771 H locs ls hx23803767 hx23803768 hr23804135 hms hP hD hS hl
                  exact absurd hms (Nat.not_lt_zero _)
                | succ n ih23804136 =>
                  intro x23803767 x23803768 f23803769 f23803770 f23803771 H locs ls hx23803767 hx23803768 hr23804135 hms hP hD hS hl
                  refine lv_iload_n hx hb dX11_peel_69 rfl (lv_at hl 0 rfl) ?_
                  refine lv_aload_n hx hb dX11_peel_70 rfl (lv_at hl 1 rfl) ?_
                  refine r_get (v := .int i82) C0 hE ffX11_82 mw_872 hP 0 rfl ox_82 dX11_peel_71 ?_
                  refine lv_icmp_ge (tgt := 321) hx hb dX11_peel_74 (by decide) (fun c23804137 => ?_) (fun c23804137 => ?_)
                  · skip
                    have kc23804137 : i82.toInt ≤ x23803767.toInt := le_ti rfl rfl c23804137
                    refine lv_aload_n hx hb dX11_peel_321 rfl (lv_at hl 1 rfl) ?_
                    refine r_get (v := .int x23803768) C0 hE ffX11_92 mw_882 hP 0 rfl ox_92 dX11_peel_322 ?_
                    exact r_iret (x23803768, f23803769, f23803770, f23803771) C0 hr hlocks hS (Nat.le_refl _) (Nat.le_refl _) dX11_peel_325 ⟨⟨by omega, by omega⟩, ⟨by omega, by omega⟩⟩ (hP.sub (ws' := [(a, .inr (11, OX z i1 i2 i3 i4 i5 i6 i7 i8 i30 i43 i45 i46 i47 i48 i49 i50 i51 i58 i59 i65 i68 i69 i72 i78 i80 i81 i82 i87 x23803768 i96 i100 i103 i104)), ((z 83), .inl (T 0, 64, .inl g83)), ((z 86), .inl (T 0, 64, .inl g86)), ((z 93), .inl (T 0, 8, .inl f23803769)), ((z 94), .inl (T 0, 8, .inl f23803770)), ((z 95), .inl (T 0, 8, .inl f23803771))]) [0, 1, 2, 3, 4, 5] rfl) (hD.sub (ws' := [(a, .inr (11, OX z i1 i2 i3 i4 i5 i6 i7 i8 i30 i43 i45 i46 i47 i48 i49 i50 i51 i58 i59 i65 i68 i69 i72 i78 i80 i81 i82 i87 x23803768 i96 i100 i103 i104)), ((z 83), .inl (T 0, 64, .inl g83)), ((z 86), .inl (T 0, 64, .inl g86)), ((z 93), .inl (T 0, 8, .inl f23803769)), ((z 94), .inl (T 0, 8, .inl f23803770)), ((z 95), .inl (T 0, 8, .inl f23803771))]) [0, 1, 2, 3, 4, 5] (by decide +kernel) rfl)
                  · skip
                    have kc23804137 : x23803767.toInt < i82.toInt := nle_ti rfl rfl c23804137
                    refine lv_iconst (v := 0) hx hb dX11_peel_77 (by decide) ?_
                    refine lv_istore (lv' := [(4, .int 0), (3, .int x23803767), (0, .ref a), (1, .int p1), (2, .int p2)]) hx hb dX11_peel_78 hl (by decide) rfl (fun ls hl => ?_)
                    refine lv_iconst (v := 0) hx hb dX11_peel_80 (by decide) ?_
                    refine lv_istore (lv' := [(5, .int 0), (4, .int 0), (3, .int x23803767), (0, .ref a), (1, .int p1), (2, .int p2)]) hx hb dX11_peel_81 hl (by decide) rfl (fun ls hl => ?_)
                    have L23804544 : ∀ (n : Nat) (x23804534 : Int32) (x23804535 : Int32) (H : Heap) (locs : List Loc) (ls : Array Slot), (0 ≤ x23804534.toInt ∧ x23804534.toInt ≤ 4) → (0 ≤ x23804535.toInt ∧ x23804535.toInt ≤ 60) → (((x23804534.toInt = 0 ∧ x23804535.toInt = 0) ∨ (0 < x23804534.toInt ∧ 1 ≤ x23804535.toInt)) ∧ x23804535.toInt ≤ 15 * x23804534.toInt) → (5 - x23804534.toInt).toNat < n → va_P D vwCl [(a, .inr (11, OX z i1 i2 i3 i4 i5 i6 i7 i8 i30 i43 i45 i46 i47 i48 i49 i50 i51 i58 i59 i65 i68 i69 i72 i78 i80 i81 i82 i87 x23803768 i96 i100 i103 i104)), ((z 83), .inl (T 0, 64, .inl g83)), ((z 86), .inl (T 0, 64, .inl g86)), ((z 93), .inl (T 0, 8, .inl f23803769)), ((z 94), .inl (T 0, 8, .inl f23803770)), ((z 95), .inl (T 0, 8, .inl f23803771))] H → va_D A [(a, .inr (11, OX z i1 i2 i3 i4 i5 i6 i7 i8 i30 i43 i45 i46 i47 i48 i49 i50 i51 i58 i59 i65 i68 i69 i72 i78 i80 i81 i82 i87 x23803768 i96 i100 i103 i104)), ((z 83), .inl (T 0, 64, .inl g83)), ((z 86), .inl (T 0, 64, .inl g86)), ((z 93), .inl (T 0, 8, .inl f23803769)), ((z 94), .inl (T 0, 8, .inl f23803770)), ((z 95), .inl (T 0, 8, .inl f23803771))] → va_S A s.heap H locs → lv_has ls 12 [(5, .int x23804534), (4, .int x23804535), (3, .int x23803767), (0, .ref a), (1, .int p1), (2, .int p2)] → W p l e { frames := 1, cells := 0, slots := 0, locals := 25 } s m args below meth c H locs 0 0 (MQ below ((Qi (S := Int32 × (Nat → Int32) × (Nat → Int32) × (Nat → Int32)) (fun (r : Int32) (u : Int32 × (Nat → Int32) × (Nat → Int32) × (Nat → Int32)) => match u with | (ui92, ug93, ug94, ug95) => (-1 ≤ ui92.toInt ∧ ui92.toInt ≤ 8) ∧ (-1 ≤ r.toInt ∧ r.toInt ≤ 8)) (fun (u : Int32 × (Nat → Int32) × (Nat → Int32) × (Nat → Int32)) => match u with | (ui92, ug93, ug94, ug95) => [(a, .inr (11, OX z i1 i2 i3 i4 i5 i6 i7 i8 i30 i43 i45 i46 i47 i48 i49 i50 i51 i58 i59 i65 i68 i69 i72 i78 i80 i81 i82 i87 ui92 i96 i100 i103 i104)), ((z 83), .inl (T 0, 64, .inl g83)), ((z 86), .inl (T 0, 64, .inl g86)), ((z 93), .inl (T 0, 8, .inl ug93)), ((z 94), .inl (T 0, 8, .inl ug94)), ((z 95), .inl (T 0, 8, .inl ug95))]) D) A) args s 0 0 A) (F0 m 83 ls []) := by
                      intro n
                      induction n with
                      | zero =>
                        intro x23804534 x23804535 H locs ls hx23804534 hx23804535 hAL hms hP hD hS hl
                        exact absurd hms (Nat.not_lt_zero _)
                      | succ n ih23804545 =>
                        intro x23804534 x23804535 H locs ls hx23804534 hx23804535 hAL hms hP hD hS hl
                        refine lv_iload hx hb dX11_peel_83 (lv_at hl 0 rfl) ?_
                        refine lv_iconst (v := 4) hx hb dX11_peel_85 (by decide) ?_
                        refine lv_icmp_ge (tgt := 120) hx hb dX11_peel_86 (by decide) (fun c23804546 => ?_) (fun c23804546 => ?_)
                        · skip
                          have kc23804546 : 4 ≤ x23804534.toInt := le_ti (by decide) rfl c23804546
                          have hfx23804535 : 1 ≤ x23804535.toInt := by omega
                          refine lv_iload_n hx hb dX11_peel_120 rfl (lv_at hl 5 rfl) ?_
                          refine lv_bipush (v := 15) hx hb dX11_peel_121 (by decide) ?_
                          refine lv_iand hx hb dX11_peel_123 ?_
                          refine lv_topi (fun x23804547 ex23804547 => ?_)
                          have hx23804547 : 0 ≤ x23804547.toInt ∧ x23804547.toInt ≤ 15 := and_ti 15 4 (by decide) (by decide) (by decide) ex23804547
                          have hfx23804547 : 1 ≤ x23804547.toInt := by rw [ex23804547]; omega
                          refine lv_istore (lv' := [(5, .int x23804547), (4, .int x23804535), (3, .int x23803767), (0, .ref a), (1, .int p1), (2, .int p2)]) hx hb dX11_peel_124 hl (by decide) rfl (fun ls hl => ?_)
                          refine lv_iload_n hx hb dX11_peel_126 rfl (lv_at hl 4 rfl) ?_
                          have J23804552 : ∀ (x23804551 : Int32) (H : Heap) (locs : List Loc) (ls : Array Slot), (-7 ≤ x23804551.toInt ∧ x23804551.toInt ≤ 7) → va_P D vwCl [(a, .inr (11, OX z i1 i2 i3 i4 i5 i6 i7 i8 i30 i43 i45 i46 i47 i48 i49 i50 i51 i58 i59 i65 i68 i69 i72 i78 i80 i81 i82 i87 x23803768 i96 i100 i103 i104)), ((z 83), .inl (T 0, 64, .inl g83)), ((z 86), .inl (T 0, 64, .inl g86)), ((z 93), .inl (T 0, 8, .inl f23803769)), ((z 94), .inl (T 0, 8, .inl f23803770)), ((z 95), .inl (T 0, 8, .inl f23803771))] H → va_D A [(a, .inr (11, OX z i1 i2 i3 i4 i5 i6 i7 i8 i30 i43 i45 i46 i47 i48 i49 i50 i51 i58 i59 i65 i68 i69 i72 i78 i80 i81 i82 i87 x23803768 i96 i100 i103 i104)), ((z 83), .inl (T 0, 64, .inl g83)), ((z 86), .inl (T 0, 64, .inl g86)), ((z 93), .inl (T 0, 8, .inl f23803769)), ((z 94), .inl (T 0, 8, .inl f23803770)), ((z 95), .inl (T 0, 8, .inl f23803771))] → va_S A s.heap H locs → lv_has ls 12 [(5, .int x23804547), (4, .int x23804535), (3, .int x23803767), (0, .ref a), (1, .int p1), (2, .int p2)] → W p l e { frames := 1, cells := 0, slots := 0, locals := 25 } s m args below meth c H locs 0 0 (MQ below ((Qi (S := Int32 × (Nat → Int32) × (Nat → Int32) × (Nat → Int32)) (fun (r : Int32) (u : Int32 × (Nat → Int32) × (Nat → Int32) × (Nat → Int32)) => match u with | (ui92, ug93, ug94, ug95) => (-1 ≤ ui92.toInt ∧ ui92.toInt ≤ 8) ∧ (-1 ≤ r.toInt ∧ r.toInt ≤ 8)) (fun (u : Int32 × (Nat → Int32) × (Nat → Int32) × (Nat → Int32)) => match u with | (ui92, ug93, ug94, ug95) => [(a, .inr (11, OX z i1 i2 i3 i4 i5 i6 i7 i8 i30 i43 i45 i46 i47 i48 i49 i50 i51 i58 i59 i65 i68 i69 i72 i78 i80 i81 i82 i87 ui92 i96 i100 i103 i104)), ((z 83), .inl (T 0, 64, .inl g83)), ((z 86), .inl (T 0, 64, .inl g86)), ((z 93), .inl (T 0, 8, .inl ug93)), ((z 94), .inl (T 0, 8, .inl ug94)), ((z 95), .inl (T 0, 8, .inl ug95))]) D) A) args s 0 0 A) (F0 m 142 ls [.int x23804551]) := by
                            intro x23804551 H locs ls hx23804551 hP hD hS hl
                            refine lv_istore (lv' := [(6, .int x23804551), (5, .int x23804547), (4, .int x23804535), (3, .int x23803767), (0, .ref a), (1, .int p1), (2, .int p2)]) hx hb dX11_peel_142 hl (by decide) rfl (fun ls hl => ?_)
                            refine lv_aload_n hx hb dX11_peel_144 rfl (lv_at hl 4 rfl) ?_
                            refine lv_iload hx hb dX11_peel_145 (lv_at hl 0 rfl) ?_
                            refine r_calli (wr := [((z 93), .inl (T 0, 8, .inl f23803769)), ((z 94), .inl (T 0, 8, .inl f23803770)), ((z 95), .inl (T 0, 8, .inl f23803771))]) (r_runV2 (As := [.int x23804551]) (rest := []) (wc := [(a, .inr (11, OX z i1 i2 i3 i4 i5 i6 i7 i8 i30 i43 i45 i46 i47 i48 i49 i50 i51 i58 i59 i65 i68 i69 i72 i78 i80 i81 i82 i87 x23803768 i96 i100 i103 i104)), ((z 83), .inl (T 0, 64, .inl g83)), ((z 86), .inl (T 0, 64, .inl g86))]) (ci := 11) C0 hE hStr hS (va_free (wc := [(a, .inr (11, OX z i1 i2 i3 i4 i5 i6 i7 i8 i30 i43 i45 i46 i47 i48 i49 i50 i51 i58 i59 i65 i68 i69 i72 i78 i80 i81 i82 i87 x23803768 i96 i100 i103 i104)), ((z 83), .inl (T 0, 64, .inl g83)), ((z 86), .inl (T 0, 64, .inl g86))]) hD hS hA [0, 1, 2] rfl) (h_X11_holdOf_23700247 l D T sq sv H.size a z i1 i2 i3 i4 i5 i6 i7 i8 i30 i43 i45 i46 i47 i48 i49 i50 i51 i58 i59 i65 i68 i69 i72 i78 i80 i81 i82 i87 x23803768 i96 i100 i103 i104 x23804551 g83 g86 ⟨by omega, by omega⟩ ⟨by omega, by omega⟩) mw_1194 mw_1195 mw_1348 mw_14 mw_1196 dn_1787 rfl rfl ⟨Nat.le_of_ble_eq_true rfl, Nat.le_of_ble_eq_true rfl⟩ (hP.sub (ws' := [(a, .inr (11, OX z i1 i2 i3 i4 i5 i6 i7 i8 i30 i43 i45 i46 i47 i48 i49 i50 i51 i58 i59 i65 i68 i69 i72 i78 i80 i81 i82 i87 x23803768 i96 i100 i103 i104)), ((z 83), .inl (T 0, 64, .inl g83)), ((z 86), .inl (T 0, 64, .inl g86))]) [0, 1, 2] rfl) (hD.sub (ws' := [(a, .inr (11, OX z i1 i2 i3 i4 i5 i6 i7 i8 i30 i43 i45 i46 i47 i48 i49 i50 i51 i58 i59 i65 i68 i69 i72 i78 i80 i81 i82 i87 x23803768 i96 i100 i103 i104)), ((z 83), .inl (T 0, 64, .inl g83)), ((z 86), .inl (T 0, 64, .inl g86))]) [0, 1, 2] (by decide +kernel) rfl) rfl rfl rfl hl.1 rfl (Nat.le_of_ble_eq_true rfl) dX11_peel_147 ⟨Nat.le_of_ble_eq_true rfl, Nat.le_of_ble_eq_true rfl⟩) hP hD hS hA [0, 1, 2] [3, 4, 5] rfl rfl (by decide +kernel) (by decide +kernel) (fun x23804553 u H locs hq hP hD hS => ?_)
                            have hP : va_P D vwCl [((z 93), .inl (T 0, 8, .inl f23803769)), ((z 94), .inl (T 0, 8, .inl f23803770)), ((z 95), .inl (T 0, 8, .inl f23803771)), (a, .inr (11, OX z i1 i2 i3 i4 i5 i6 i7 i8 i30 i43 i45 i46 i47 i48 i49 i50 i51 i58 i59 i65 i68 i69 i72 i78 i80 i81 i82 i87 x23803768 i96 i100 i103 i104)), ((z 83), .inl (T 0, 64, .inl g83)), ((z 86), .inl (T 0, 64, .inl g86))] H := hP
                            have hD : va_D A [((z 93), .inl (T 0, 8, .inl f23803769)), ((z 94), .inl (T 0, 8, .inl f23803770)), ((z 95), .inl (T 0, 8, .inl f23803771)), (a, .inr (11, OX z i1 i2 i3 i4 i5 i6 i7 i8 i30 i43 i45 i46 i47 i48 i49 i50 i51 i58 i59 i65 i68 i69 i72 i78 i80 i81 i82 i87 x23803768 i96 i100 i103 i104)), ((z 83), .inl (T 0, 64, .inl g83)), ((z 86), .inl (T 0, 64, .inl g86))] := hD
                            refine W.widen (k := 0) (n := 0) (Nat.le_refl _) (Nat.le_refl _) ?_
                            refine lv_i2l hx hb dX11_peel_150 rfl ?_
                            refine lv_topl (fun x23804554 ex23804554 => ?_)
                            have hx23804554 : x23804554.toInt = x23804553.toInt := by rw [ex23804554]; exact Int32.toInt_toInt64 _
                            refine lv_iload hx hb dX11_peel_151 (lv_at hl 2 rfl) ?_
                            refine lv_i2l hx hb dX11_peel_153 rfl ?_
                            refine lv_topl (fun x23804555 ex23804555 => ?_)
                            have hx23804555 : x23804555.toInt = x23804535.toInt := by rw [ex23804555]; exact Int32.toInt_toInt64 _
                            refine lv_lmul hx hb dX11_peel_154 ?_
                            refine lv_topl (fun x23804556 ex23804556 => ?_)
                            refine lv_iload hx hb dX11_peel_155 (lv_at hl 1 rfl) ?_
                            refine lv_i2l hx hb dX11_peel_157 rfl ?_
                            refine lv_topl (fun x23804557 ex23804557 => ?_)
                            have hx23804557 : x23804557.toInt = x23804547.toInt := by rw [ex23804557]; exact Int32.toInt_toInt64 _
                            refine lv_ladd hx hb dX11_peel_158 ?_
                            refine lv_topl (fun x23804558 ex23804558 => ?_)
                            refine lv_lconst (v := 1) hx hb dX11_peel_159 (by decide) ?_
                            refine lv_lsub hx hb dX11_peel_160 ?_
                            refine lv_topl (fun x23804559 ex23804559 => ?_)
                            refine lv_iload hx hb dX11_peel_161 (lv_at hl 1 rfl) ?_
                            refine lv_i2l hx hb dX11_peel_163 rfl ?_
                            refine lv_topl (fun x23804560 ex23804560 => ?_)
                            have hx23804560 : x23804560.toInt = x23804547.toInt := by rw [ex23804560]; exact Int32.toInt_toInt64 _
                            refine lv_ldiv hx hb dX11_peel_164 (by rw [ex23804560]; exact nz_l rfl (by omega)) ?_
                            refine lv_topl (fun x23804561 ex23804561 => ?_)
                            refine lv_lstore (lv' := [(7, .long x23804561), (6, .int x23804551), (5, .int x23804547), (4, .int x23804535), (3, .int x23803767), (0, .ref a), (1, .int p1), (2, .int p2)]) hx hb dX11_peel_165 hl (by decide) rfl (fun ls hl => ?_)
                            refine lv_iconst (v := 0) hx hb dX11_peel_167 (by decide) ?_
                            refine lv_istore (lv' := [(9, .int 0), (7, .long x23804561), (6, .int x23804551), (5, .int x23804547), (4, .int x23804535), (3, .int x23803767), (0, .ref a), (1, .int p1), (2, .int p2)]) hx hb dX11_peel_168 hl (by decide) rfl (fun ls hl => ?_)
                            refine lv_iconst (v := 1) hx hb dX11_peel_170 (by decide) ?_
                            refine lv_istore (lv' := [(10, .int 1), (9, .int 0), (7, .long x23804561), (6, .int x23804551), (5, .int x23804547), (4, .int x23804535), (3, .int x23803767), (0, .ref a), (1, .int p1), (2, .int p2)]) hx hb dX11_peel_171 hl (by decide) rfl (fun ls hl => ?_)
                            refine lv_iconst (v := 1) hx hb dX11_peel_173 (by decide) ?_
                            refine lv_istore (lv' := [(11, .int 1), (10, .int 1), (9, .int 0), (7, .long x23804561), (6, .int x23804551), (5, .int x23804547), (4, .int x23804535), (3, .int x23803767), (0, .ref a), (1, .int p1), (2, .int p2)]) hx hb dX11_peel_174 hl (by decide) rfl (fun ls hl => ?_)
                            have J23804672 : ∀ (x23804669 : Int32) (x23804670 : Int32) (x23804671 : Int32) (H : Heap) (locs : List Loc) (ls : Array Slot), (1 ≤ x23804669.toInt ∧ x23804669.toInt ≤ 4) → (0 ≤ x23804670.toInt ∧ x23804670.toInt ≤ 1) → (0 ≤ x23804671.toInt ∧ x23804671.toInt ≤ 3) → va_P D vwCl [((z 93), .inl (T 0, 8, .inl f23803769)), ((z 94), .inl (T 0, 8, .inl f23803770)), ((z 95), .inl (T 0, 8, .inl f23803771)), (a, .inr (11, OX z i1 i2 i3 i4 i5 i6 i7 i8 i30 i43 i45 i46 i47 i48 i49 i50 i51 i58 i59 i65 i68 i69 i72 i78 i80 i81 i82 i87 x23803768 i96 i100 i103 i104)), ((z 83), .inl (T 0, 64, .inl g83)), ((z 86), .inl (T 0, 64, .inl g86))] H → va_D A [((z 93), .inl (T 0, 8, .inl f23803769)), ((z 94), .inl (T 0, 8, .inl f23803770)), ((z 95), .inl (T 0, 8, .inl f23803771)), (a, .inr (11, OX z i1 i2 i3 i4 i5 i6 i7 i8 i30 i43 i45 i46 i47 i48 i49 i50 i51 i58 i59 i65 i68 i69 i72 i78 i80 i81 i82 i87 x23803768 i96 i100 i103 i104)), ((z 83), .inl (T 0, 64, .inl g83)), ((z 86), .inl (T 0, 64, .inl g86))] → va_S A s.heap H locs → lv_has ls 12 [(11, .int x23804669), (10, .int x23804670), (9, .int x23804671), (7, .long x23804561), (6, .int x23804551), (5, .int x23804547), (4, .int x23804535), (3, .int x23803767), (0, .ref a), (1, .int p1), (2, .int p2)] → W p l e { frames := 1, cells := 0, slots := 0, locals := 25 } s m args below meth c H locs 0 0 (MQ below ((Qi (S := Int32 × (Nat → Int32) × (Nat → Int32) × (Nat → Int32)) (fun (r : Int32) (u : Int32 × (Nat → Int32) × (Nat → Int32) × (Nat → Int32)) => match u with | (ui92, ug93, ug94, ug95) => (-1 ≤ ui92.toInt ∧ ui92.toInt ≤ 8) ∧ (-1 ≤ r.toInt ∧ r.toInt ≤ 8)) (fun (u : Int32 × (Nat → Int32) × (Nat → Int32) × (Nat → Int32)) => match u with | (ui92, ug93, ug94, ug95) => [(a, .inr (11, OX z i1 i2 i3 i4 i5 i6 i7 i8 i30 i43 i45 i46 i47 i48 i49 i50 i51 i58 i59 i65 i68 i69 i72 i78 i80 i81 i82 i87 ui92 i96 i100 i103 i104)), ((z 83), .inl (T 0, 64, .inl g83)), ((z 86), .inl (T 0, 64, .inl g86)), ((z 93), .inl (T 0, 8, .inl ug93)), ((z 94), .inl (T 0, 8, .inl ug94)), ((z 95), .inl (T 0, 8, .inl ug95))]) D) A) args s 0 0 A) (F0 m 267 ls []) := by
                              intro x23804669 x23804670 x23804671 H locs ls hx23804669 hx23804670 hx23804671 hP hD hS hl
                              refine lv_aload_n hx hb dX11_peel_267 rfl (lv_at hl 8 rfl) ?_
                              refine r_get (v := .ref (z 93)) C0 hE ffX11_93 mw_883 hP 3 rfl ox_93 dX11_peel_268 ?_
                              refine lv_aload_n hx hb dX11_peel_271 rfl (lv_at hl 8 rfl) ?_
                              refine r_get (v := .int x23803768) C0 hE ffX11_92 mw_882 hP 3 rfl ox_92 dX11_peel_272 ?_
                              refine lv_iload hx hb dX11_peel_275 (lv_at hl 4 rfl) ?_
                              refine r_iastX hx hb hK hP hD hS 0 rfl (in_ti rfl (by omega) (by omega)) dX11_peel_277 (fun f23804673 ef23804673 H locs hP hD hS => ?_)
                              have hP : va_P D vwCl [((z 93), .inl (T 0, 8, .inl f23804673)), ((z 94), .inl (T 0, 8, .inl f23803770)), ((z 95), .inl (T 0, 8, .inl f23803771)), (a, .inr (11, OX z i1 i2 i3 i4 i5 i6 i7 i8 i30 i43 i45 i46 i47 i48 i49 i50 i51 i58 i59 i65 i68 i69 i72 i78 i80 i81 i82 i87 x23803768 i96 i100 i103 i104)), ((z 83), .inl (T 0, 64, .inl g83)), ((z 86), .inl (T 0, 64, .inl g86))] H := hP
                              have hD : va_D A [((z 93), .inl (T 0, 8, .inl f23804673)), ((z 94), .inl (T 0, 8, .inl f23803770)), ((z 95), .inl (T 0, 8, .inl f23803771)), (a, .inr (11, OX z i1 i2 i3 i4 i5 i6 i7 i8 i30 i43 i45 i46 i47 i48 i49 i50 i51 i58 i59 i65 i68 i69 i72 i78 i80 i81 i82 i87 x23803768 i96 i100 i103 i104)), ((z 83), .inl (T 0, 64, .inl g83)), ((z 86), .inl (T 0, 64, .inl g86))] := hD
                              refine lv_aload_n hx hb dX11_peel_278 rfl (lv_at hl 8 rfl) ?_
                              refine r_get (v := .ref (z 94)) C0 hE ffX11_94 mw_884 hP 3 rfl ox_94 dX11_peel_279 ?_
                              refine lv_aload_n hx hb dX11_peel_282 rfl (lv_at hl 8 rfl) ?_
                              refine r_get (v := .int x23803768) C0 hE ffX11_92 mw_882 hP 3 rfl ox_92 dX11_peel_283 ?_
                              refine lv_lload hx hb dX11_peel_286 (lv_at hl 3 rfl) ?_
                              refine lv_l2i hx hb dX11_peel_288 rfl ?_
                              refine lv_topi (fun x23804674 ex23804674 => ?_)
                              refine r_iastX hx hb hK hP hD hS 1 rfl (in_ti rfl (by omega) (by omega)) dX11_peel_289 (fun f23804675 ef23804675 H locs hP hD hS => ?_)
                              have hP : va_P D vwCl [((z 93), .inl (T 0, 8, .inl f23804673)), ((z 94), .inl (T 0, 8, .inl f23804675)), ((z 95), .inl (T 0, 8, .inl f23803771)), (a, .inr (11, OX z i1 i2 i3 i4 i5 i6 i7 i8 i30 i43 i45 i46 i47 i48 i49 i50 i51 i58 i59 i65 i68 i69 i72 i78 i80 i81 i82 i87 x23803768 i96 i100 i103 i104)), ((z 83), .inl (T 0, 64, .inl g83)), ((z 86), .inl (T 0, 64, .inl g86))] H := hP
                              have hD : va_D A [((z 93), .inl (T 0, 8, .inl f23804673)), ((z 94), .inl (T 0, 8, .inl f23804675)), ((z 95), .inl (T 0, 8, .inl f23803771)), (a, .inr (11, OX z i1 i2 i3 i4 i5 i6 i7 i8 i30 i43 i45 i46 i47 i48 i49 i50 i51 i58 i59 i65 i68 i69 i72 i78 i80 i81 i82 i87 x23803768 i96 i100 i103 i104)), ((z 83), .inl (T 0, 64, .inl g83)), ((z 86), .inl (T 0, 64, .inl g86))] := hD
                              refine lv_aload_n hx hb dX11_peel_290 rfl (lv_at hl 8 rfl) ?_
                              refine r_get (v := .ref (z 95)) C0 hE ffX11_95 mw_885 hP 3 rfl ox_95 dX11_peel_291 ?_
                              refine lv_aload_n hx hb dX11_peel_294 rfl (lv_at hl 8 rfl) ?_
                              refine r_get (v := .int x23803768) C0 hE ffX11_92 mw_882 hP 3 rfl ox_92 dX11_peel_295 ?_
                              refine lv_iload hx hb dX11_peel_298 (lv_at hl 2 rfl) ?_
                              refine r_iastX hx hb hK hP hD hS 2 rfl (in_ti rfl (by omega) (by omega)) dX11_peel_300 (fun f23804676 ef23804676 H locs hP hD hS => ?_)
                              have hP : va_P D vwCl [((z 93), .inl (T 0, 8, .inl f23804673)), ((z 94), .inl (T 0, 8, .inl f23804675)), ((z 95), .inl (T 0, 8, .inl f23804676)), (a, .inr (11, OX z i1 i2 i3 i4 i5 i6 i7 i8 i30 i43 i45 i46 i47 i48 i49 i50 i51 i58 i59 i65 i68 i69 i72 i78 i80 i81 i82 i87 x23803768 i96 i100 i103 i104)), ((z 83), .inl (T 0, 64, .inl g83)), ((z 86), .inl (T 0, 64, .inl g86))] H := hP
                              have hD : va_D A [((z 93), .inl (T 0, 8, .inl f23804673)), ((z 94), .inl (T 0, 8, .inl f23804675)), ((z 95), .inl (T 0, 8, .inl f23804676)), (a, .inr (11, OX z i1 i2 i3 i4 i5 i6 i7 i8 i30 i43 i45 i46 i47 i48 i49 i50 i51 i58 i59 i65 i68 i69 i72 i78 i80 i81 i82 i87 x23803768 i96 i100 i103 i104)), ((z 83), .inl (T 0, 64, .inl g83)), ((z 86), .inl (T 0, 64, .inl g86))] := hD
                              refine lv_aload_n hx hb dX11_peel_301 rfl (lv_at hl 8 rfl) ?_
                              refine lv_dup hx hb dX11_peel_302 rfl ?_
                              refine r_get (v := .int x23803768) C0 hE ffX11_92 mw_882 hP 3 rfl ox_92 dX11_peel_303 ?_
                              refine lv_iconst (v := 1) hx hb dX11_peel_306 (by decide) ?_
                              refine lv_iadd hx hb dX11_peel_307 ?_
                              refine lv_topi (fun x23804677 ex23804677 => ?_)
                              have hx23804677 : x23804677.toInt = x23803768.toInt + 1 := ti_add ex23804677 rfl (by decide) (by omega) (by omega)
                              refine r_put (v := .int x23804677) (ty := .int) (ws1 := [((z 93), .inl (T 0, 8, .inl f23804673)), ((z 94), .inl (T 0, 8, .inl f23804675)), ((z 95), .inl (T 0, 8, .inl f23804676)), (a, .inr (11, OX z i1 i2 i3 i4 i5 i6 i7 i8 i30 i43 i45 i46 i47 i48 i49 i50 i51 i58 i59 i65 i68 i69 i72 i78 i80 i81 i82 i87 x23804677 i96 i100 i103 i104)), ((z 83), .inl (T 0, 64, .inl g83)), ((z 86), .inl (T 0, 64, .inl g86))]) C0 hE ffX11_92 tyX11 tyX11_ok nmX11 mw_882 pf_1358 hP hD hS 3 rfl rfl rfl ol_92 os_92 rfl dX11_peel_308 (fun H locs hP hD hS => ?_)
                              refine lv_iload_n hx hb dX11_peel_311 rfl (lv_at hl 7 rfl) ?_
                              refine lv_iconst (v := 1) hx hb dX11_peel_312 (by decide) ?_
                              refine lv_iload hx hb dX11_peel_313 (lv_at hl 2 rfl) ?_
                              refine lv_iadd hx hb dX11_peel_315 ?_
                              refine lv_topi (fun x23804678 ex23804678 => ?_)
                              have hx23804678 : x23804678.toInt = 1 + x23804671.toInt := ti_add ex23804678 (by decide) rfl (by omega) (by omega)
                              refine lv_iadd hx hb dX11_peel_316 ?_
                              refine lv_topi (fun x23804679 ex23804679 => ?_)
                              have hx23804679 : x23804679.toInt = x23803767.toInt + x23804678.toInt := ti_add ex23804679 rfl rfl (by omega) (by omega)
                              refine lv_istore_n (lv' := [(3, .int x23804679), (11, .int x23804669), (10, .int x23804670), (9, .int x23804671), (7, .long x23804561), (6, .int x23804551), (5, .int x23804547), (4, .int x23804535), (0, .ref a), (1, .int p1), (2, .int p2)]) hx hb dX11_peel_317 rfl hl (by decide) rfl (fun ls hl => ?_)
                              refine lv_goto (tgt := 69) hx hb dX11_peel_318 (by decide) ?_
                              exact ih23804136 x23804679 x23804677 f23804673 f23804675 f23804676 _ _ ls ⟨by omega, by omega⟩ ⟨by omega, by omega⟩ (by omega) (by omega) (hP.sub (ws' := [(a, .inr (11, OX z i1 i2 i3 i4 i5 i6 i7 i8 i30 i43 i45 i46 i47 i48 i49 i50 i51 i58 i59 i65 i68 i69 i72 i78 i80 i81 i82 i87 x23804677 i96 i100 i103 i104)), ((z 83), .inl (T 0, 64, .inl g83)), ((z 86), .inl (T 0, 64, .inl g86)), ((z 93), .inl (T 0, 8, .inl f23804673)), ((z 94), .inl (T 0, 8, .inl f23804675)), ((z 95), .inl (T 0, 8, .inl f23804676))]) [3, 4, 5, 0, 1, 2] rfl) (hD.sub (ws' := [(a, .inr (11, OX z i1 i2 i3 i4 i5 i6 i7 i8 i30 i43 i45 i46 i47 i48 i49 i50 i51 i58 i59 i65 i68 i69 i72 i78 i80 i81 i82 i87 x23804677 i96 i100 i103 i104)), ((z 83), .inl (T 0, 64, .inl g83)), ((z 86), .inl (T 0, 64, .inl g86)), ((z 93), .inl (T 0, 8, .inl f23804673)), ((z 94), .inl (T 0, 8, .inl f23804675)), ((z 95), .inl (T 0, 8, .inl f23804676))]) [3, 4, 5, 0, 1, 2] (by decide +kernel) rfl) hS (lv_sub hl [0, 8, 9, 10] rfl)
                            have L23804680 : ∀ (n : Nat) (x23804640 : Int32) (x23804641 : Int32) (x23804642 : Int32) (H : Heap) (locs : List Loc) (ls : Array Slot), (1 ≤ x23804640.toInt ∧ x23804640.toInt ≤ 4) → (0 ≤ x23804641.toInt ∧ x23804641.toInt ≤ 1) → (0 ≤ x23804642.toInt ∧ x23804642.toInt ≤ 3) → (x23804642.toInt < x23804640.toInt) → (5 - x23804640.toInt).toNat < n → va_P D vwCl [((z 93), .inl (T 0, 8, .inl f23803769)), ((z 94), .inl (T 0, 8, .inl f23803770)), ((z 95), .inl (T 0, 8, .inl f23803771)), (a, .inr (11, OX z i1 i2 i3 i4 i5 i6 i7 i8 i30 i43 i45 i46 i47 i48 i49 i50 i51 i58 i59 i65 i68 i69 i72 i78 i80 i81 i82 i87 x23803768 i96 i100 i103 i104)), ((z 83), .inl (T 0, 64, .inl g83)), ((z 86), .inl (T 0, 64, .inl g86))] H → va_D A [((z 93), .inl (T 0, 8, .inl f23803769)), ((z 94), .inl (T 0, 8, .inl f23803770)), ((z 95), .inl (T 0, 8, .inl f23803771)), (a, .inr (11, OX z i1 i2 i3 i4 i5 i6 i7 i8 i30 i43 i45 i46 i47 i48 i49 i50 i51 i58 i59 i65 i68 i69 i72 i78 i80 i81 i82 i87 x23803768 i96 i100 i103 i104)), ((z 83), .inl (T 0, 64, .inl g83)), ((z 86), .inl (T 0, 64, .inl g86))] → va_S A s.heap H locs → lv_has ls 12 [(11, .int x23804640), (10, .int x23804641), (9, .int x23804642), (7, .long x23804561), (6, .int x23804551), (5, .int x23804547), (4, .int x23804535), (3, .int x23803767), (0, .ref a), (1, .int p1), (2, .int p2)] → W p l e { frames := 1, cells := 0, slots := 0, locals := 25 } s m args below meth c H locs 0 0 (MQ below ((Qi (S := Int32 × (Nat → Int32) × (Nat → Int32) × (Nat → Int32)) (fun (r : Int32) (u : Int32 × (Nat → Int32) × (Nat → Int32) × (Nat → Int32)) => match u with | (ui92, ug93, ug94, ug95) => (-1 ≤ ui92.toInt ∧ ui92.toInt ≤ 8) ∧ (-1 ≤ r.toInt ∧ r.toInt ≤ 8)) (fun (u : Int32 × (Nat → Int32) × (Nat → Int32) × (Nat → Int32)) => match u with | (ui92, ug93, ug94, ug95) => [(a, .inr (11, OX z i1 i2 i3 i4 i5 i6 i7 i8 i30 i43 i45 i46 i47 i48 i49 i50 i51 i58 i59 i65 i68 i69 i72 i78 i80 i81 i82 i87 ui92 i96 i100 i103 i104)), ((z 83), .inl (T 0, 64, .inl g83)), ((z 86), .inl (T 0, 64, .inl g86)), ((z 93), .inl (T 0, 8, .inl ug93)), ((z 94), .inl (T 0, 8, .inl ug94)), ((z 95), .inl (T 0, 8, .inl ug95))]) D) A) args s 0 0 A) (F0 m 176 ls []) := by
                              intro n
                              induction n with
                              | zero =>
                                intro x23804640 x23804641 x23804642 H locs ls hx23804640 hx23804641 hx23804642 hr23804681 hms hP hD hS hl
                                exact absurd hms (Nat.not_lt_zero _)
                              | succ n ih23804682 =>
                                intro x23804640 x23804641 x23804642 H locs ls hx23804640 hx23804641 hx23804642 hr23804681 hms hP hD hS hl
                                refine lv_iload hx hb dX11_peel_176 (lv_at hl 0 rfl) ?_
                                refine lv_iconst (v := 4) hx hb dX11_peel_178 (by decide) ?_
                                refine lv_icmp_ge (tgt := 267) hx hb dX11_peel_179 (by decide) (fun c23804683 => ?_) (fun c23804683 => ?_)
                                · skip
                                  have kc23804683 : 4 ≤ x23804640.toInt := le_ti (by decide) rfl c23804683
                                  exact J23804672 x23804640 x23804641 x23804642 _ _ ls ⟨by omega, by omega⟩ ⟨by omega, by omega⟩ ⟨by omega, by omega⟩ (hP.sub (ws' := [((z 93), .inl (T 0, 8, .inl f23803769)), ((z 94), .inl (T 0, 8, .inl f23803770)), ((z 95), .inl (T 0, 8, .inl f23803771)), (a, .inr (11, OX z i1 i2 i3 i4 i5 i6 i7 i8 i30 i43 i45 i46 i47 i48 i49 i50 i51 i58 i59 i65 i68 i69 i72 i78 i80 i81 i82 i87 x23803768 i96 i100 i103 i104)), ((z 83), .inl (T 0, 64, .inl g83)), ((z 86), .inl (T 0, 64, .inl g86))]) [0, 1, 2, 3, 4, 5] rfl) (hD.sub (ws' := [((z 93), .inl (T 0, 8, .inl f23803769)), ((z 94), .inl (T 0, 8, .inl f23803770)), ((z 95), .inl (T 0, 8, .inl f23803771)), (a, .inr (11, OX z i1 i2 i3 i4 i5 i6 i7 i8 i30 i43 i45 i46 i47 i48 i49 i50 i51 i58 i59 i65 i68 i69 i72 i78 i80 i81 i82 i87 x23803768 i96 i100 i103 i104)), ((z 83), .inl (T 0, 64, .inl g83)), ((z 86), .inl (T 0, 64, .inl g86))]) [0, 1, 2, 3, 4, 5] (by decide +kernel) rfl) hS (lv_sub hl [0, 1, 2, 3, 4, 5, 6, 7, 8, 9, 10] rfl)
                                · skip
                                  have kc23804683 : x23804640.toInt < 4 := nle_ti (by decide) rfl c23804683
                                  refine lv_iload_n hx hb dX11_peel_182 rfl (lv_at hl 7 rfl) ?_
                                  refine lv_iload hx hb dX11_peel_183 (lv_at hl 0 rfl) ?_
                                  refine lv_iadd hx hb dX11_peel_185 ?_
                                  refine lv_topi (fun x23804684 ex23804684 => ?_)
                                  have hx23804684 : x23804684.toInt = x23803767.toInt + x23804640.toInt := ti_add ex23804684 rfl rfl (by omega) (by omega)
                                  refine lv_aload_n hx hb dX11_peel_186 rfl (lv_at hl 8 rfl) ?_
                                  refine r_get (v := .int i82) C0 hE ffX11_82 mw_872 hP 3 rfl ox_82 dX11_peel_187 ?_
                                  refine lv_icmp_ge (tgt := 267) hx hb dX11_peel_190 (by decide) (fun c23804685 => ?_) (fun c23804685 => ?_)
                                  · skip
                                    have kc23804685 : i82.toInt ≤ x23804684.toInt := le_ti rfl rfl c23804685
                                    exact J23804672 x23804640 x23804641 x23804642 _ _ ls ⟨by omega, by omega⟩ ⟨by omega, by omega⟩ ⟨by omega, by omega⟩ (hP.sub (ws' := [((z 93), .inl (T 0, 8, .inl f23803769)), ((z 94), .inl (T 0, 8, .inl f23803770)), ((z 95), .inl (T 0, 8, .inl f23803771)), (a, .inr (11, OX z i1 i2 i3 i4 i5 i6 i7 i8 i30 i43 i45 i46 i47 i48 i49 i50 i51 i58 i59 i65 i68 i69 i72 i78 i80 i81 i82 i87 x23803768 i96 i100 i103 i104)), ((z 83), .inl (T 0, 64, .inl g83)), ((z 86), .inl (T 0, 64, .inl g86))]) [0, 1, 2, 3, 4, 5] rfl) (hD.sub (ws' := [((z 93), .inl (T 0, 8, .inl f23803769)), ((z 94), .inl (T 0, 8, .inl f23803770)), ((z 95), .inl (T 0, 8, .inl f23803771)), (a, .inr (11, OX z i1 i2 i3 i4 i5 i6 i7 i8 i30 i43 i45 i46 i47 i48 i49 i50 i51 i58 i59 i65 i68 i69 i72 i78 i80 i81 i82 i87 x23803768 i96 i100 i103 i104)), ((z 83), .inl (T 0, 64, .inl g83)), ((z 86), .inl (T 0, 64, .inl g86))]) [0, 1, 2, 3, 4, 5] (by decide +kernel) rfl) hS (lv_sub hl [0, 1, 2, 3, 4, 5, 6, 7, 8, 9, 10] rfl)
                                  · skip
                                    have kc23804685 : x23804684.toInt < i82.toInt := nle_ti rfl rfl c23804685
                                    refine lv_iload hx hb dX11_peel_193 (lv_at hl 1 rfl) ?_
                                    refine lv_if_eq (tgt := 267) hx hb dX11_peel_195 (by decide) (fun c23804686 => ?_) (fun c23804686 => ?_)
                                    · skip
                                      have kc23804686 : x23804641.toInt = 0 := eq_ti rfl (by decide) c23804686
                                      exact J23804672 x23804640 x23804641 x23804642 _ _ ls ⟨by omega, by omega⟩ ⟨by omega, by omega⟩ ⟨by omega, by omega⟩ (hP.sub (ws' := [((z 93), .inl (T 0, 8, .inl f23803769)), ((z 94), .inl (T 0, 8, .inl f23803770)), ((z 95), .inl (T 0, 8, .inl f23803771)), (a, .inr (11, OX z i1 i2 i3 i4 i5 i6 i7 i8 i30 i43 i45 i46 i47 i48 i49 i50 i51 i58 i59 i65 i68 i69 i72 i78 i80 i81 i82 i87 x23803768 i96 i100 i103 i104)), ((z 83), .inl (T 0, 64, .inl g83)), ((z 86), .inl (T 0, 64, .inl g86))]) [0, 1, 2, 3, 4, 5] rfl) (hD.sub (ws' := [((z 93), .inl (T 0, 8, .inl f23803769)), ((z 94), .inl (T 0, 8, .inl f23803770)), ((z 95), .inl (T 0, 8, .inl f23803771)), (a, .inr (11, OX z i1 i2 i3 i4 i5 i6 i7 i8 i30 i43 i45 i46 i47 i48 i49 i50 i51 i58 i59 i65 i68 i69 i72 i78 i80 i81 i82 i87 x23803768 i96 i100 i103 i104)), ((z 83), .inl (T 0, 64, .inl g83)), ((z 86), .inl (T 0, 64, .inl g86))]) [0, 1, 2, 3, 4, 5] (by decide +kernel) rfl) hS (lv_sub hl [0, 1, 2, 3, 4, 5, 6, 7, 8, 9, 10] rfl)
                                    · skip
                                      have kc23804686 : x23804641.toInt ≠ 0 := ne_ti rfl (by decide) c23804686
                                      have nzx23804641 : ¬ x23804641 = 0 := c23804686
                                      refine lv_lload hx hb dX11_peel_198 (lv_at hl 3 rfl) ?_
                                      refine lv_iload_n hx hb dX11_peel_200 rfl (lv_at hl 10 rfl) ?_
                                      refine lv_iconst (v := 4) hx hb dX11_peel_201 (by decide) ?_
                                      refine lv_iload hx hb dX11_peel_202 (lv_at hl 0 rfl) ?_
                                      refine lv_imul hx hb dX11_peel_204 ?_
                                      refine lv_topi (fun x23804687 ex23804687 => ?_)
                                      have hx23804687 : x23804687.toInt = 4 * x23804640.toInt := ti_mul ex23804687 (by decide) rfl (by omega) (by omega)
                                      refine lv_ishr hx hb dX11_peel_205 ?_
                                      refine lv_topi (fun x23804688 ex23804688 => ?_)
                                      refine lv_bipush (v := 15) hx hb dX11_peel_206 (by decide) ?_
                                      refine lv_iand hx hb dX11_peel_208 ?_
                                      refine lv_topi (fun x23804689 ex23804689 => ?_)
                                      have hx23804689 : 0 ≤ x23804689.toInt ∧ x23804689.toInt ≤ 15 := and_ti 15 4 (by decide) (by decide) (by decide) ex23804689
                                      refine lv_i2l hx hb dX11_peel_209 rfl ?_
                                      refine lv_topl (fun x23804690 ex23804690 => ?_)
                                      have hx23804690 : x23804690.toInt = x23804689.toInt := by rw [ex23804690]; exact Int32.toInt_toInt64 _
                                      refine lv_lmul hx hb dX11_peel_210 ?_
                                      refine lv_topl (fun x23804691 ex23804691 => ?_)
                                      refine lv_iload hx hb dX11_peel_211 (lv_at hl 6 rfl) ?_
                                      refine lv_i2l hx hb dX11_peel_213 rfl ?_
                                      refine lv_topl (fun x23804692 ex23804692 => ?_)
                                      have hx23804692 : x23804692.toInt = x23804535.toInt := by rw [ex23804692]; exact Int32.toInt_toInt64 _
                                      refine lv_ldiv hx hb dX11_peel_214 (by rw [ex23804692]; exact nz_l rfl (by omega)) ?_
                                      refine lv_topl (fun x23804693 ex23804693 => ?_)
                                      refine lv_aload_n hx hb dX11_peel_215 rfl (lv_at hl 8 rfl) ?_
                                      refine lv_iload_n hx hb dX11_peel_216 rfl (lv_at hl 9 rfl) ?_
                                      have J23804700 : ∀ (x23804699 : Int32) (H : Heap) (locs : List Loc) (ls : Array Slot), (-9 ≤ x23804699.toInt ∧ x23804699.toInt ≤ 10) → va_P D vwCl [((z 93), .inl (T 0, 8, .inl f23803769)), ((z 94), .inl (T 0, 8, .inl f23803770)), ((z 95), .inl (T 0, 8, .inl f23803771)), (a, .inr (11, OX z i1 i2 i3 i4 i5 i6 i7 i8 i30 i43 i45 i46 i47 i48 i49 i50 i51 i58 i59 i65 i68 i69 i72 i78 i80 i81 i82 i87 x23803768 i96 i100 i103 i104)), ((z 83), .inl (T 0, 64, .inl g83)), ((z 86), .inl (T 0, 64, .inl g86))] H → va_D A [((z 93), .inl (T 0, 8, .inl f23803769)), ((z 94), .inl (T 0, 8, .inl f23803770)), ((z 95), .inl (T 0, 8, .inl f23803771)), (a, .inr (11, OX z i1 i2 i3 i4 i5 i6 i7 i8 i30 i43 i45 i46 i47 i48 i49 i50 i51 i58 i59 i65 i68 i69 i72 i78 i80 i81 i82 i87 x23803768 i96 i100 i103 i104)), ((z 83), .inl (T 0, 64, .inl g83)), ((z 86), .inl (T 0, 64, .inl g86))] → va_S A s.heap H locs → lv_has ls 12 [(11, .int x23804640), (10, .int x23804641), (9, .int x23804642), (7, .long x23804561), (6, .int x23804551), (5, .int x23804547), (4, .int x23804535), (3, .int x23803767), (0, .ref a), (1, .int p1), (2, .int p2)] → W p l e { frames := 1, cells := 0, slots := 0, locals := 25 } s m args below meth c H locs 0 0 (MQ below ((Qi (S := Int32 × (Nat → Int32) × (Nat → Int32) × (Nat → Int32)) (fun (r : Int32) (u : Int32 × (Nat → Int32) × (Nat → Int32) × (Nat → Int32)) => match u with | (ui92, ug93, ug94, ug95) => (-1 ≤ ui92.toInt ∧ ui92.toInt ≤ 8) ∧ (-1 ≤ r.toInt ∧ r.toInt ≤ 8)) (fun (u : Int32 × (Nat → Int32) × (Nat → Int32) × (Nat → Int32)) => match u with | (ui92, ug93, ug94, ug95) => [(a, .inr (11, OX z i1 i2 i3 i4 i5 i6 i7 i8 i30 i43 i45 i46 i47 i48 i49 i50 i51 i58 i59 i65 i68 i69 i72 i78 i80 i81 i82 i87 ui92 i96 i100 i103 i104)), ((z 83), .inl (T 0, 64, .inl g83)), ((z 86), .inl (T 0, 64, .inl g86)), ((z 93), .inl (T 0, 8, .inl ug93)), ((z 94), .inl (T 0, 8, .inl ug94)), ((z 95), .inl (T 0, 8, .inl ug95))]) D) A) args s 0 0 A) (F0 m 238 ls [.int x23804699, .ref a, .long x23804693]) := by
                                        intro x23804699 H locs ls hx23804699 hP hD hS hl
                                        refine r_calli (wr := [((z 93), .inl (T 0, 8, .inl f23803769)), ((z 94), .inl (T 0, 8, .inl f23803770)), ((z 95), .inl (T 0, 8, .inl f23803771))]) (r_runV2 (As := [.int x23804699]) (rest := [.long x23804693]) (wc := [(a, .inr (11, OX z i1 i2 i3 i4 i5 i6 i7 i8 i30 i43 i45 i46 i47 i48 i49 i50 i51 i58 i59 i65 i68 i69 i72 i78 i80 i81 i82 i87 x23803768 i96 i100 i103 i104)), ((z 83), .inl (T 0, 64, .inl g83)), ((z 86), .inl (T 0, 64, .inl g86))]) (ci := 11) C0 hE hStr hS (va_free (wc := [(a, .inr (11, OX z i1 i2 i3 i4 i5 i6 i7 i8 i30 i43 i45 i46 i47 i48 i49 i50 i51 i58 i59 i65 i68 i69 i72 i78 i80 i81 i82 i87 x23803768 i96 i100 i103 i104)), ((z 83), .inl (T 0, 64, .inl g83)), ((z 86), .inl (T 0, 64, .inl g86))]) hD hS hA [3, 4, 5] rfl) (h_X11_holdOf_23700247 l D T sq sv H.size a z i1 i2 i3 i4 i5 i6 i7 i8 i30 i43 i45 i46 i47 i48 i49 i50 i51 i58 i59 i65 i68 i69 i72 i78 i80 i81 i82 i87 x23803768 i96 i100 i103 i104 x23804699 g83 g86 ⟨by omega, by omega⟩ ⟨by omega, by omega⟩) mw_1194 mw_1195 mw_1348 mw_14 mw_1196 dn_1787 rfl rfl ⟨Nat.le_of_ble_eq_true rfl, Nat.le_of_ble_eq_true rfl⟩ (hP.sub (ws' := [(a, .inr (11, OX z i1 i2 i3 i4 i5 i6 i7 i8 i30 i43 i45 i46 i47 i48 i49 i50 i51 i58 i59 i65 i68 i69 i72 i78 i80 i81 i82 i87 x23803768 i96 i100 i103 i104)), ((z 83), .inl (T 0, 64, .inl g83)), ((z 86), .inl (T 0, 64, .inl g86))]) [3, 4, 5] rfl) (hD.sub (ws' := [(a, .inr (11, OX z i1 i2 i3 i4 i5 i6 i7 i8 i30 i43 i45 i46 i47 i48 i49 i50 i51 i58 i59 i65 i68 i69 i72 i78 i80 i81 i82 i87 x23803768 i96 i100 i103 i104)), ((z 83), .inl (T 0, 64, .inl g83)), ((z 86), .inl (T 0, 64, .inl g86))]) [3, 4, 5] (by decide +kernel) rfl) rfl rfl rfl hl.1 rfl (Nat.le_of_ble_eq_true rfl) dX11_peel_238 ⟨Nat.le_of_ble_eq_true rfl, Nat.le_of_ble_eq_true rfl⟩) hP hD hS hA [3, 4, 5] [0, 1, 2] rfl rfl (by decide +kernel) (by decide +kernel) (fun x23804701 u H locs hq hP hD hS => ?_)
                                        have hP : va_P D vwCl [((z 93), .inl (T 0, 8, .inl f23803769)), ((z 94), .inl (T 0, 8, .inl f23803770)), ((z 95), .inl (T 0, 8, .inl f23803771)), (a, .inr (11, OX z i1 i2 i3 i4 i5 i6 i7 i8 i30 i43 i45 i46 i47 i48 i49 i50 i51 i58 i59 i65 i68 i69 i72 i78 i80 i81 i82 i87 x23803768 i96 i100 i103 i104)), ((z 83), .inl (T 0, 64, .inl g83)), ((z 86), .inl (T 0, 64, .inl g86))] H := hP
                                        have hD : va_D A [((z 93), .inl (T 0, 8, .inl f23803769)), ((z 94), .inl (T 0, 8, .inl f23803770)), ((z 95), .inl (T 0, 8, .inl f23803771)), (a, .inr (11, OX z i1 i2 i3 i4 i5 i6 i7 i8 i30 i43 i45 i46 i47 i48 i49 i50 i51 i58 i59 i65 i68 i69 i72 i78 i80 i81 i82 i87 x23803768 i96 i100 i103 i104)), ((z 83), .inl (T 0, 64, .inl g83)), ((z 86), .inl (T 0, 64, .inl g86))] := hD
                                        refine W.widen (k := 0) (n := 0) (Nat.le_refl _) (Nat.le_refl _) ?_
                                        refine lv_i2l hx hb dX11_peel_241 rfl ?_
                                        refine lv_topl (fun x23804702 ex23804702 => ?_)
                                        have hx23804702 : x23804702.toInt = x23804701.toInt := by rw [ex23804702]; exact Int32.toInt_toInt64 _
                                        refine W.lcmp hx hb dX11_peel_242 ?_
                                        refine lv_topi (fun x23804703 ex23804703 => ?_)
                                        have J23804706 : ∀ (x23804705 : Int32) (H : Heap) (locs : List Loc) (ls : Array Slot), (0 ≤ x23804705.toInt ∧ x23804705.toInt ≤ 1) → va_P D vwCl [((z 93), .inl (T 0, 8, .inl f23803769)), ((z 94), .inl (T 0, 8, .inl f23803770)), ((z 95), .inl (T 0, 8, .inl f23803771)), (a, .inr (11, OX z i1 i2 i3 i4 i5 i6 i7 i8 i30 i43 i45 i46 i47 i48 i49 i50 i51 i58 i59 i65 i68 i69 i72 i78 i80 i81 i82 i87 x23803768 i96 i100 i103 i104)), ((z 83), .inl (T 0, 64, .inl g83)), ((z 86), .inl (T 0, 64, .inl g86))] H → va_D A [((z 93), .inl (T 0, 8, .inl f23803769)), ((z 94), .inl (T 0, 8, .inl f23803770)), ((z 95), .inl (T 0, 8, .inl f23803771)), (a, .inr (11, OX z i1 i2 i3 i4 i5 i6 i7 i8 i30 i43 i45 i46 i47 i48 i49 i50 i51 i58 i59 i65 i68 i69 i72 i78 i80 i81 i82 i87 x23803768 i96 i100 i103 i104)), ((z 83), .inl (T 0, 64, .inl g83)), ((z 86), .inl (T 0, 64, .inl g86))] → va_S A s.heap H locs → lv_has ls 12 [(11, .int x23804640), (10, .int x23804641), (9, .int x23804642), (7, .long x23804561), (6, .int x23804551), (5, .int x23804547), (4, .int x23804535), (3, .int x23803767), (0, .ref a), (1, .int p1), (2, .int p2)] → W p l e { frames := 1, cells := 0, slots := 0, locals := 25 } s m args below meth c H locs 0 0 (MQ below ((Qi (S := Int32 × (Nat → Int32) × (Nat → Int32) × (Nat → Int32)) (fun (r : Int32) (u : Int32 × (Nat → Int32) × (Nat → Int32) × (Nat → Int32)) => match u with | (ui92, ug93, ug94, ug95) => (-1 ≤ ui92.toInt ∧ ui92.toInt ≤ 8) ∧ (-1 ≤ r.toInt ∧ r.toInt ≤ 8)) (fun (u : Int32 × (Nat → Int32) × (Nat → Int32) × (Nat → Int32)) => match u with | (ui92, ug93, ug94, ug95) => [(a, .inr (11, OX z i1 i2 i3 i4 i5 i6 i7 i8 i30 i43 i45 i46 i47 i48 i49 i50 i51 i58 i59 i65 i68 i69 i72 i78 i80 i81 i82 i87 ui92 i96 i100 i103 i104)), ((z 83), .inl (T 0, 64, .inl g83)), ((z 86), .inl (T 0, 64, .inl g86)), ((z 93), .inl (T 0, 8, .inl ug93)), ((z 94), .inl (T 0, 8, .inl ug94)), ((z 95), .inl (T 0, 8, .inl ug95))]) D) A) args s 0 0 A) (F0 m 251 ls [.int x23804705]) := by
                                          intro x23804705 H locs ls hx23804705 hP hD hS hl
                                          refine lv_istore (lv' := [(10, .int x23804705), (11, .int x23804640), (9, .int x23804642), (7, .long x23804561), (6, .int x23804551), (5, .int x23804547), (4, .int x23804535), (3, .int x23803767), (0, .ref a), (1, .int p1), (2, .int p2)]) hx hb dX11_peel_251 hl (by decide) rfl (fun ls hl => ?_)
                                          refine lv_iload hx hb dX11_peel_253 (lv_at hl 0 rfl) ?_
                                          refine lv_if_eq (tgt := 261) hx hb dX11_peel_255 (by decide) (fun c23804707 => ?_) (fun c23804707 => ?_)
                                          · skip
                                            have kc23804707 : x23804705.toInt = 0 := eq_ti rfl (by decide) c23804707
                                            obtain ⟨x23804708, ex23804708⟩ : ∃ y : Int32, y = x23804640 + 1 := ⟨_, rfl⟩
                                            have hx23804708 : x23804708.toInt = x23804640.toInt + 1 := ti_add ex23804708 rfl (by decide) (by omega) (by omega)
                                            refine lv_iinc (v := x23804708) (lv' := [(11, .int x23804708), (10, .int x23804705), (9, .int x23804642), (7, .long x23804561), (6, .int x23804551), (5, .int x23804547), (4, .int x23804535), (3, .int x23803767), (0, .ref a), (1, .int p1), (2, .int p2)]) hx hb dX11_peel_261 hl (k := 1) rfl (by rw [ex23804708]; rfl) (by decide) rfl (fun ls hl => ?_)
                                            refine lv_goto (tgt := 176) hx hb dX11_peel_264 (by decide) ?_
                                            exact ih23804682 x23804708 x23804705 x23804642 _ _ ls ⟨by omega, by omega⟩ ⟨by omega, by omega⟩ ⟨by omega, by omega⟩ (by omega) (by omega) (hP.sub (ws' := [((z 93), .inl (T 0, 8, .inl f23803769)), ((z 94), .inl (T 0, 8, .inl f23803770)), ((z 95), .inl (T 0, 8, .inl f23803771)), (a, .inr (11, OX z i1 i2 i3 i4 i5 i6 i7 i8 i30 i43 i45 i46 i47 i48 i49 i50 i51 i58 i59 i65 i68 i69 i72 i78 i80 i81 i82 i87 x23803768 i96 i100 i103 i104)), ((z 83), .inl (T 0, 64, .inl g83)), ((z 86), .inl (T 0, 64, .inl g86))]) [0, 1, 2, 3, 4, 5] rfl) (hD.sub (ws' := [((z 93), .inl (T 0, 8, .inl f23803769)), ((z 94), .inl (T 0, 8, .inl f23803770)), ((z 95), .inl (T 0, 8, .inl f23803771)), (a, .inr (11, OX z i1 i2 i3 i4 i5 i6 i7 i8 i30 i43 i45 i46 i47 i48 i49 i50 i51 i58 i59 i65 i68 i69 i72 i78 i80 i81 i82 i87 x23803768 i96 i100 i103 i104)), ((z 83), .inl (T 0, 64, .inl g83)), ((z 86), .inl (T 0, 64, .inl g86))]) [0, 1, 2, 3, 4, 5] (by decide +kernel) rfl) hS (lv_sub hl [0, 1, 2, 3, 4, 5, 6, 7, 8, 9, 10] rfl)
                                          · skip
                                            have kc23804707 : x23804705.toInt ≠ 0 := ne_ti rfl (by decide) c23804707
                                            have nzx23804705 : ¬ x23804705 = 0 := c23804707
                                            obtain ⟨x23804709, ex23804709⟩ : ∃ y : Int32, y = x23804642 + 1 := ⟨_, rfl⟩
                                            have hx23804709 : x23804709.toInt = x23804642.toInt + 1 := ti_add ex23804709 rfl (by decide) (by omega) (by omega)
                                            refine lv_iinc (v := x23804709) (lv' := [(9, .int x23804709), (10, .int x23804705), (11, .int x23804640), (7, .long x23804561), (6, .int x23804551), (5, .int x23804547), (4, .int x23804535), (3, .int x23803767), (0, .ref a), (1, .int p1), (2, .int p2)]) hx hb dX11_peel_258 hl (k := 2) rfl (by rw [ex23804709]; rfl) (by decide) rfl (fun ls hl => ?_)
                                            obtain ⟨x23804710, ex23804710⟩ : ∃ y : Int32, y = x23804640 + 1 := ⟨_, rfl⟩
                                            have hx23804710 : x23804710.toInt = x23804640.toInt + 1 := ti_add ex23804710 rfl (by decide) (by omega) (by omega)
                                            refine lv_iinc (v := x23804710) (lv' := [(11, .int x23804710), (9, .int x23804709), (10, .int x23804705), (7, .long x23804561), (6, .int x23804551), (5, .int x23804547), (4, .int x23804535), (3, .int x23803767), (0, .ref a), (1, .int p1), (2, .int p2)]) hx hb dX11_peel_261 hl (k := 2) rfl (by rw [ex23804710]; rfl) (by decide) rfl (fun ls hl => ?_)
                                            refine lv_goto (tgt := 176) hx hb dX11_peel_264 (by decide) ?_
                                            exact ih23804682 x23804710 x23804705 x23804709 _ _ ls ⟨by omega, by omega⟩ ⟨by omega, by omega⟩ ⟨by omega, by omega⟩ (by omega) (by omega) (hP.sub (ws' := [((z 93), .inl (T 0, 8, .inl f23803769)), ((z 94), .inl (T 0, 8, .inl f23803770)), ((z 95), .inl (T 0, 8, .inl f23803771)), (a, .inr (11, OX z i1 i2 i3 i4 i5 i6 i7 i8 i30 i43 i45 i46 i47 i48 i49 i50 i51 i58 i59 i65 i68 i69 i72 i78 i80 i81 i82 i87 x23803768 i96 i100 i103 i104)), ((z 83), .inl (T 0, 64, .inl g83)), ((z 86), .inl (T 0, 64, .inl g86))]) [0, 1, 2, 3, 4, 5] rfl) (hD.sub (ws' := [((z 93), .inl (T 0, 8, .inl f23803769)), ((z 94), .inl (T 0, 8, .inl f23803770)), ((z 95), .inl (T 0, 8, .inl f23803771)), (a, .inr (11, OX z i1 i2 i3 i4 i5 i6 i7 i8 i30 i43 i45 i46 i47 i48 i49 i50 i51 i58 i59 i65 i68 i69 i72 i78 i80 i81 i82 i87 x23803768 i96 i100 i103 i104)), ((z 83), .inl (T 0, 64, .inl g83)), ((z 86), .inl (T 0, 64, .inl g86))]) [0, 1, 2, 3, 4, 5] (by decide +kernel) rfl) hS (lv_sub hl [0, 2, 1, 3, 4, 5, 6, 7, 8, 9, 10] rfl)
                                        refine lv_if_lt (tgt := 250) hx hb dX11_peel_243 (by decide) (fun c23804704 => ?_) (fun c23804704 => ?_)
                                        · skip
                                          have kc23804704 : x23804703.toInt < 0 := lt_ti rfl (by decide) c23804704
                                          have qc23804704 : x23804693.toInt < x23804702.toInt := lc_lt ex23804703 rfl rfl kc23804704
                                          have rg23804711 := i32_rng x23804703
                                          refine lv_iconst (v := 0) hx hb dX11_peel_250 (by decide) ?_
                                          exact J23804706 0 _ _ ls ⟨by decide, by decide⟩ (hP.sub (ws' := [((z 93), .inl (T 0, 8, .inl f23803769)), ((z 94), .inl (T 0, 8, .inl f23803770)), ((z 95), .inl (T 0, 8, .inl f23803771)), (a, .inr (11, OX z i1 i2 i3 i4 i5 i6 i7 i8 i30 i43 i45 i46 i47 i48 i49 i50 i51 i58 i59 i65 i68 i69 i72 i78 i80 i81 i82 i87 x23803768 i96 i100 i103 i104)), ((z 83), .inl (T 0, 64, .inl g83)), ((z 86), .inl (T 0, 64, .inl g86))]) [0, 1, 2, 3, 4, 5] rfl) (hD.sub (ws' := [((z 93), .inl (T 0, 8, .inl f23803769)), ((z 94), .inl (T 0, 8, .inl f23803770)), ((z 95), .inl (T 0, 8, .inl f23803771)), (a, .inr (11, OX z i1 i2 i3 i4 i5 i6 i7 i8 i30 i43 i45 i46 i47 i48 i49 i50 i51 i58 i59 i65 i68 i69 i72 i78 i80 i81 i82 i87 x23803768 i96 i100 i103 i104)), ((z 83), .inl (T 0, 64, .inl g83)), ((z 86), .inl (T 0, 64, .inl g86))]) [0, 1, 2, 3, 4, 5] (by decide +kernel) rfl) hS (lv_sub hl [0, 1, 2, 3, 4, 5, 6, 7, 8, 9, 10] rfl)
                                        · skip
                                          have kc23804704 : 0 ≤ x23804703.toInt := nlt_ti rfl (by decide) c23804704
                                          have qc23804704 : x23804702.toInt ≤ x23804693.toInt := lc_ge ex23804703 rfl rfl kc23804704
                                          refine lv_iconst (v := 1) hx hb dX11_peel_246 (by decide) ?_
                                          refine lv_goto (tgt := 251) hx hb dX11_peel_247 (by decide) ?_
                                          exact J23804706 1 _ _ ls ⟨by decide, by decide⟩ (hP.sub (ws' := [((z 93), .inl (T 0, 8, .inl f23803769)), ((z 94), .inl (T 0, 8, .inl f23803770)), ((z 95), .inl (T 0, 8, .inl f23803771)), (a, .inr (11, OX z i1 i2 i3 i4 i5 i6 i7 i8 i30 i43 i45 i46 i47 i48 i49 i50 i51 i58 i59 i65 i68 i69 i72 i78 i80 i81 i82 i87 x23803768 i96 i100 i103 i104)), ((z 83), .inl (T 0, 64, .inl g83)), ((z 86), .inl (T 0, 64, .inl g86))]) [0, 1, 2, 3, 4, 5] rfl) (hD.sub (ws' := [((z 93), .inl (T 0, 8, .inl f23803769)), ((z 94), .inl (T 0, 8, .inl f23803770)), ((z 95), .inl (T 0, 8, .inl f23803771)), (a, .inr (11, OX z i1 i2 i3 i4 i5 i6 i7 i8 i30 i43 i45 i46 i47 i48 i49 i50 i51 i58 i59 i65 i68 i69 i72 i78 i80 i81 i82 i87 x23803768 i96 i100 i103 i104)), ((z 83), .inl (T 0, 64, .inl g83)), ((z 86), .inl (T 0, 64, .inl g86))]) [0, 1, 2, 3, 4, 5] (by decide +kernel) rfl) hS (lv_sub hl [0, 1, 2, 3, 4, 5, 6, 7, 8, 9, 10] rfl)
                                      refine lv_if_eq (tgt := 227) hx hb dX11_peel_217 (by decide) (fun c23804694 => ?_) (fun c23804694 => ?_)
                                      · skip
                                        have kc23804694 : p1.toInt = 0 := eq_ti rfl (by decide) c23804694
                                        refine lv_aload_n hx hb dX11_peel_227 rfl (lv_at hl 8 rfl) ?_
                                        refine r_get (v := .int i82) C0 hE ffX11_82 mw_872 hP 3 rfl ox_82 dX11_peel_228 ?_
                                        refine lv_iconst (v := 1) hx hb dX11_peel_231 (by decide) ?_
                                        refine lv_isub hx hb dX11_peel_232 ?_
                                        refine lv_topi (fun x23804712 ex23804712 => ?_)
                                        have hx23804712 : x23804712.toInt = i82.toInt - 1 := ti_sub ex23804712 rfl (by decide) (by omega) (by omega)
                                        refine lv_iload_n hx hb dX11_peel_233 rfl (lv_at hl 7 rfl) ?_
                                        refine lv_isub hx hb dX11_peel_234 ?_
                                        refine lv_topi (fun x23804713 ex23804713 => ?_)
                                        have hx23804713 : x23804713.toInt = x23804712.toInt - x23803767.toInt := ti_sub ex23804713 rfl rfl (by omega) (by omega)
                                        refine lv_iload hx hb dX11_peel_235 (lv_at hl 0 rfl) ?_
                                        refine lv_isub hx hb dX11_peel_237 ?_
                                        refine lv_topi (fun x23804714 ex23804714 => ?_)
                                        have hx23804714 : x23804714.toInt = x23804713.toInt - x23804640.toInt := ti_sub ex23804714 rfl rfl (by omega) (by omega)
                                        exact J23804700 x23804714 _ _ ls ⟨by omega, by omega⟩ (hP.sub (ws' := [((z 93), .inl (T 0, 8, .inl f23803769)), ((z 94), .inl (T 0, 8, .inl f23803770)), ((z 95), .inl (T 0, 8, .inl f23803771)), (a, .inr (11, OX z i1 i2 i3 i4 i5 i6 i7 i8 i30 i43 i45 i46 i47 i48 i49 i50 i51 i58 i59 i65 i68 i69 i72 i78 i80 i81 i82 i87 x23803768 i96 i100 i103 i104)), ((z 83), .inl (T 0, 64, .inl g83)), ((z 86), .inl (T 0, 64, .inl g86))]) [0, 1, 2, 3, 4, 5] rfl) (hD.sub (ws' := [((z 93), .inl (T 0, 8, .inl f23803769)), ((z 94), .inl (T 0, 8, .inl f23803770)), ((z 95), .inl (T 0, 8, .inl f23803771)), (a, .inr (11, OX z i1 i2 i3 i4 i5 i6 i7 i8 i30 i43 i45 i46 i47 i48 i49 i50 i51 i58 i59 i65 i68 i69 i72 i78 i80 i81 i82 i87 x23803768 i96 i100 i103 i104)), ((z 83), .inl (T 0, 64, .inl g83)), ((z 86), .inl (T 0, 64, .inl g86))]) [0, 1, 2, 3, 4, 5] (by decide +kernel) rfl) hS (lv_sub hl [0, 1, 2, 3, 4, 5, 6, 7, 8, 9, 10] rfl)
                                      · skip
                                        have kc23804694 : p1.toInt ≠ 0 := ne_ti rfl (by decide) c23804694
                                        have nzp1 : ¬ p1 = 0 := c23804694
                                        refine lv_iload_n hx hb dX11_peel_220 rfl (lv_at hl 7 rfl) ?_
                                        refine lv_iload hx hb dX11_peel_221 (lv_at hl 0 rfl) ?_
                                        refine lv_iadd hx hb dX11_peel_223 ?_
                                        refine lv_topi (fun x23804715 ex23804715 => ?_)
                                        have hx23804715 : x23804715.toInt = x23803767.toInt + x23804640.toInt := ti_add ex23804715 rfl rfl (by omega) (by omega)
                                        refine lv_goto (tgt := 238) hx hb dX11_peel_224 (by decide) ?_
                                        exact J23804700 x23804715 _ _ ls ⟨by omega, by omega⟩ (hP.sub (ws' := [((z 93), .inl (T 0, 8, .inl f23803769)), ((z 94), .inl (T 0, 8, .inl f23803770)), ((z 95), .inl (T 0, 8, .inl f23803771)), (a, .inr (11, OX z i1 i2 i3 i4 i5 i6 i7 i8 i30 i43 i45 i46 i47 i48 i49 i50 i51 i58 i59 i65 i68 i69 i72 i78 i80 i81 i82 i87 x23803768 i96 i100 i103 i104)), ((z 83), .inl (T 0, 64, .inl g83)), ((z 86), .inl (T 0, 64, .inl g86))]) [0, 1, 2, 3, 4, 5] rfl) (hD.sub (ws' := [((z 93), .inl (T 0, 8, .inl f23803769)), ((z 94), .inl (T 0, 8, .inl f23803770)), ((z 95), .inl (T 0, 8, .inl f23803771)), (a, .inr (11, OX z i1 i2 i3 i4 i5 i6 i7 i8 i30 i43 i45 i46 i47 i48 i49 i50 i51 i58 i59 i65 i68 i69 i72 i78 i80 i81 i82 i87 x23803768 i96 i100 i103 i104)), ((z 83), .inl (T 0, 64, .inl g83)), ((z 86), .inl (T 0, 64, .inl g86))]) [0, 1, 2, 3, 4, 5] (by decide +kernel) rfl) hS (lv_sub hl [0, 1, 2, 3, 4, 5, 6, 7, 8, 9, 10] rfl)
                            have hl23804716 : (0 : Int32).toInt = 0 := by decide
                            have hl23804717 : (1 : Int32).toInt = 1 := by decide
                            exact L23804680 _ 1 1 0 _ _ ls ⟨by decide, by decide⟩ ⟨by decide, by decide⟩ ⟨by decide, by decide⟩ (by omega) (Nat.lt_succ_self _) (hP.sub (ws' := [((z 93), .inl (T 0, 8, .inl f23803769)), ((z 94), .inl (T 0, 8, .inl f23803770)), ((z 95), .inl (T 0, 8, .inl f23803771)), (a, .inr (11, OX z i1 i2 i3 i4 i5 i6 i7 i8 i30 i43 i45 i46 i47 i48 i49 i50 i51 i58 i59 i65 i68 i69 i72 i78 i80 i81 i82 i87 x23803768 i96 i100 i103 i104)), ((z 83), .inl (T 0, 64, .inl g83)), ((z 86), .inl (T 0, 64, .inl g86))]) [0, 1, 2, 3, 4, 5] rfl) (hD.sub (ws' := [((z 93), .inl (T 0, 8, .inl f23803769)), ((z 94), .inl (T 0, 8, .inl f23803770)), ((z 95), .inl (T 0, 8, .inl f23803771)), (a, .inr (11, OX z i1 i2 i3 i4 i5 i6 i7 i8 i30 i43 i45 i46 i47 i48 i49 i50 i51 i58 i59 i65 i68 i69 i72 i78 i80 i81 i82 i87 x23803768 i96 i100 i103 i104)), ((z 83), .inl (T 0, 64, .inl g83)), ((z 86), .inl (T 0, 64, .inl g86))]) [0, 1, 2, 3, 4, 5] (by decide +kernel) rfl) hS (lv_sub hl [0, 1, 2, 3, 4, 5, 6, 7, 8, 9, 10] rfl)
                          refine lv_if_eq (tgt := 134) hx hb dX11_peel_127 (by decide) (fun c23804548 => ?_) (fun c23804548 => ?_)
                          · skip
                            have kc23804548 : p1.toInt = 0 := eq_ti rfl (by decide) c23804548
                            refine lv_aload_n hx hb dX11_peel_134 rfl (lv_at hl 3 rfl) ?_
                            refine r_get (v := .int i82) C0 hE ffX11_82 mw_872 hP 0 rfl ox_82 dX11_peel_135 ?_
                            refine lv_iconst (v := 1) hx hb dX11_peel_138 (by decide) ?_
                            refine lv_isub hx hb dX11_peel_139 ?_
                            refine lv_topi (fun x23804718 ex23804718 => ?_)
                            have hx23804718 : x23804718.toInt = i82.toInt - 1 := ti_sub ex23804718 rfl (by decide) (by omega) (by omega)
                            refine lv_iload_n hx hb dX11_peel_140 rfl (lv_at hl 2 rfl) ?_
                            refine lv_isub hx hb dX11_peel_141 ?_
                            refine lv_topi (fun x23804719 ex23804719 => ?_)
                            have hx23804719 : x23804719.toInt = x23804718.toInt - x23803767.toInt := ti_sub ex23804719 rfl rfl (by omega) (by omega)
                            exact J23804552 x23804719 _ _ ls ⟨by omega, by omega⟩ (hP.sub (ws' := [(a, .inr (11, OX z i1 i2 i3 i4 i5 i6 i7 i8 i30 i43 i45 i46 i47 i48 i49 i50 i51 i58 i59 i65 i68 i69 i72 i78 i80 i81 i82 i87 x23803768 i96 i100 i103 i104)), ((z 83), .inl (T 0, 64, .inl g83)), ((z 86), .inl (T 0, 64, .inl g86)), ((z 93), .inl (T 0, 8, .inl f23803769)), ((z 94), .inl (T 0, 8, .inl f23803770)), ((z 95), .inl (T 0, 8, .inl f23803771))]) [0, 1, 2, 3, 4, 5] rfl) (hD.sub (ws' := [(a, .inr (11, OX z i1 i2 i3 i4 i5 i6 i7 i8 i30 i43 i45 i46 i47 i48 i49 i50 i51 i58 i59 i65 i68 i69 i72 i78 i80 i81 i82 i87 x23803768 i96 i100 i103 i104)), ((z 83), .inl (T 0, 64, .inl g83)), ((z 86), .inl (T 0, 64, .inl g86)), ((z 93), .inl (T 0, 8, .inl f23803769)), ((z 94), .inl (T 0, 8, .inl f23803770)), ((z 95), .inl (T 0, 8, .inl f23803771))]) [0, 1, 2, 3, 4, 5] (by decide +kernel) rfl) hS (lv_sub hl [0, 1, 2, 3, 4, 5] rfl)
                          · skip
                            have kc23804548 : p1.toInt ≠ 0 := ne_ti rfl (by decide) c23804548
                            have nzp1 : ¬ p1 = 0 := c23804548
                            refine lv_iload_n hx hb dX11_peel_130 rfl (lv_at hl 2 rfl) ?_
                            refine lv_goto (tgt := 142) hx hb dX11_peel_131 (by decide) ?_
                            exact J23804552 x23803767 _ _ ls ⟨by omega, by omega⟩ (hP.sub (ws' := [(a, .inr (11, OX z i1 i2 i3 i4 i5 i6 i7 i8 i30 i43 i45 i46 i47 i48 i49 i50 i51 i58 i59 i65 i68 i69 i72 i78 i80 i81 i82 i87 x23803768 i96 i100 i103 i104)), ((z 83), .inl (T 0, 64, .inl g83)), ((z 86), .inl (T 0, 64, .inl g86)), ((z 93), .inl (T 0, 8, .inl f23803769)), ((z 94), .inl (T 0, 8, .inl f23803770)), ((z 95), .inl (T 0, 8, .inl f23803771))]) [0, 1, 2, 3, 4, 5] rfl) (hD.sub (ws' := [(a, .inr (11, OX z i1 i2 i3 i4 i5 i6 i7 i8 i30 i43 i45 i46 i47 i48 i49 i50 i51 i58 i59 i65 i68 i69 i72 i78 i80 i81 i82 i87 x23803768 i96 i100 i103 i104)), ((z 83), .inl (T 0, 64, .inl g83)), ((z 86), .inl (T 0, 64, .inl g86)), ((z 93), .inl (T 0, 8, .inl f23803769)), ((z 94), .inl (T 0, 8, .inl f23803770)), ((z 95), .inl (T 0, 8, .inl f23803771))]) [0, 1, 2, 3, 4, 5] (by decide +kernel) rfl) hS (lv_sub hl [0, 1, 2, 3, 4, 5] rfl)
                        · skip
                          have kc23804546 : x23804534.toInt < 4 := nle_ti (by decide) rfl c23804546
                          refine lv_iload_n hx hb dX11_peel_89 rfl (lv_at hl 2 rfl) ?_
                          refine lv_iload hx hb dX11_peel_90 (lv_at hl 0 rfl) ?_
                          refine lv_iadd hx hb dX11_peel_92 ?_
                          refine lv_topi (fun x23804720 ex23804720 => ?_)
                          have hx23804720 : x23804720.toInt = x23803767.toInt + x23804534.toInt := ti_add ex23804720 rfl rfl (by omega) (by omega)
                          refine lv_aload_n hx hb dX11_peel_93 rfl (lv_at hl 3 rfl) ?_
                          refine r_get (v := .int i82) C0 hE ffX11_82 mw_872 hP 0 rfl ox_82 dX11_peel_94 ?_
                          refine lv_icmp_ge (tgt := 120) hx hb dX11_peel_97 (by decide) (fun c23804721 => ?_) (fun c23804721 => ?_)
                          · skip
                            have kc23804721 : i82.toInt ≤ x23804720.toInt := le_ti rfl rfl c23804721
                            have hfx23804535 : 1 ≤ x23804535.toInt := by omega
                            refine lv_iload_n hx hb dX11_peel_120 rfl (lv_at hl 5 rfl) ?_
                            refine lv_bipush (v := 15) hx hb dX11_peel_121 (by decide) ?_
                            refine lv_iand hx hb dX11_peel_123 ?_
                            refine lv_topi (fun x23804722 ex23804722 => ?_)
                            have hx23804722 : 0 ≤ x23804722.toInt ∧ x23804722.toInt ≤ 15 := and_ti 15 4 (by decide) (by decide) (by decide) ex23804722
                            have hfx23804722 : 1 ≤ x23804722.toInt := by rw [ex23804722]; omega
                            refine lv_istore (lv' := [(5, .int x23804722), (4, .int x23804535), (3, .int x23803767), (0, .ref a), (1, .int p1), (2, .int p2)]) hx hb dX11_peel_124 hl (by decide) rfl (fun ls hl => ?_)
                            refine lv_iload_n hx hb dX11_peel_126 rfl (lv_at hl 4 rfl) ?_
                            have J23804727 : ∀ (x23804726 : Int32) (H : Heap) (locs : List Loc) (ls : Array Slot), (-7 ≤ x23804726.toInt ∧ x23804726.toInt ≤ 7) → va_P D vwCl [(a, .inr (11, OX z i1 i2 i3 i4 i5 i6 i7 i8 i30 i43 i45 i46 i47 i48 i49 i50 i51 i58 i59 i65 i68 i69 i72 i78 i80 i81 i82 i87 x23803768 i96 i100 i103 i104)), ((z 83), .inl (T 0, 64, .inl g83)), ((z 86), .inl (T 0, 64, .inl g86)), ((z 93), .inl (T 0, 8, .inl f23803769)), ((z 94), .inl (T 0, 8, .inl f23803770)), ((z 95), .inl (T 0, 8, .inl f23803771))] H → va_D A [(a, .inr (11, OX z i1 i2 i3 i4 i5 i6 i7 i8 i30 i43 i45 i46 i47 i48 i49 i50 i51 i58 i59 i65 i68 i69 i72 i78 i80 i81 i82 i87 x23803768 i96 i100 i103 i104)), ((z 83), .inl (T 0, 64, .inl g83)), ((z 86), .inl (T 0, 64, .inl g86)), ((z 93), .inl (T 0, 8, .inl f23803769)), ((z 94), .inl (T 0, 8, .inl f23803770)), ((z 95), .inl (T 0, 8, .inl f23803771))] → va_S A s.heap H locs → lv_has ls 12 [(5, .int x23804722), (4, .int x23804535), (3, .int x23803767), (0, .ref a), (1, .int p1), (2, .int p2)] → W p l e { frames := 1, cells := 0, slots := 0, locals := 25 } s m args below meth c H locs 0 0 (MQ below ((Qi (S := Int32 × (Nat → Int32) × (Nat → Int32) × (Nat → Int32)) (fun (r : Int32) (u : Int32 × (Nat → Int32) × (Nat → Int32) × (Nat → Int32)) => match u with | (ui92, ug93, ug94, ug95) => (-1 ≤ ui92.toInt ∧ ui92.toInt ≤ 8) ∧ (-1 ≤ r.toInt ∧ r.toInt ≤ 8)) (fun (u : Int32 × (Nat → Int32) × (Nat → Int32) × (Nat → Int32)) => match u with | (ui92, ug93, ug94, ug95) => [(a, .inr (11, OX z i1 i2 i3 i4 i5 i6 i7 i8 i30 i43 i45 i46 i47 i48 i49 i50 i51 i58 i59 i65 i68 i69 i72 i78 i80 i81 i82 i87 ui92 i96 i100 i103 i104)), ((z 83), .inl (T 0, 64, .inl g83)), ((z 86), .inl (T 0, 64, .inl g86)), ((z 93), .inl (T 0, 8, .inl ug93)), ((z 94), .inl (T 0, 8, .inl ug94)), ((z 95), .inl (T 0, 8, .inl ug95))]) D) A) args s 0 0 A) (F0 m 142 ls [.int x23804726]) := by
                              intro x23804726 H locs ls hx23804726 hP hD hS hl
                              refine lv_istore (lv' := [(6, .int x23804726), (5, .int x23804722), (4, .int x23804535), (3, .int x23803767), (0, .ref a), (1, .int p1), (2, .int p2)]) hx hb dX11_peel_142 hl (by decide) rfl (fun ls hl => ?_)
                              refine lv_aload_n hx hb dX11_peel_144 rfl (lv_at hl 4 rfl) ?_
                              refine lv_iload hx hb dX11_peel_145 (lv_at hl 0 rfl) ?_
                              refine r_calli (wr := [((z 93), .inl (T 0, 8, .inl f23803769)), ((z 94), .inl (T 0, 8, .inl f23803770)), ((z 95), .inl (T 0, 8, .inl f23803771))]) (r_runV2 (As := [.int x23804726]) (rest := []) (wc := [(a, .inr (11, OX z i1 i2 i3 i4 i5 i6 i7 i8 i30 i43 i45 i46 i47 i48 i49 i50 i51 i58 i59 i65 i68 i69 i72 i78 i80 i81 i82 i87 x23803768 i96 i100 i103 i104)), ((z 83), .inl (T 0, 64, .inl g83)), ((z 86), .inl (T 0, 64, .inl g86))]) (ci := 11) C0 hE hStr hS (va_free (wc := [(a, .inr (11, OX z i1 i2 i3 i4 i5 i6 i7 i8 i30 i43 i45 i46 i47 i48 i49 i50 i51 i58 i59 i65 i68 i69 i72 i78 i80 i81 i82 i87 x23803768 i96 i100 i103 i104)), ((z 83), .inl (T 0, 64, .inl g83)), ((z 86), .inl (T 0, 64, .inl g86))]) hD hS hA [0, 1, 2] rfl) (h_X11_holdOf_23700247 l D T sq sv H.size a z i1 i2 i3 i4 i5 i6 i7 i8 i30 i43 i45 i46 i47 i48 i49 i50 i51 i58 i59 i65 i68 i69 i72 i78 i80 i81 i82 i87 x23803768 i96 i100 i103 i104 x23804726 g83 g86 ⟨by omega, by omega⟩ ⟨by omega, by omega⟩) mw_1194 mw_1195 mw_1348 mw_14 mw_1196 dn_1787 rfl rfl ⟨Nat.le_of_ble_eq_true rfl, Nat.le_of_ble_eq_true rfl⟩ (hP.sub (ws' := [(a, .inr (11, OX z i1 i2 i3 i4 i5 i6 i7 i8 i30 i43 i45 i46 i47 i48 i49 i50 i51 i58 i59 i65 i68 i69 i72 i78 i80 i81 i82 i87 x23803768 i96 i100 i103 i104)), ((z 83), .inl (T 0, 64, .inl g83)), ((z 86), .inl (T 0, 64, .inl g86))]) [0, 1, 2] rfl) (hD.sub (ws' := [(a, .inr (11, OX z i1 i2 i3 i4 i5 i6 i7 i8 i30 i43 i45 i46 i47 i48 i49 i50 i51 i58 i59 i65 i68 i69 i72 i78 i80 i81 i82 i87 x23803768 i96 i100 i103 i104)), ((z 83), .inl (T 0, 64, .inl g83)), ((z 86), .inl (T 0, 64, .inl g86))]) [0, 1, 2] (by decide +kernel) rfl) rfl rfl rfl hl.1 rfl (Nat.le_of_ble_eq_true rfl) dX11_peel_147 ⟨Nat.le_of_ble_eq_true rfl, Nat.le_of_ble_eq_true rfl⟩) hP hD hS hA [0, 1, 2] [3, 4, 5] rfl rfl (by decide +kernel) (by decide +kernel) (fun x23804728 u H locs hq hP hD hS => ?_)
                              have hP : va_P D vwCl [((z 93), .inl (T 0, 8, .inl f23803769)), ((z 94), .inl (T 0, 8, .inl f23803770)), ((z 95), .inl (T 0, 8, .inl f23803771)), (a, .inr (11, OX z i1 i2 i3 i4 i5 i6 i7 i8 i30 i43 i45 i46 i47 i48 i49 i50 i51 i58 i59 i65 i68 i69 i72 i78 i80 i81 i82 i87 x23803768 i96 i100 i103 i104)), ((z 83), .inl (T 0, 64, .inl g83)), ((z 86), .inl (T 0, 64, .inl g86))] H := hP
                              have hD : va_D A [((z 93), .inl (T 0, 8, .inl f23803769)), ((z 94), .inl (T 0, 8, .inl f23803770)), ((z 95), .inl (T 0, 8, .inl f23803771)), (a, .inr (11, OX z i1 i2 i3 i4 i5 i6 i7 i8 i30 i43 i45 i46 i47 i48 i49 i50 i51 i58 i59 i65 i68 i69 i72 i78 i80 i81 i82 i87 x23803768 i96 i100 i103 i104)), ((z 83), .inl (T 0, 64, .inl g83)), ((z 86), .inl (T 0, 64, .inl g86))] := hD
                              refine W.widen (k := 0) (n := 0) (Nat.le_refl _) (Nat.le_refl _) ?_
                              refine lv_i2l hx hb dX11_peel_150 rfl ?_
                              refine lv_topl (fun x23804729 ex23804729 => ?_)
                              have hx23804729 : x23804729.toInt = x23804728.toInt := by rw [ex23804729]; exact Int32.toInt_toInt64 _
                              refine lv_iload hx hb dX11_peel_151 (lv_at hl 2 rfl) ?_
                              refine lv_i2l hx hb dX11_peel_153 rfl ?_
                              refine lv_topl (fun x23804730 ex23804730 => ?_)
                              have hx23804730 : x23804730.toInt = x23804535.toInt := by rw [ex23804730]; exact Int32.toInt_toInt64 _
                              refine lv_lmul hx hb dX11_peel_154 ?_
                              refine lv_topl (fun x23804731 ex23804731 => ?_)
                              refine lv_iload hx hb dX11_peel_155 (lv_at hl 1 rfl) ?_
                              refine lv_i2l hx hb dX11_peel_157 rfl ?_
                              refine lv_topl (fun x23804732 ex23804732 => ?_)
                              have hx23804732 : x23804732.toInt = x23804722.toInt := by rw [ex23804732]; exact Int32.toInt_toInt64 _
                              refine lv_ladd hx hb dX11_peel_158 ?_
                              refine lv_topl (fun x23804733 ex23804733 => ?_)
                              refine lv_lconst (v := 1) hx hb dX11_peel_159 (by decide) ?_
                              refine lv_lsub hx hb dX11_peel_160 ?_
                              refine lv_topl (fun x23804734 ex23804734 => ?_)
                              refine lv_iload hx hb dX11_peel_161 (lv_at hl 1 rfl) ?_
                              refine lv_i2l hx hb dX11_peel_163 rfl ?_
                              refine lv_topl (fun x23804735 ex23804735 => ?_)
                              have hx23804735 : x23804735.toInt = x23804722.toInt := by rw [ex23804735]; exact Int32.toInt_toInt64 _
                              refine lv_ldiv hx hb dX11_peel_164 (by rw [ex23804735]; exact nz_l rfl (by omega)) ?_
                              refine lv_topl (fun x23804736 ex23804736 => ?_)
                              refine lv_lstore (lv' := [(7, .long x23804736), (6, .int x23804726), (5, .int x23804722), (4, .int x23804535), (3, .int x23803767), (0, .ref a), (1, .int p1), (2, .int p2)]) hx hb dX11_peel_165 hl (by decide) rfl (fun ls hl => ?_)
                              refine lv_iconst (v := 0) hx hb dX11_peel_167 (by decide) ?_
                              refine lv_istore (lv' := [(9, .int 0), (7, .long x23804736), (6, .int x23804726), (5, .int x23804722), (4, .int x23804535), (3, .int x23803767), (0, .ref a), (1, .int p1), (2, .int p2)]) hx hb dX11_peel_168 hl (by decide) rfl (fun ls hl => ?_)
                              refine lv_iconst (v := 1) hx hb dX11_peel_170 (by decide) ?_
                              refine lv_istore (lv' := [(10, .int 1), (9, .int 0), (7, .long x23804736), (6, .int x23804726), (5, .int x23804722), (4, .int x23804535), (3, .int x23803767), (0, .ref a), (1, .int p1), (2, .int p2)]) hx hb dX11_peel_171 hl (by decide) rfl (fun ls hl => ?_)
                              refine lv_iconst (v := 1) hx hb dX11_peel_173 (by decide) ?_
                              refine lv_istore (lv' := [(11, .int 1), (10, .int 1), (9, .int 0), (7, .long x23804736), (6, .int x23804726), (5, .int x23804722), (4, .int x23804535), (3, .int x23803767), (0, .ref a), (1, .int p1), (2, .int p2)]) hx hb dX11_peel_174 hl (by decide) rfl (fun ls hl => ?_)
                              have J23804847 : ∀ (x23804844 : Int32) (x23804845 : Int32) (x23804846 : Int32) (H : Heap) (locs : List Loc) (ls : Array Slot), (1 ≤ x23804844.toInt ∧ x23804844.toInt ≤ 4) → (0 ≤ x23804845.toInt ∧ x23804845.toInt ≤ 1) → (0 ≤ x23804846.toInt ∧ x23804846.toInt ≤ 3) → va_P D vwCl [((z 93), .inl (T 0, 8, .inl f23803769)), ((z 94), .inl (T 0, 8, .inl f23803770)), ((z 95), .inl (T 0, 8, .inl f23803771)), (a, .inr (11, OX z i1 i2 i3 i4 i5 i6 i7 i8 i30 i43 i45 i46 i47 i48 i49 i50 i51 i58 i59 i65 i68 i69 i72 i78 i80 i81 i82 i87 x23803768 i96 i100 i103 i104)), ((z 83), .inl (T 0, 64, .inl g83)), ((z 86), .inl (T 0, 64, .inl g86))] H → va_D A [((z 93), .inl (T 0, 8, .inl f23803769)), ((z 94), .inl (T 0, 8, .inl f23803770)), ((z 95), .inl (T 0, 8, .inl f23803771)), (a, .inr (11, OX z i1 i2 i3 i4 i5 i6 i7 i8 i30 i43 i45 i46 i47 i48 i49 i50 i51 i58 i59 i65 i68 i69 i72 i78 i80 i81 i82 i87 x23803768 i96 i100 i103 i104)), ((z 83), .inl (T 0, 64, .inl g83)), ((z 86), .inl (T 0, 64, .inl g86))] → va_S A s.heap H locs → lv_has ls 12 [(11, .int x23804844), (10, .int x23804845), (9, .int x23804846), (7, .long x23804736), (6, .int x23804726), (5, .int x23804722), (4, .int x23804535), (3, .int x23803767), (0, .ref a), (1, .int p1), (2, .int p2)] → W p l e { frames := 1, cells := 0, slots := 0, locals := 25 } s m args below meth c H locs 0 0 (MQ below ((Qi (S := Int32 × (Nat → Int32) × (Nat → Int32) × (Nat → Int32)) (fun (r : Int32) (u : Int32 × (Nat → Int32) × (Nat → Int32) × (Nat → Int32)) => match u with | (ui92, ug93, ug94, ug95) => (-1 ≤ ui92.toInt ∧ ui92.toInt ≤ 8) ∧ (-1 ≤ r.toInt ∧ r.toInt ≤ 8)) (fun (u : Int32 × (Nat → Int32) × (Nat → Int32) × (Nat → Int32)) => match u with | (ui92, ug93, ug94, ug95) => [(a, .inr (11, OX z i1 i2 i3 i4 i5 i6 i7 i8 i30 i43 i45 i46 i47 i48 i49 i50 i51 i58 i59 i65 i68 i69 i72 i78 i80 i81 i82 i87 ui92 i96 i100 i103 i104)), ((z 83), .inl (T 0, 64, .inl g83)), ((z 86), .inl (T 0, 64, .inl g86)), ((z 93), .inl (T 0, 8, .inl ug93)), ((z 94), .inl (T 0, 8, .inl ug94)), ((z 95), .inl (T 0, 8, .inl ug95))]) D) A) args s 0 0 A) (F0 m 267 ls []) := by
                                intro x23804844 x23804845 x23804846 H locs ls hx23804844 hx23804845 hx23804846 hP hD hS hl
                                refine lv_aload_n hx hb dX11_peel_267 rfl (lv_at hl 8 rfl) ?_
                                refine r_get (v := .ref (z 93)) C0 hE ffX11_93 mw_883 hP 3 rfl ox_93 dX11_peel_268 ?_
                                refine lv_aload_n hx hb dX11_peel_271 rfl (lv_at hl 8 rfl) ?_
                                refine r_get (v := .int x23803768) C0 hE ffX11_92 mw_882 hP 3 rfl ox_92 dX11_peel_272 ?_
                                refine lv_iload hx hb dX11_peel_275 (lv_at hl 4 rfl) ?_
                                refine r_iastX hx hb hK hP hD hS 0 rfl (in_ti rfl (by omega) (by omega)) dX11_peel_277 (fun f23804848 ef23804848 H locs hP hD hS => ?_)
                                have hP : va_P D vwCl [((z 93), .inl (T 0, 8, .inl f23804848)), ((z 94), .inl (T 0, 8, .inl f23803770)), ((z 95), .inl (T 0, 8, .inl f23803771)), (a, .inr (11, OX z i1 i2 i3 i4 i5 i6 i7 i8 i30 i43 i45 i46 i47 i48 i49 i50 i51 i58 i59 i65 i68 i69 i72 i78 i80 i81 i82 i87 x23803768 i96 i100 i103 i104)), ((z 83), .inl (T 0, 64, .inl g83)), ((z 86), .inl (T 0, 64, .inl g86))] H := hP
                                have hD : va_D A [((z 93), .inl (T 0, 8, .inl f23804848)), ((z 94), .inl (T 0, 8, .inl f23803770)), ((z 95), .inl (T 0, 8, .inl f23803771)), (a, .inr (11, OX z i1 i2 i3 i4 i5 i6 i7 i8 i30 i43 i45 i46 i47 i48 i49 i50 i51 i58 i59 i65 i68 i69 i72 i78 i80 i81 i82 i87 x23803768 i96 i100 i103 i104)), ((z 83), .inl (T 0, 64, .inl g83)), ((z 86), .inl (T 0, 64, .inl g86))] := hD
                                refine lv_aload_n hx hb dX11_peel_278 rfl (lv_at hl 8 rfl) ?_
                                refine r_get (v := .ref (z 94)) C0 hE ffX11_94 mw_884 hP 3 rfl ox_94 dX11_peel_279 ?_
                                refine lv_aload_n hx hb dX11_peel_282 rfl (lv_at hl 8 rfl) ?_
                                refine r_get (v := .int x23803768) C0 hE ffX11_92 mw_882 hP 3 rfl ox_92 dX11_peel_283 ?_
                                refine lv_lload hx hb dX11_peel_286 (lv_at hl 3 rfl) ?_
                                refine lv_l2i hx hb dX11_peel_288 rfl ?_
                                refine lv_topi (fun x23804849 ex23804849 => ?_)
                                refine r_iastX hx hb hK hP hD hS 1 rfl (in_ti rfl (by omega) (by omega)) dX11_peel_289 (fun f23804850 ef23804850 H locs hP hD hS => ?_)
                                have hP : va_P D vwCl [((z 93), .inl (T 0, 8, .inl f23804848)), ((z 94), .inl (T 0, 8, .inl f23804850)), ((z 95), .inl (T 0, 8, .inl f23803771)), (a, .inr (11, OX z i1 i2 i3 i4 i5 i6 i7 i8 i30 i43 i45 i46 i47 i48 i49 i50 i51 i58 i59 i65 i68 i69 i72 i78 i80 i81 i82 i87 x23803768 i96 i100 i103 i104)), ((z 83), .inl (T 0, 64, .inl g83)), ((z 86), .inl (T 0, 64, .inl g86))] H := hP
                                have hD : va_D A [((z 93), .inl (T 0, 8, .inl f23804848)), ((z 94), .inl (T 0, 8, .inl f23804850)), ((z 95), .inl (T 0, 8, .inl f23803771)), (a, .inr (11, OX z i1 i2 i3 i4 i5 i6 i7 i8 i30 i43 i45 i46 i47 i48 i49 i50 i51 i58 i59 i65 i68 i69 i72 i78 i80 i81 i82 i87 x23803768 i96 i100 i103 i104)), ((z 83), .inl (T 0, 64, .inl g83)), ((z 86), .inl (T 0, 64, .inl g86))] := hD
                                refine lv_aload_n hx hb dX11_peel_290 rfl (lv_at hl 8 rfl) ?_
                                refine r_get (v := .ref (z 95)) C0 hE ffX11_95 mw_885 hP 3 rfl ox_95 dX11_peel_291 ?_
                                refine lv_aload_n hx hb dX11_peel_294 rfl (lv_at hl 8 rfl) ?_
                                refine r_get (v := .int x23803768) C0 hE ffX11_92 mw_882 hP 3 rfl ox_92 dX11_peel_295 ?_
                                refine lv_iload hx hb dX11_peel_298 (lv_at hl 2 rfl) ?_
                                refine r_iastX hx hb hK hP hD hS 2 rfl (in_ti rfl (by omega) (by omega)) dX11_peel_300 (fun f23804851 ef23804851 H locs hP hD hS => ?_)
                                have hP : va_P D vwCl [((z 93), .inl (T 0, 8, .inl f23804848)), ((z 94), .inl (T 0, 8, .inl f23804850)), ((z 95), .inl (T 0, 8, .inl f23804851)), (a, .inr (11, OX z i1 i2 i3 i4 i5 i6 i7 i8 i30 i43 i45 i46 i47 i48 i49 i50 i51 i58 i59 i65 i68 i69 i72 i78 i80 i81 i82 i87 x23803768 i96 i100 i103 i104)), ((z 83), .inl (T 0, 64, .inl g83)), ((z 86), .inl (T 0, 64, .inl g86))] H := hP
                                have hD : va_D A [((z 93), .inl (T 0, 8, .inl f23804848)), ((z 94), .inl (T 0, 8, .inl f23804850)), ((z 95), .inl (T 0, 8, .inl f23804851)), (a, .inr (11, OX z i1 i2 i3 i4 i5 i6 i7 i8 i30 i43 i45 i46 i47 i48 i49 i50 i51 i58 i59 i65 i68 i69 i72 i78 i80 i81 i82 i87 x23803768 i96 i100 i103 i104)), ((z 83), .inl (T 0, 64, .inl g83)), ((z 86), .inl (T 0, 64, .inl g86))] := hD
                                refine lv_aload_n hx hb dX11_peel_301 rfl (lv_at hl 8 rfl) ?_
                                refine lv_dup hx hb dX11_peel_302 rfl ?_
                                refine r_get (v := .int x23803768) C0 hE ffX11_92 mw_882 hP 3 rfl ox_92 dX11_peel_303 ?_
                                refine lv_iconst (v := 1) hx hb dX11_peel_306 (by decide) ?_
                                refine lv_iadd hx hb dX11_peel_307 ?_
                                refine lv_topi (fun x23804852 ex23804852 => ?_)
                                have hx23804852 : x23804852.toInt = x23803768.toInt + 1 := ti_add ex23804852 rfl (by decide) (by omega) (by omega)
                                refine r_put (v := .int x23804852) (ty := .int) (ws1 := [((z 93), .inl (T 0, 8, .inl f23804848)), ((z 94), .inl (T 0, 8, .inl f23804850)), ((z 95), .inl (T 0, 8, .inl f23804851)), (a, .inr (11, OX z i1 i2 i3 i4 i5 i6 i7 i8 i30 i43 i45 i46 i47 i48 i49 i50 i51 i58 i59 i65 i68 i69 i72 i78 i80 i81 i82 i87 x23804852 i96 i100 i103 i104)), ((z 83), .inl (T 0, 64, .inl g83)), ((z 86), .inl (T 0, 64, .inl g86))]) C0 hE ffX11_92 tyX11 tyX11_ok nmX11 mw_882 pf_1358 hP hD hS 3 rfl rfl rfl ol_92 os_92 rfl dX11_peel_308 (fun H locs hP hD hS => ?_)
                                refine lv_iload_n hx hb dX11_peel_311 rfl (lv_at hl 7 rfl) ?_
                                refine lv_iconst (v := 1) hx hb dX11_peel_312 (by decide) ?_
                                refine lv_iload hx hb dX11_peel_313 (lv_at hl 2 rfl) ?_
                                refine lv_iadd hx hb dX11_peel_315 ?_
                                refine lv_topi (fun x23804853 ex23804853 => ?_)
                                have hx23804853 : x23804853.toInt = 1 + x23804846.toInt := ti_add ex23804853 (by decide) rfl (by omega) (by omega)
                                refine lv_iadd hx hb dX11_peel_316 ?_
                                refine lv_topi (fun x23804854 ex23804854 => ?_)
                                have hx23804854 : x23804854.toInt = x23803767.toInt + x23804853.toInt := ti_add ex23804854 rfl rfl (by omega) (by omega)
                                refine lv_istore_n (lv' := [(3, .int x23804854), (11, .int x23804844), (10, .int x23804845), (9, .int x23804846), (7, .long x23804736), (6, .int x23804726), (5, .int x23804722), (4, .int x23804535), (0, .ref a), (1, .int p1), (2, .int p2)]) hx hb dX11_peel_317 rfl hl (by decide) rfl (fun ls hl => ?_)
                                refine lv_goto (tgt := 69) hx hb dX11_peel_318 (by decide) ?_
                                exact ih23804136 x23804854 x23804852 f23804848 f23804850 f23804851 _ _ ls ⟨by omega, by omega⟩ ⟨by omega, by omega⟩ (by omega) (by omega) (hP.sub (ws' := [(a, .inr (11, OX z i1 i2 i3 i4 i5 i6 i7 i8 i30 i43 i45 i46 i47 i48 i49 i50 i51 i58 i59 i65 i68 i69 i72 i78 i80 i81 i82 i87 x23804852 i96 i100 i103 i104)), ((z 83), .inl (T 0, 64, .inl g83)), ((z 86), .inl (T 0, 64, .inl g86)), ((z 93), .inl (T 0, 8, .inl f23804848)), ((z 94), .inl (T 0, 8, .inl f23804850)), ((z 95), .inl (T 0, 8, .inl f23804851))]) [3, 4, 5, 0, 1, 2] rfl) (hD.sub (ws' := [(a, .inr (11, OX z i1 i2 i3 i4 i5 i6 i7 i8 i30 i43 i45 i46 i47 i48 i49 i50 i51 i58 i59 i65 i68 i69 i72 i78 i80 i81 i82 i87 x23804852 i96 i100 i103 i104)), ((z 83), .inl (T 0, 64, .inl g83)), ((z 86), .inl (T 0, 64, .inl g86)), ((z 93), .inl (T 0, 8, .inl f23804848)), ((z 94), .inl (T 0, 8, .inl f23804850)), ((z 95), .inl (T 0, 8, .inl f23804851))]) [3, 4, 5, 0, 1, 2] (by decide +kernel) rfl) hS (lv_sub hl [0, 8, 9, 10] rfl)
                              have L23804855 : ∀ (n : Nat) (x23804815 : Int32) (x23804816 : Int32) (x23804817 : Int32) (H : Heap) (locs : List Loc) (ls : Array Slot), (1 ≤ x23804815.toInt ∧ x23804815.toInt ≤ 4) → (0 ≤ x23804816.toInt ∧ x23804816.toInt ≤ 1) → (0 ≤ x23804817.toInt ∧ x23804817.toInt ≤ 3) → (x23804817.toInt < x23804815.toInt) → (5 - x23804815.toInt).toNat < n → va_P D vwCl [((z 93), .inl (T 0, 8, .inl f23803769)), ((z 94), .inl (T 0, 8, .inl f23803770)), ((z 95), .inl (T 0, 8, .inl f23803771)), (a, .inr (11, OX z i1 i2 i3 i4 i5 i6 i7 i8 i30 i43 i45 i46 i47 i48 i49 i50 i51 i58 i59 i65 i68 i69 i72 i78 i80 i81 i82 i87 x23803768 i96 i100 i103 i104)), ((z 83), .inl (T 0, 64, .inl g83)), ((z 86), .inl (T 0, 64, .inl g86))] H → va_D A [((z 93), .inl (T 0, 8, .inl f23803769)), ((z 94), .inl (T 0, 8, .inl f23803770)), ((z 95), .inl (T 0, 8, .inl f23803771)), (a, .inr (11, OX z i1 i2 i3 i4 i5 i6 i7 i8 i30 i43 i45 i46 i47 i48 i49 i50 i51 i58 i59 i65 i68 i69 i72 i78 i80 i81 i82 i87 x23803768 i96 i100 i103 i104)), ((z 83), .inl (T 0, 64, .inl g83)), ((z 86), .inl (T 0, 64, .inl g86))] → va_S A s.heap H locs → lv_has ls 12 [(11, .int x23804815), (10, .int x23804816), (9, .int x23804817), (7, .long x23804736), (6, .int x23804726), (5, .int x23804722), (4, .int x23804535), (3, .int x23803767), (0, .ref a), (1, .int p1), (2, .int p2)] → W p l e { frames := 1, cells := 0, slots := 0, locals := 25 } s m args below meth c H locs 0 0 (MQ below ((Qi (S := Int32 × (Nat → Int32) × (Nat → Int32) × (Nat → Int32)) (fun (r : Int32) (u : Int32 × (Nat → Int32) × (Nat → Int32) × (Nat → Int32)) => match u with | (ui92, ug93, ug94, ug95) => (-1 ≤ ui92.toInt ∧ ui92.toInt ≤ 8) ∧ (-1 ≤ r.toInt ∧ r.toInt ≤ 8)) (fun (u : Int32 × (Nat → Int32) × (Nat → Int32) × (Nat → Int32)) => match u with | (ui92, ug93, ug94, ug95) => [(a, .inr (11, OX z i1 i2 i3 i4 i5 i6 i7 i8 i30 i43 i45 i46 i47 i48 i49 i50 i51 i58 i59 i65 i68 i69 i72 i78 i80 i81 i82 i87 ui92 i96 i100 i103 i104)), ((z 83), .inl (T 0, 64, .inl g83)), ((z 86), .inl (T 0, 64, .inl g86)), ((z 93), .inl (T 0, 8, .inl ug93)), ((z 94), .inl (T 0, 8, .inl ug94)), ((z 95), .inl (T 0, 8, .inl ug95))]) D) A) args s 0 0 A) (F0 m 176 ls []) := by
                                intro n
                                induction n with
                                | zero =>
                                  intro x23804815 x23804816 x23804817 H locs ls hx23804815 hx23804816 hx23804817 hr23804856 hms hP hD hS hl
                                  exact absurd hms (Nat.not_lt_zero _)
                                | succ n ih23804857 =>
                                  intro x23804815 x23804816 x23804817 H locs ls hx23804815 hx23804816 hx23804817 hr23804856 hms hP hD hS hl
                                  refine lv_iload hx hb dX11_peel_176 (lv_at hl 0 rfl) ?_
                                  refine lv_iconst (v := 4) hx hb dX11_peel_178 (by decide) ?_
                                  refine lv_icmp_ge (tgt := 267) hx hb dX11_peel_179 (by decide) (fun c23804858 => ?_) (fun c23804858 => ?_)
                                  · skip
                                    have kc23804858 : 4 ≤ x23804815.toInt := le_ti (by decide) rfl c23804858
                                    exact J23804847 x23804815 x23804816 x23804817 _ _ ls ⟨by omega, by omega⟩ ⟨by omega, by omega⟩ ⟨by omega, by omega⟩ (hP.sub (ws' := [((z 93), .inl (T 0, 8, .inl f23803769)), ((z 94), .inl (T 0, 8, .inl f23803770)), ((z 95), .inl (T 0, 8, .inl f23803771)), (a, .inr (11, OX z i1 i2 i3 i4 i5 i6 i7 i8 i30 i43 i45 i46 i47 i48 i49 i50 i51 i58 i59 i65 i68 i69 i72 i78 i80 i81 i82 i87 x23803768 i96 i100 i103 i104)), ((z 83), .inl (T 0, 64, .inl g83)), ((z 86), .inl (T 0, 64, .inl g86))]) [0, 1, 2, 3, 4, 5] rfl) (hD.sub (ws' := [((z 93), .inl (T 0, 8, .inl f23803769)), ((z 94), .inl (T 0, 8, .inl f23803770)), ((z 95), .inl (T 0, 8, .inl f23803771)), (a, .inr (11, OX z i1 i2 i3 i4 i5 i6 i7 i8 i30 i43 i45 i46 i47 i48 i49 i50 i51 i58 i59 i65 i68 i69 i72 i78 i80 i81 i82 i87 x23803768 i96 i100 i103 i104)), ((z 83), .inl (T 0, 64, .inl g83)), ((z 86), .inl (T 0, 64, .inl g86))]) [0, 1, 2, 3, 4, 5] (by decide +kernel) rfl) hS (lv_sub hl [0, 1, 2, 3, 4, 5, 6, 7, 8, 9, 10] rfl)
                                  · skip
                                    have kc23804858 : x23804815.toInt < 4 := nle_ti (by decide) rfl c23804858
                                    refine lv_iload_n hx hb dX11_peel_182 rfl (lv_at hl 7 rfl) ?_
                                    refine lv_iload hx hb dX11_peel_183 (lv_at hl 0 rfl) ?_
                                    refine lv_iadd hx hb dX11_peel_185 ?_
                                    refine lv_topi (fun x23804859 ex23804859 => ?_)
                                    have hx23804859 : x23804859.toInt = x23803767.toInt + x23804815.toInt := ti_add ex23804859 rfl rfl (by omega) (by omega)
                                    refine lv_aload_n hx hb dX11_peel_186 rfl (lv_at hl 8 rfl) ?_
                                    refine r_get (v := .int i82) C0 hE ffX11_82 mw_872 hP 3 rfl ox_82 dX11_peel_187 ?_
                                    refine lv_icmp_ge (tgt := 267) hx hb dX11_peel_190 (by decide) (fun c23804860 => ?_) (fun c23804860 => ?_)
                                    · skip
                                      have kc23804860 : i82.toInt ≤ x23804859.toInt := le_ti rfl rfl c23804860
                                      exact J23804847 x23804815 x23804816 x23804817 _ _ ls ⟨by omega, by omega⟩ ⟨by omega, by omega⟩ ⟨by omega, by omega⟩ (hP.sub (ws' := [((z 93), .inl (T 0, 8, .inl f23803769)), ((z 94), .inl (T 0, 8, .inl f23803770)), ((z 95), .inl (T 0, 8, .inl f23803771)), (a, .inr (11, OX z i1 i2 i3 i4 i5 i6 i7 i8 i30 i43 i45 i46 i47 i48 i49 i50 i51 i58 i59 i65 i68 i69 i72 i78 i80 i81 i82 i87 x23803768 i96 i100 i103 i104)), ((z 83), .inl (T 0, 64, .inl g83)), ((z 86), .inl (T 0, 64, .inl g86))]) [0, 1, 2, 3, 4, 5] rfl) (hD.sub (ws' := [((z 93), .inl (T 0, 8, .inl f23803769)), ((z 94), .inl (T 0, 8, .inl f23803770)), ((z 95), .inl (T 0, 8, .inl f23803771)), (a, .inr (11, OX z i1 i2 i3 i4 i5 i6 i7 i8 i30 i43 i45 i46 i47 i48 i49 i50 i51 i58 i59 i65 i68 i69 i72 i78 i80 i81 i82 i87 x23803768 i96 i100 i103 i104)), ((z 83), .inl (T 0, 64, .inl g83)), ((z 86), .inl (T 0, 64, .inl g86))]) [0, 1, 2, 3, 4, 5] (by decide +kernel) rfl) hS (lv_sub hl [0, 1, 2, 3, 4, 5, 6, 7, 8, 9, 10] rfl)
                                    · skip
                                      have kc23804860 : x23804859.toInt < i82.toInt := nle_ti rfl rfl c23804860
                                      refine lv_iload hx hb dX11_peel_193 (lv_at hl 1 rfl) ?_
                                      refine lv_if_eq (tgt := 267) hx hb dX11_peel_195 (by decide) (fun c23804861 => ?_) (fun c23804861 => ?_)
                                      · skip
                                        have kc23804861 : x23804816.toInt = 0 := eq_ti rfl (by decide) c23804861
                                        exact J23804847 x23804815 x23804816 x23804817 _ _ ls ⟨by omega, by omega⟩ ⟨by omega, by omega⟩ ⟨by omega, by omega⟩ (hP.sub (ws' := [((z 93), .inl (T 0, 8, .inl f23803769)), ((z 94), .inl (T 0, 8, .inl f23803770)), ((z 95), .inl (T 0, 8, .inl f23803771)), (a, .inr (11, OX z i1 i2 i3 i4 i5 i6 i7 i8 i30 i43 i45 i46 i47 i48 i49 i50 i51 i58 i59 i65 i68 i69 i72 i78 i80 i81 i82 i87 x23803768 i96 i100 i103 i104)), ((z 83), .inl (T 0, 64, .inl g83)), ((z 86), .inl (T 0, 64, .inl g86))]) [0, 1, 2, 3, 4, 5] rfl) (hD.sub (ws' := [((z 93), .inl (T 0, 8, .inl f23803769)), ((z 94), .inl (T 0, 8, .inl f23803770)), ((z 95), .inl (T 0, 8, .inl f23803771)), (a, .inr (11, OX z i1 i2 i3 i4 i5 i6 i7 i8 i30 i43 i45 i46 i47 i48 i49 i50 i51 i58 i59 i65 i68 i69 i72 i78 i80 i81 i82 i87 x23803768 i96 i100 i103 i104)), ((z 83), .inl (T 0, 64, .inl g83)), ((z 86), .inl (T 0, 64, .inl g86))]) [0, 1, 2, 3, 4, 5] (by decide +kernel) rfl) hS (lv_sub hl [0, 1, 2, 3, 4, 5, 6, 7, 8, 9, 10] rfl)
                                      · skip
                                        have kc23804861 : x23804816.toInt ≠ 0 := ne_ti rfl (by decide) c23804861
                                        have nzx23804816 : ¬ x23804816 = 0 := c23804861
                                        refine lv_lload hx hb dX11_peel_198 (lv_at hl 3 rfl) ?_
                                        refine lv_iload_n hx hb dX11_peel_200 rfl (lv_at hl 10 rfl) ?_
                                        refine lv_iconst (v := 4) hx hb dX11_peel_201 (by decide) ?_
                                        refine lv_iload hx hb dX11_peel_202 (lv_at hl 0 rfl) ?_
                                        refine lv_imul hx hb dX11_peel_204 ?_
                                        refine lv_topi (fun x23804862 ex23804862 => ?_)
                                        have hx23804862 : x23804862.toInt = 4 * x23804815.toInt := ti_mul ex23804862 (by decide) rfl (by omega) (by omega)
                                        refine lv_ishr hx hb dX11_peel_205 ?_
                                        refine lv_topi (fun x23804863 ex23804863 => ?_)
                                        refine lv_bipush (v := 15) hx hb dX11_peel_206 (by decide) ?_
                                        refine lv_iand hx hb dX11_peel_208 ?_
                                        refine lv_topi (fun x23804864 ex23804864 => ?_)
                                        have hx23804864 : 0 ≤ x23804864.toInt ∧ x23804864.toInt ≤ 15 := and_ti 15 4 (by decide) (by decide) (by decide) ex23804864
                                        refine lv_i2l hx hb dX11_peel_209 rfl ?_
                                        refine lv_topl (fun x23804865 ex23804865 => ?_)
                                        have hx23804865 : x23804865.toInt = x23804864.toInt := by rw [ex23804865]; exact Int32.toInt_toInt64 _
                                        refine lv_lmul hx hb dX11_peel_210 ?_
                                        refine lv_topl (fun x23804866 ex23804866 => ?_)
                                        refine lv_iload hx hb dX11_peel_211 (lv_at hl 6 rfl) ?_
                                        refine lv_i2l hx hb dX11_peel_213 rfl ?_
                                        refine lv_topl (fun x23804867 ex23804867 => ?_)
                                        have hx23804867 : x23804867.toInt = x23804535.toInt := by rw [ex23804867]; exact Int32.toInt_toInt64 _
                                        refine lv_ldiv hx hb dX11_peel_214 (by rw [ex23804867]; exact nz_l rfl (by omega)) ?_
                                        refine lv_topl (fun x23804868 ex23804868 => ?_)
                                        refine lv_aload_n hx hb dX11_peel_215 rfl (lv_at hl 8 rfl) ?_
                                        refine lv_iload_n hx hb dX11_peel_216 rfl (lv_at hl 9 rfl) ?_
                                        have J23804875 : ∀ (x23804874 : Int32) (H : Heap) (locs : List Loc) (ls : Array Slot), (-9 ≤ x23804874.toInt ∧ x23804874.toInt ≤ 10) → va_P D vwCl [((z 93), .inl (T 0, 8, .inl f23803769)), ((z 94), .inl (T 0, 8, .inl f23803770)), ((z 95), .inl (T 0, 8, .inl f23803771)), (a, .inr (11, OX z i1 i2 i3 i4 i5 i6 i7 i8 i30 i43 i45 i46 i47 i48 i49 i50 i51 i58 i59 i65 i68 i69 i72 i78 i80 i81 i82 i87 x23803768 i96 i100 i103 i104)), ((z 83), .inl (T 0, 64, .inl g83)), ((z 86), .inl (T 0, 64, .inl g86))] H → va_D A [((z 93), .inl (T 0, 8, .inl f23803769)), ((z 94), .inl (T 0, 8, .inl f23803770)), ((z 95), .inl (T 0, 8, .inl f23803771)), (a, .inr (11, OX z i1 i2 i3 i4 i5 i6 i7 i8 i30 i43 i45 i46 i47 i48 i49 i50 i51 i58 i59 i65 i68 i69 i72 i78 i80 i81 i82 i87 x23803768 i96 i100 i103 i104)), ((z 83), .inl (T 0, 64, .inl g83)), ((z 86), .inl (T 0, 64, .inl g86))] → va_S A s.heap H locs → lv_has ls 12 [(11, .int x23804815), (10, .int x23804816), (9, .int x23804817), (7, .long x23804736), (6, .int x23804726), (5, .int x23804722), (4, .int x23804535), (3, .int x23803767), (0, .ref a), (1, .int p1), (2, .int p2)] → W p l e { frames := 1, cells := 0, slots := 0, locals := 25 } s m args below meth c H locs 0 0 (MQ below ((Qi (S := Int32 × (Nat → Int32) × (Nat → Int32) × (Nat → Int32)) (fun (r : Int32) (u : Int32 × (Nat → Int32) × (Nat → Int32) × (Nat → Int32)) => match u with | (ui92, ug93, ug94, ug95) => (-1 ≤ ui92.toInt ∧ ui92.toInt ≤ 8) ∧ (-1 ≤ r.toInt ∧ r.toInt ≤ 8)) (fun (u : Int32 × (Nat → Int32) × (Nat → Int32) × (Nat → Int32)) => match u with | (ui92, ug93, ug94, ug95) => [(a, .inr (11, OX z i1 i2 i3 i4 i5 i6 i7 i8 i30 i43 i45 i46 i47 i48 i49 i50 i51 i58 i59 i65 i68 i69 i72 i78 i80 i81 i82 i87 ui92 i96 i100 i103 i104)), ((z 83), .inl (T 0, 64, .inl g83)), ((z 86), .inl (T 0, 64, .inl g86)), ((z 93), .inl (T 0, 8, .inl ug93)), ((z 94), .inl (T 0, 8, .inl ug94)), ((z 95), .inl (T 0, 8, .inl ug95))]) D) A) args s 0 0 A) (F0 m 238 ls [.int x23804874, .ref a, .long x23804868]) := by
                                          intro x23804874 H locs ls hx23804874 hP hD hS hl
                                          refine r_calli (wr := [((z 93), .inl (T 0, 8, .inl f23803769)), ((z 94), .inl (T 0, 8, .inl f23803770)), ((z 95), .inl (T 0, 8, .inl f23803771))]) (r_runV2 (As := [.int x23804874]) (rest := [.long x23804868]) (wc := [(a, .inr (11, OX z i1 i2 i3 i4 i5 i6 i7 i8 i30 i43 i45 i46 i47 i48 i49 i50 i51 i58 i59 i65 i68 i69 i72 i78 i80 i81 i82 i87 x23803768 i96 i100 i103 i104)), ((z 83), .inl (T 0, 64, .inl g83)), ((z 86), .inl (T 0, 64, .inl g86))]) (ci := 11) C0 hE hStr hS (va_free (wc := [(a, .inr (11, OX z i1 i2 i3 i4 i5 i6 i7 i8 i30 i43 i45 i46 i47 i48 i49 i50 i51 i58 i59 i65 i68 i69 i72 i78 i80 i81 i82 i87 x23803768 i96 i100 i103 i104)), ((z 83), .inl (T 0, 64, .inl g83)), ((z 86), .inl (T 0, 64, .inl g86))]) hD hS hA [3, 4, 5] rfl) (h_X11_holdOf_23700247 l D T sq sv H.size a z i1 i2 i3 i4 i5 i6 i7 i8 i30 i43 i45 i46 i47 i48 i49 i50 i51 i58 i59 i65 i68 i69 i72 i78 i80 i81 i82 i87 x23803768 i96 i100 i103 i104 x23804874 g83 g86 ⟨by omega, by omega⟩ ⟨by omega, by omega⟩) mw_1194 mw_1195 mw_1348 mw_14 mw_1196 dn_1787 rfl rfl ⟨Nat.le_of_ble_eq_true rfl, Nat.le_of_ble_eq_true rfl⟩ (hP.sub (ws' := [(a, .inr (11, OX z i1 i2 i3 i4 i5 i6 i7 i8 i30 i43 i45 i46 i47 i48 i49 i50 i51 i58 i59 i65 i68 i69 i72 i78 i80 i81 i82 i87 x23803768 i96 i100 i103 i104)), ((z 83), .inl (T 0, 64, .inl g83)), ((z 86), .inl (T 0, 64, .inl g86))]) [3, 4, 5] rfl) (hD.sub (ws' := [(a, .inr (11, OX z i1 i2 i3 i4 i5 i6 i7 i8 i30 i43 i45 i46 i47 i48 i49 i50 i51 i58 i59 i65 i68 i69 i72 i78 i80 i81 i82 i87 x23803768 i96 i100 i103 i104)), ((z 83), .inl (T 0, 64, .inl g83)), ((z 86), .inl (T 0, 64, .inl g86))]) [3, 4, 5] (by decide +kernel) rfl) rfl rfl rfl hl.1 rfl (Nat.le_of_ble_eq_true rfl) dX11_peel_238 ⟨Nat.le_of_ble_eq_true rfl, Nat.le_of_ble_eq_true rfl⟩) hP hD hS hA [3, 4, 5] [0, 1, 2] rfl rfl (by decide +kernel) (by decide +kernel) (fun x23804876 u H locs hq hP hD hS => ?_)
                                          have hP : va_P D vwCl [((z 93), .inl (T 0, 8, .inl f23803769)), ((z 94), .inl (T 0, 8, .inl f23803770)), ((z 95), .inl (T 0, 8, .inl f23803771)), (a, .inr (11, OX z i1 i2 i3 i4 i5 i6 i7 i8 i30 i43 i45 i46 i47 i48 i49 i50 i51 i58 i59 i65 i68 i69 i72 i78 i80 i81 i82 i87 x23803768 i96 i100 i103 i104)), ((z 83), .inl (T 0, 64, .inl g83)), ((z 86), .inl (T 0, 64, .inl g86))] H := hP
                                          have hD : va_D A [((z 93), .inl (T 0, 8, .inl f23803769)), ((z 94), .inl (T 0, 8, .inl f23803770)), ((z 95), .inl (T 0, 8, .inl f23803771)), (a, .inr (11, OX z i1 i2 i3 i4 i5 i6 i7 i8 i30 i43 i45 i46 i47 i48 i49 i50 i51 i58 i59 i65 i68 i69 i72 i78 i80 i81 i82 i87 x23803768 i96 i100 i103 i104)), ((z 83), .inl (T 0, 64, .inl g83)), ((z 86), .inl (T 0, 64, .inl g86))] := hD
                                          refine W.widen (k := 0) (n := 0) (Nat.le_refl _) (Nat.le_refl _) ?_
                                          refine lv_i2l hx hb dX11_peel_241 rfl ?_
                                          refine lv_topl (fun x23804877 ex23804877 => ?_)
                                          have hx23804877 : x23804877.toInt = x23804876.toInt := by rw [ex23804877]; exact Int32.toInt_toInt64 _
                                          refine W.lcmp hx hb dX11_peel_242 ?_
                                          refine lv_topi (fun x23804878 ex23804878 => ?_)
                                          have J23804881 : ∀ (x23804880 : Int32) (H : Heap) (locs : List Loc) (ls : Array Slot), (0 ≤ x23804880.toInt ∧ x23804880.toInt ≤ 1) → va_P D vwCl [((z 93), .inl (T 0, 8, .inl f23803769)), ((z 94), .inl (T 0, 8, .inl f23803770)), ((z 95), .inl (T 0, 8, .inl f23803771)), (a, .inr (11, OX z i1 i2 i3 i4 i5 i6 i7 i8 i30 i43 i45 i46 i47 i48 i49 i50 i51 i58 i59 i65 i68 i69 i72 i78 i80 i81 i82 i87 x23803768 i96 i100 i103 i104)), ((z 83), .inl (T 0, 64, .inl g83)), ((z 86), .inl (T 0, 64, .inl g86))] H → va_D A [((z 93), .inl (T 0, 8, .inl f23803769)), ((z 94), .inl (T 0, 8, .inl f23803770)), ((z 95), .inl (T 0, 8, .inl f23803771)), (a, .inr (11, OX z i1 i2 i3 i4 i5 i6 i7 i8 i30 i43 i45 i46 i47 i48 i49 i50 i51 i58 i59 i65 i68 i69 i72 i78 i80 i81 i82 i87 x23803768 i96 i100 i103 i104)), ((z 83), .inl (T 0, 64, .inl g83)), ((z 86), .inl (T 0, 64, .inl g86))] → va_S A s.heap H locs → lv_has ls 12 [(11, .int x23804815), (10, .int x23804816), (9, .int x23804817), (7, .long x23804736), (6, .int x23804726), (5, .int x23804722), (4, .int x23804535), (3, .int x23803767), (0, .ref a), (1, .int p1), (2, .int p2)] → W p l e { frames := 1, cells := 0, slots := 0, locals := 25 } s m args below meth c H locs 0 0 (MQ below ((Qi (S := Int32 × (Nat → Int32) × (Nat → Int32) × (Nat → Int32)) (fun (r : Int32) (u : Int32 × (Nat → Int32) × (Nat → Int32) × (Nat → Int32)) => match u with | (ui92, ug93, ug94, ug95) => (-1 ≤ ui92.toInt ∧ ui92.toInt ≤ 8) ∧ (-1 ≤ r.toInt ∧ r.toInt ≤ 8)) (fun (u : Int32 × (Nat → Int32) × (Nat → Int32) × (Nat → Int32)) => match u with | (ui92, ug93, ug94, ug95) => [(a, .inr (11, OX z i1 i2 i3 i4 i5 i6 i7 i8 i30 i43 i45 i46 i47 i48 i49 i50 i51 i58 i59 i65 i68 i69 i72 i78 i80 i81 i82 i87 ui92 i96 i100 i103 i104)), ((z 83), .inl (T 0, 64, .inl g83)), ((z 86), .inl (T 0, 64, .inl g86)), ((z 93), .inl (T 0, 8, .inl ug93)), ((z 94), .inl (T 0, 8, .inl ug94)), ((z 95), .inl (T 0, 8, .inl ug95))]) D) A) args s 0 0 A) (F0 m 251 ls [.int x23804880]) := by
                                            intro x23804880 H locs ls hx23804880 hP hD hS hl
                                            refine lv_istore (lv' := [(10, .int x23804880), (11, .int x23804815), (9, .int x23804817), (7, .long x23804736), (6, .int x23804726), (5, .int x23804722), (4, .int x23804535), (3, .int x23803767), (0, .ref a), (1, .int p1), (2, .int p2)]) hx hb dX11_peel_251 hl (by decide) rfl (fun ls hl => ?_)
                                            refine lv_iload hx hb dX11_peel_253 (lv_at hl 0 rfl) ?_
                                            refine lv_if_eq (tgt := 261) hx hb dX11_peel_255 (by decide) (fun c23804882 => ?_) (fun c23804882 => ?_)
                                            · skip
                                              have kc23804882 : x23804880.toInt = 0 := eq_ti rfl (by decide) c23804882
                                              obtain ⟨x23804883, ex23804883⟩ : ∃ y : Int32, y = x23804815 + 1 := ⟨_, rfl⟩
                                              have hx23804883 : x23804883.toInt = x23804815.toInt + 1 := ti_add ex23804883 rfl (by decide) (by omega) (by omega)
                                              refine lv_iinc (v := x23804883) (lv' := [(11, .int x23804883), (10, .int x23804880), (9, .int x23804817), (7, .long x23804736), (6, .int x23804726), (5, .int x23804722), (4, .int x23804535), (3, .int x23803767), (0, .ref a), (1, .int p1), (2, .int p2)]) hx hb dX11_peel_261 hl (k := 1) rfl (by rw [ex23804883]; rfl) (by decide) rfl (fun ls hl => ?_)
                                              refine lv_goto (tgt := 176) hx hb dX11_peel_264 (by decide) ?_
                                              exact ih23804857 x23804883 x23804880 x23804817 _ _ ls ⟨by omega, by omega⟩ ⟨by omega, by omega⟩ ⟨by omega, by omega⟩ (by omega) (by omega) (hP.sub (ws' := [((z 93), .inl (T 0, 8, .inl f23803769)), ((z 94), .inl (T 0, 8, .inl f23803770)), ((z 95), .inl (T 0, 8, .inl f23803771)), (a, .inr (11, OX z i1 i2 i3 i4 i5 i6 i7 i8 i30 i43 i45 i46 i47 i48 i49 i50 i51 i58 i59 i65 i68 i69 i72 i78 i80 i81 i82 i87 x23803768 i96 i100 i103 i104)), ((z 83), .inl (T 0, 64, .inl g83)), ((z 86), .inl (T 0, 64, .inl g86))]) [0, 1, 2, 3, 4, 5] rfl) (hD.sub (ws' := [((z 93), .inl (T 0, 8, .inl f23803769)), ((z 94), .inl (T 0, 8, .inl f23803770)), ((z 95), .inl (T 0, 8, .inl f23803771)), (a, .inr (11, OX z i1 i2 i3 i4 i5 i6 i7 i8 i30 i43 i45 i46 i47 i48 i49 i50 i51 i58 i59 i65 i68 i69 i72 i78 i80 i81 i82 i87 x23803768 i96 i100 i103 i104)), ((z 83), .inl (T 0, 64, .inl g83)), ((z 86), .inl (T 0, 64, .inl g86))]) [0, 1, 2, 3, 4, 5] (by decide +kernel) rfl) hS (lv_sub hl [0, 1, 2, 3, 4, 5, 6, 7, 8, 9, 10] rfl)
                                            · skip
                                              have kc23804882 : x23804880.toInt ≠ 0 := ne_ti rfl (by decide) c23804882
                                              have nzx23804880 : ¬ x23804880 = 0 := c23804882
                                              obtain ⟨x23804884, ex23804884⟩ : ∃ y : Int32, y = x23804817 + 1 := ⟨_, rfl⟩
                                              have hx23804884 : x23804884.toInt = x23804817.toInt + 1 := ti_add ex23804884 rfl (by decide) (by omega) (by omega)
                                              refine lv_iinc (v := x23804884) (lv' := [(9, .int x23804884), (10, .int x23804880), (11, .int x23804815), (7, .long x23804736), (6, .int x23804726), (5, .int x23804722), (4, .int x23804535), (3, .int x23803767), (0, .ref a), (1, .int p1), (2, .int p2)]) hx hb dX11_peel_258 hl (k := 2) rfl (by rw [ex23804884]; rfl) (by decide) rfl (fun ls hl => ?_)
                                              obtain ⟨x23804885, ex23804885⟩ : ∃ y : Int32, y = x23804815 + 1 := ⟨_, rfl⟩
                                              have hx23804885 : x23804885.toInt = x23804815.toInt + 1 := ti_add ex23804885 rfl (by decide) (by omega) (by omega)
                                              refine lv_iinc (v := x23804885) (lv' := [(11, .int x23804885), (9, .int x23804884), (10, .int x23804880), (7, .long x23804736), (6, .int x23804726), (5, .int x23804722), (4, .int x23804535), (3, .int x23803767), (0, .ref a), (1, .int p1), (2, .int p2)]) hx hb dX11_peel_261 hl (k := 2) rfl (by rw [ex23804885]; rfl) (by decide) rfl (fun ls hl => ?_)
                                              refine lv_goto (tgt := 176) hx hb dX11_peel_264 (by decide) ?_
                                              exact ih23804857 x23804885 x23804880 x23804884 _ _ ls ⟨by omega, by omega⟩ ⟨by omega, by omega⟩ ⟨by omega, by omega⟩ (by omega) (by omega) (hP.sub (ws' := [((z 93), .inl (T 0, 8, .inl f23803769)), ((z 94), .inl (T 0, 8, .inl f23803770)), ((z 95), .inl (T 0, 8, .inl f23803771)), (a, .inr (11, OX z i1 i2 i3 i4 i5 i6 i7 i8 i30 i43 i45 i46 i47 i48 i49 i50 i51 i58 i59 i65 i68 i69 i72 i78 i80 i81 i82 i87 x23803768 i96 i100 i103 i104)), ((z 83), .inl (T 0, 64, .inl g83)), ((z 86), .inl (T 0, 64, .inl g86))]) [0, 1, 2, 3, 4, 5] rfl) (hD.sub (ws' := [((z 93), .inl (T 0, 8, .inl f23803769)), ((z 94), .inl (T 0, 8, .inl f23803770)), ((z 95), .inl (T 0, 8, .inl f23803771)), (a, .inr (11, OX z i1 i2 i3 i4 i5 i6 i7 i8 i30 i43 i45 i46 i47 i48 i49 i50 i51 i58 i59 i65 i68 i69 i72 i78 i80 i81 i82 i87 x23803768 i96 i100 i103 i104)), ((z 83), .inl (T 0, 64, .inl g83)), ((z 86), .inl (T 0, 64, .inl g86))]) [0, 1, 2, 3, 4, 5] (by decide +kernel) rfl) hS (lv_sub hl [0, 2, 1, 3, 4, 5, 6, 7, 8, 9, 10] rfl)
                                          refine lv_if_lt (tgt := 250) hx hb dX11_peel_243 (by decide) (fun c23804879 => ?_) (fun c23804879 => ?_)
                                          · skip
                                            have kc23804879 : x23804878.toInt < 0 := lt_ti rfl (by decide) c23804879
                                            have qc23804879 : x23804868.toInt < x23804877.toInt := lc_lt ex23804878 rfl rfl kc23804879
                                            have rg23804886 := i32_rng x23804878
                                            refine lv_iconst (v := 0) hx hb dX11_peel_250 (by decide) ?_
                                            exact J23804881 0 _ _ ls ⟨by decide, by decide⟩ (hP.sub (ws' := [((z 93), .inl (T 0, 8, .inl f23803769)), ((z 94), .inl (T 0, 8, .inl f23803770)), ((z 95), .inl (T 0, 8, .inl f23803771)), (a, .inr (11, OX z i1 i2 i3 i4 i5 i6 i7 i8 i30 i43 i45 i46 i47 i48 i49 i50 i51 i58 i59 i65 i68 i69 i72 i78 i80 i81 i82 i87 x23803768 i96 i100 i103 i104)), ((z 83), .inl (T 0, 64, .inl g83)), ((z 86), .inl (T 0, 64, .inl g86))]) [0, 1, 2, 3, 4, 5] rfl) (hD.sub (ws' := [((z 93), .inl (T 0, 8, .inl f23803769)), ((z 94), .inl (T 0, 8, .inl f23803770)), ((z 95), .inl (T 0, 8, .inl f23803771)), (a, .inr (11, OX z i1 i2 i3 i4 i5 i6 i7 i8 i30 i43 i45 i46 i47 i48 i49 i50 i51 i58 i59 i65 i68 i69 i72 i78 i80 i81 i82 i87 x23803768 i96 i100 i103 i104)), ((z 83), .inl (T 0, 64, .inl g83)), ((z 86), .inl (T 0, 64, .inl g86))]) [0, 1, 2, 3, 4, 5] (by decide +kernel) rfl) hS (lv_sub hl [0, 1, 2, 3, 4, 5, 6, 7, 8, 9, 10] rfl)
                                          · skip
                                            have kc23804879 : 0 ≤ x23804878.toInt := nlt_ti rfl (by decide) c23804879
                                            have qc23804879 : x23804877.toInt ≤ x23804868.toInt := lc_ge ex23804878 rfl rfl kc23804879
                                            refine lv_iconst (v := 1) hx hb dX11_peel_246 (by decide) ?_
                                            refine lv_goto (tgt := 251) hx hb dX11_peel_247 (by decide) ?_
                                            exact J23804881 1 _ _ ls ⟨by decide, by decide⟩ (hP.sub (ws' := [((z 93), .inl (T 0, 8, .inl f23803769)), ((z 94), .inl (T 0, 8, .inl f23803770)), ((z 95), .inl (T 0, 8, .inl f23803771)), (a, .inr (11, OX z i1 i2 i3 i4 i5 i6 i7 i8 i30 i43 i45 i46 i47 i48 i49 i50 i51 i58 i59 i65 i68 i69 i72 i78 i80 i81 i82 i87 x23803768 i96 i100 i103 i104)), ((z 83), .inl (T 0, 64, .inl g83)), ((z 86), .inl (T 0, 64, .inl g86))]) [0, 1, 2, 3, 4, 5] rfl) (hD.sub (ws' := [((z 93), .inl (T 0, 8, .inl f23803769)), ((z 94), .inl (T 0, 8, .inl f23803770)), ((z 95), .inl (T 0, 8, .inl f23803771)), (a, .inr (11, OX z i1 i2 i3 i4 i5 i6 i7 i8 i30 i43 i45 i46 i47 i48 i49 i50 i51 i58 i59 i65 i68 i69 i72 i78 i80 i81 i82 i87 x23803768 i96 i100 i103 i104)), ((z 83), .inl (T 0, 64, .inl g83)), ((z 86), .inl (T 0, 64, .inl g86))]) [0, 1, 2, 3, 4, 5] (by decide +kernel) rfl) hS (lv_sub hl [0, 1, 2, 3, 4, 5, 6, 7, 8, 9, 10] rfl)
                                        refine lv_if_eq (tgt := 227) hx hb dX11_peel_217 (by decide) (fun c23804869 => ?_) (fun c23804869 => ?_)
                                        · skip
                                          have kc23804869 : p1.toInt = 0 := eq_ti rfl (by decide) c23804869
                                          refine lv_aload_n hx hb dX11_peel_227 rfl (lv_at hl 8 rfl) ?_
                                          refine r_get (v := .int i82) C0 hE ffX11_82 mw_872 hP 3 rfl ox_82 dX11_peel_228 ?_
                                          refine lv_iconst (v := 1) hx hb dX11_peel_231 (by decide) ?_
                                          refine lv_isub hx hb dX11_peel_232 ?_
                                          refine lv_topi (fun x23804887 ex23804887 => ?_)
                                          have hx23804887 : x23804887.toInt = i82.toInt - 1 := ti_sub ex23804887 rfl (by decide) (by omega) (by omega)
                                          refine lv_iload_n hx hb dX11_peel_233 rfl (lv_at hl 7 rfl) ?_
                                          refine lv_isub hx hb dX11_peel_234 ?_
                                          refine lv_topi (fun x23804888 ex23804888 => ?_)
                                          have hx23804888 : x23804888.toInt = x23804887.toInt - x23803767.toInt := ti_sub ex23804888 rfl rfl (by omega) (by omega)
                                          refine lv_iload hx hb dX11_peel_235 (lv_at hl 0 rfl) ?_
                                          refine lv_isub hx hb dX11_peel_237 ?_
                                          refine lv_topi (fun x23804889 ex23804889 => ?_)
                                          have hx23804889 : x23804889.toInt = x23804888.toInt - x23804815.toInt := ti_sub ex23804889 rfl rfl (by omega) (by omega)
                                          exact J23804875 x23804889 _ _ ls ⟨by omega, by omega⟩ (hP.sub (ws' := [((z 93), .inl (T 0, 8, .inl f23803769)), ((z 94), .inl (T 0, 8, .inl f23803770)), ((z 95), .inl (T 0, 8, .inl f23803771)), (a, .inr (11, OX z i1 i2 i3 i4 i5 i6 i7 i8 i30 i43 i45 i46 i47 i48 i49 i50 i51 i58 i59 i65 i68 i69 i72 i78 i80 i81 i82 i87 x23803768 i96 i100 i103 i104)), ((z 83), .inl (T 0, 64, .inl g83)), ((z 86), .inl (T 0, 64, .inl g86))]) [0, 1, 2, 3, 4, 5] rfl) (hD.sub (ws' := [((z 93), .inl (T 0, 8, .inl f23803769)), ((z 94), .inl (T 0, 8, .inl f23803770)), ((z 95), .inl (T 0, 8, .inl f23803771)), (a, .inr (11, OX z i1 i2 i3 i4 i5 i6 i7 i8 i30 i43 i45 i46 i47 i48 i49 i50 i51 i58 i59 i65 i68 i69 i72 i78 i80 i81 i82 i87 x23803768 i96 i100 i103 i104)), ((z 83), .inl (T 0, 64, .inl g83)), ((z 86), .inl (T 0, 64, .inl g86))]) [0, 1, 2, 3, 4, 5] (by decide +kernel) rfl) hS (lv_sub hl [0, 1, 2, 3, 4, 5, 6, 7, 8, 9, 10] rfl)
                                        · skip
                                          have kc23804869 : p1.toInt ≠ 0 := ne_ti rfl (by decide) c23804869
                                          have nzp1 : ¬ p1 = 0 := c23804869
                                          refine lv_iload_n hx hb dX11_peel_220 rfl (lv_at hl 7 rfl) ?_
                                          refine lv_iload hx hb dX11_peel_221 (lv_at hl 0 rfl) ?_
                                          refine lv_iadd hx hb dX11_peel_223 ?_
                                          refine lv_topi (fun x23804890 ex23804890 => ?_)
                                          have hx23804890 : x23804890.toInt = x23803767.toInt + x23804815.toInt := ti_add ex23804890 rfl rfl (by omega) (by omega)
                                          refine lv_goto (tgt := 238) hx hb dX11_peel_224 (by decide) ?_
                                          exact J23804875 x23804890 _ _ ls ⟨by omega, by omega⟩ (hP.sub (ws' := [((z 93), .inl (T 0, 8, .inl f23803769)), ((z 94), .inl (T 0, 8, .inl f23803770)), ((z 95), .inl (T 0, 8, .inl f23803771)), (a, .inr (11, OX z i1 i2 i3 i4 i5 i6 i7 i8 i30 i43 i45 i46 i47 i48 i49 i50 i51 i58 i59 i65 i68 i69 i72 i78 i80 i81 i82 i87 x23803768 i96 i100 i103 i104)), ((z 83), .inl (T 0, 64, .inl g83)), ((z 86), .inl (T 0, 64, .inl g86))]) [0, 1, 2, 3, 4, 5] rfl) (hD.sub (ws' := [((z 93), .inl (T 0, 8, .inl f23803769)), ((z 94), .inl (T 0, 8, .inl f23803770)), ((z 95), .inl (T 0, 8, .inl f23803771)), (a, .inr (11, OX z i1 i2 i3 i4 i5 i6 i7 i8 i30 i43 i45 i46 i47 i48 i49 i50 i51 i58 i59 i65 i68 i69 i72 i78 i80 i81 i82 i87 x23803768 i96 i100 i103 i104)), ((z 83), .inl (T 0, 64, .inl g83)), ((z 86), .inl (T 0, 64, .inl g86))]) [0, 1, 2, 3, 4, 5] (by decide +kernel) rfl) hS (lv_sub hl [0, 1, 2, 3, 4, 5, 6, 7, 8, 9, 10] rfl)
                              have hl23804891 : (0 : Int32).toInt = 0 := by decide
                              have hl23804892 : (1 : Int32).toInt = 1 := by decide
                              exact L23804855 _ 1 1 0 _ _ ls ⟨by decide, by decide⟩ ⟨by decide, by decide⟩ ⟨by decide, by decide⟩ (by omega) (Nat.lt_succ_self _) (hP.sub (ws' := [((z 93), .inl (T 0, 8, .inl f23803769)), ((z 94), .inl (T 0, 8, .inl f23803770)), ((z 95), .inl (T 0, 8, .inl f23803771)), (a, .inr (11, OX z i1 i2 i3 i4 i5 i6 i7 i8 i30 i43 i45 i46 i47 i48 i49 i50 i51 i58 i59 i65 i68 i69 i72 i78 i80 i81 i82 i87 x23803768 i96 i100 i103 i104)), ((z 83), .inl (T 0, 64, .inl g83)), ((z 86), .inl (T 0, 64, .inl g86))]) [0, 1, 2, 3, 4, 5] rfl) (hD.sub (ws' := [((z 93), .inl (T 0, 8, .inl f23803769)), ((z 94), .inl (T 0, 8, .inl f23803770)), ((z 95), .inl (T 0, 8, .inl f23803771)), (a, .inr (11, OX z i1 i2 i3 i4 i5 i6 i7 i8 i30 i43 i45 i46 i47 i48 i49 i50 i51 i58 i59 i65 i68 i69 i72 i78 i80 i81 i82 i87 x23803768 i96 i100 i103 i104)), ((z 83), .inl (T 0, 64, .inl g83)), ((z 86), .inl (T 0, 64, .inl g86))]) [0, 1, 2, 3, 4, 5] (by decide +kernel) rfl) hS (lv_sub hl [0, 1, 2, 3, 4, 5, 6, 7, 8, 9, 10] rfl)
                            refine lv_if_eq (tgt := 134) hx hb dX11_peel_127 (by decide) (fun c23804723 => ?_) (fun c23804723 => ?_)
                            · skip
                              have kc23804723 : p1.toInt = 0 := eq_ti rfl (by decide) c23804723
                              refine lv_aload_n hx hb dX11_peel_134 rfl (lv_at hl 3 rfl) ?_
                              refine r_get (v := .int i82) C0 hE ffX11_82 mw_872 hP 0 rfl ox_82 dX11_peel_135 ?_
                              refine lv_iconst (v := 1) hx hb dX11_peel_138 (by decide) ?_
                              refine lv_isub hx hb dX11_peel_139 ?_
                              refine lv_topi (fun x23804893 ex23804893 => ?_)
                              have hx23804893 : x23804893.toInt = i82.toInt - 1 := ti_sub ex23804893 rfl (by decide) (by omega) (by omega)
                              refine lv_iload_n hx hb dX11_peel_140 rfl (lv_at hl 2 rfl) ?_
                              refine lv_isub hx hb dX11_peel_141 ?_
                              refine lv_topi (fun x23804894 ex23804894 => ?_)
                              have hx23804894 : x23804894.toInt = x23804893.toInt - x23803767.toInt := ti_sub ex23804894 rfl rfl (by omega) (by omega)
                              exact J23804727 x23804894 _ _ ls ⟨by omega, by omega⟩ (hP.sub (ws' := [(a, .inr (11, OX z i1 i2 i3 i4 i5 i6 i7 i8 i30 i43 i45 i46 i47 i48 i49 i50 i51 i58 i59 i65 i68 i69 i72 i78 i80 i81 i82 i87 x23803768 i96 i100 i103 i104)), ((z 83), .inl (T 0, 64, .inl g83)), ((z 86), .inl (T 0, 64, .inl g86)), ((z 93), .inl (T 0, 8, .inl f23803769)), ((z 94), .inl (T 0, 8, .inl f23803770)), ((z 95), .inl (T 0, 8, .inl f23803771))]) [0, 1, 2, 3, 4, 5] rfl) (hD.sub (ws' := [(a, .inr (11, OX z i1 i2 i3 i4 i5 i6 i7 i8 i30 i43 i45 i46 i47 i48 i49 i50 i51 i58 i59 i65 i68 i69 i72 i78 i80 i81 i82 i87 x23803768 i96 i100 i103 i104)), ((z 83), .inl (T 0, 64, .inl g83)), ((z 86), .inl (T 0, 64, .inl g86)), ((z 93), .inl (T 0, 8, .inl f23803769)), ((z 94), .inl (T 0, 8, .inl f23803770)), ((z 95), .inl (T 0, 8, .inl f23803771))]) [0, 1, 2, 3, 4, 5] (by decide +kernel) rfl) hS (lv_sub hl [0, 1, 2, 3, 4, 5] rfl)
                            · skip
                              have kc23804723 : p1.toInt ≠ 0 := ne_ti rfl (by decide) c23804723
                              have nzp1 : ¬ p1 = 0 := c23804723
                              refine lv_iload_n hx hb dX11_peel_130 rfl (lv_at hl 2 rfl) ?_
                              refine lv_goto (tgt := 142) hx hb dX11_peel_131 (by decide) ?_
                              exact J23804727 x23803767 _ _ ls ⟨by omega, by omega⟩ (hP.sub (ws' := [(a, .inr (11, OX z i1 i2 i3 i4 i5 i6 i7 i8 i30 i43 i45 i46 i47 i48 i49 i50 i51 i58 i59 i65 i68 i69 i72 i78 i80 i81 i82 i87 x23803768 i96 i100 i103 i104)), ((z 83), .inl (T 0, 64, .inl g83)), ((z 86), .inl (T 0, 64, .inl g86)), ((z 93), .inl (T 0, 8, .inl f23803769)), ((z 94), .inl (T 0, 8, .inl f23803770)), ((z 95), .inl (T 0, 8, .inl f23803771))]) [0, 1, 2, 3, 4, 5] rfl) (hD.sub (ws' := [(a, .inr (11, OX z i1 i2 i3 i4 i5 i6 i7 i8 i30 i43 i45 i46 i47 i48 i49 i50 i51 i58 i59 i65 i68 i69 i72 i78 i80 i81 i82 i87 x23803768 i96 i100 i103 i104)), ((z 83), .inl (T 0, 64, .inl g83)), ((z 86), .inl (T 0, 64, .inl g86)), ((z 93), .inl (T 0, 8, .inl f23803769)), ((z 94), .inl (T 0, 8, .inl f23803770)), ((z 95), .inl (T 0, 8, .inl f23803771))]) [0, 1, 2, 3, 4, 5] (by decide +kernel) rfl) hS (lv_sub hl [0, 1, 2, 3, 4, 5] rfl)
                          · skip
                            have kc23804721 : x23804720.toInt < i82.toInt := nle_ti rfl rfl c23804721
                            refine lv_iload hx hb dX11_peel_100 (lv_at hl 1 rfl) ?_
                            refine lv_iload_n hx hb dX11_peel_102 rfl (lv_at hl 5 rfl) ?_
                            refine lv_iconst (v := 4) hx hb dX11_peel_103 (by decide) ?_
                            refine lv_iload hx hb dX11_peel_104 (lv_at hl 0 rfl) ?_
                            refine lv_imul hx hb dX11_peel_106 ?_
                            refine lv_topi (fun x23804895 ex23804895 => ?_)
                            have hx23804895 : x23804895.toInt = 4 * x23804534.toInt := ti_mul ex23804895 (by decide) rfl (by omega) (by omega)
                            refine lv_ishr hx hb dX11_peel_107 ?_
                            refine lv_topi (fun x23804896 ex23804896 => ?_)
                            refine lv_bipush (v := 15) hx hb dX11_peel_108 (by decide) ?_
                            refine lv_iand hx hb dX11_peel_110 ?_
                            refine lv_topi (fun x23804897 ex23804897 => ?_)
                            have hx23804897 : 0 ≤ x23804897.toInt ∧ x23804897.toInt ≤ 15 := and_ti 15 4 (by decide) (by decide) (by decide) ex23804897
                            have hsx23804897 := sh0 ex23804897 ex23804896
                            refine lv_iadd hx hb dX11_peel_111 ?_
                            refine lv_topi (fun x23804898 ex23804898 => ?_)
                            have hx23804898 : x23804898.toInt = x23804535.toInt + x23804897.toInt := ti_add ex23804898 rfl rfl (by omega) (by omega)
                            refine lv_istore (lv' := [(4, .int x23804898), (5, .int x23804534), (3, .int x23803767), (0, .ref a), (1, .int p1), (2, .int p2)]) hx hb dX11_peel_112 hl (by decide) rfl (fun ls hl => ?_)
                            obtain ⟨x23804899, ex23804899⟩ : ∃ y : Int32, y = x23804534 + 1 := ⟨_, rfl⟩
                            have hx23804899 : x23804899.toInt = x23804534.toInt + 1 := ti_add ex23804899 rfl (by decide) (by omega) (by omega)
                            refine lv_iinc (v := x23804899) (lv' := [(5, .int x23804899), (4, .int x23804898), (3, .int x23803767), (0, .ref a), (1, .int p1), (2, .int p2)]) hx hb dX11_peel_114 hl (k := 1) rfl (by rw [ex23804899]; rfl) (by decide) rfl (fun ls hl => ?_)
                            refine lv_goto (tgt := 83) hx hb dX11_peel_117 (by decide) ?_
                            exact ih23804545 x23804899 x23804898 _ _ ls ⟨by omega, by omega⟩ ⟨by omega, by omega⟩ (by omega) (by omega) (hP.sub (ws' := [(a, .inr (11, OX z i1 i2 i3 i4 i5 i6 i7 i8 i30 i43 i45 i46 i47 i48 i49 i50 i51 i58 i59 i65 i68 i69 i72 i78 i80 i81 i82 i87 x23803768 i96 i100 i103 i104)), ((z 83), .inl (T 0, 64, .inl g83)), ((z 86), .inl (T 0, 64, .inl g86)), ((z 93), .inl (T 0, 8, .inl f23803769)), ((z 94), .inl (T 0, 8, .inl f23803770)), ((z 95), .inl (T 0, 8, .inl f23803771))]) [0, 1, 2, 3, 4, 5] rfl) (hD.sub (ws' := [(a, .inr (11, OX z i1 i2 i3 i4 i5 i6 i7 i8 i30 i43 i45 i46 i47 i48 i49 i50 i51 i58 i59 i65 i68 i69 i72 i78 i80 i81 i82 i87 x23803768 i96 i100 i103 i104)), ((z 83), .inl (T 0, 64, .inl g83)), ((z 86), .inl (T 0, 64, .inl g86)), ((z 93), .inl (T 0, 8, .inl f23803769)), ((z 94), .inl (T 0, 8, .inl f23803770)), ((z 95), .inl (T 0, 8, .inl f23803771))]) [0, 1, 2, 3, 4, 5] (by decide +kernel) rfl) hS (lv_sub hl [0, 1, 2, 3, 4, 5] rfl)
                    have hl23804900 : (0 : Int32).toInt = 0 := by decide
                    exact L23804544 _ 0 0 _ _ ls ⟨by decide, by decide⟩ ⟨by decide, by decide⟩ (by omega) (Nat.lt_succ_self _) (hP.sub (ws' := [(a, .inr (11, OX z i1 i2 i3 i4 i5 i6 i7 i8 i30 i43 i45 i46 i47 i48 i49 i50 i51 i58 i59 i65 i68 i69 i72 i78 i80 i81 i82 i87 x23803768 i96 i100 i103 i104)), ((z 83), .inl (T 0, 64, .inl g83)), ((z 86), .inl (T 0, 64, .inl g86)), ((z 93), .inl (T 0, 8, .inl f23803769)), ((z 94), .inl (T 0, 8, .inl f23803770)), ((z 95), .inl (T 0, 8, .inl f23803771))]) [0, 1, 2, 3, 4, 5] rfl) (hD.sub (ws' := [(a, .inr (11, OX z i1 i2 i3 i4 i5 i6 i7 i8 i30 i43 i45 i46 i47 i48 i49 i50 i51 i58 i59 i65 i68 i69 i72 i78 i80 i81 i82 i87 x23803768 i96 i100 i103 i104)), ((z 83), .inl (T 0, 64, .inl g83)), ((z 86), .inl (T 0, 64, .inl g86)), ((z 93), .inl (T 0, 8, .inl f23803769)), ((z 94), .inl (T 0, 8, .inl f23803770)), ((z 95), .inl (T 0, 8, .inl f23803771))]) [0, 1, 2, 3, 4, 5] (by decide +kernel) rfl) hS (lv_sub hl [0, 1, 2, 3, 4, 5] rfl)
              have hl23804901 : (0 : Int32).toInt = 0 := by decide
              exact L23804134 _ 0 0 g93 g94 g95 _ _ ls ⟨by decide, by decide⟩ ⟨by decide, by decide⟩ (by omega) (Nat.lt_succ_self _) (hP.sub (ws' := [(a, .inr (11, OX z i1 i2 i3 i4 i5 i6 i7 i8 i30 i43 i45 i46 i47 i48 i49 i50 i51 i58 i59 i65 i68 i69 i72 i78 i80 i81 i82 i87 0 i96 i100 i103 i104)), ((z 83), .inl (T 0, 64, .inl g83)), ((z 86), .inl (T 0, 64, .inl g86)), ((z 93), .inl (T 0, 8, .inl g93)), ((z 94), .inl (T 0, 8, .inl g94)), ((z 95), .inl (T 0, 8, .inl g95))]) [0, 1, 2, 3, 4, 5] rfl) (hD.sub (ws' := [(a, .inr (11, OX z i1 i2 i3 i4 i5 i6 i7 i8 i30 i43 i45 i46 i47 i48 i49 i50 i51 i58 i59 i65 i68 i69 i72 i78 i80 i81 i82 i87 0 i96 i100 i103 i104)), ((z 83), .inl (T 0, 64, .inl g83)), ((z 86), .inl (T 0, 64, .inl g86)), ((z 93), .inl (T 0, 8, .inl g93)), ((z 94), .inl (T 0, 8, .inl g94)), ((z 95), .inl (T 0, 8, .inl g95))]) [0, 1, 2, 3, 4, 5] (by decide +kernel) rfl) hS (lv_sub hl [0, 1, 2, 3] rfl)
            · skip
              have kc23803411 : x23802310.toInt < 4 := nle_ti (by decide) rfl c23803411
              refine lv_iload_n hx hb dX11_peel_27 rfl (lv_at hl 3 rfl) ?_
              refine lv_iconst (v := 4) hx hb dX11_peel_28 (by decide) ?_
              refine lv_iload_n hx hb dX11_peel_29 rfl (lv_at hl 0 rfl) ?_
              refine lv_imul hx hb dX11_peel_30 ?_
              refine lv_topi (fun x23804902 ex23804902 => ?_)
              have hx23804902 : x23804902.toInt = 4 * x23802310.toInt := ti_mul ex23804902 (by decide) rfl (by omega) (by omega)
              refine lv_ishr hx hb dX11_peel_31 ?_
              refine lv_topi (fun x23804903 ex23804903 => ?_)
              refine lv_bipush (v := 15) hx hb dX11_peel_32 (by decide) ?_
              refine lv_iand hx hb dX11_peel_34 ?_
              refine lv_topi (fun x23804904 ex23804904 => ?_)
              have hx23804904 : 0 ≤ x23804904.toInt ∧ x23804904.toInt ≤ 15 := and_ti 15 4 (by decide) (by decide) (by decide) ex23804904
              have hsx23804904 := sh0 ex23804904 ex23804903
              refine lv_i2l hx hb dX11_peel_35 rfl ?_
              refine lv_topl (fun x23804905 ex23804905 => ?_)
              have hx23804905 : x23804905.toInt = x23804904.toInt := by rw [ex23804905]; exact Int32.toInt_toInt64 _
              refine lv_iload_n hx hb dX11_peel_36 rfl (lv_at hl 0 rfl) ?_
              refine lv_if_ne (tgt := 44) hx hb dX11_peel_37 (by decide) (fun c23804906 => ?_) (fun c23804906 => ?_)
              · skip
                have kc23804906 : x23802310.toInt ≠ 0 := ne_ti rfl (by decide) c23804906
                have nzx23802310 : ¬ x23802310 = 0 := c23804906
                refine lv_lconst (v := 0) hx hb dX11_peel_44 (by decide) ?_
                refine lv_ldc2 hx hb hown (hT _ mw_1037) dX11_peel_45 ?_
                refine r_calli (wr := [(a, .inr (11, OX z i1 i2 i3 i4 i5 i6 i7 i8 i30 i43 i45 i46 i47 i48 i49 i50 i51 i58 i59 i65 i68 i69 i72 i78 i80 i81 i82 i87 i92 i96 i100 i103 i104)), ((z 83), .inl (T 0, 64, .inl g83)), ((z 86), .inl (T 0, 64, .inl g86)), ((z 93), .inl (T 0, 8, .inl g93)), ((z 94), .inl (T 0, 8, .inl g94)), ((z 95), .inl (T 0, 8, .inl g95))]) (r_runS2 (As := [.long x23804905, .long 0, .long 9]) (rest := []) (wc := []) C0 hE hStr hS (va_free (wc := []) hD hS hA [] rfl) (h_X11_isIn_20000007 l D T sq sv H.size x23804905 0 9) mw_910 mw_911 mw_14 mw_912 dn_1704 rfl rfl ⟨Nat.le_of_ble_eq_true rfl, Nat.le_of_ble_eq_true rfl⟩ (hP.sub (ws' := []) [] rfl) (hD.sub (ws' := []) [] (by decide +kernel) rfl) hl.1 rfl (Nat.le_of_ble_eq_true rfl) dX11_peel_48 ⟨Nat.le_of_ble_eq_true rfl, Nat.le_of_ble_eq_true rfl⟩) hP hD hS hA [] [0, 1, 2, 3, 4, 5] rfl rfl (by decide +kernel) (by decide +kernel) (fun x23804907 u H locs hq hP hD hS => ?_)
                obtain ⟨hp23804908, hx23804907⟩ := hq
                have hp23804908 : (x23804907.toInt = 0 ∧ (x23804905.toInt < 0 ∨ 9 < x23804905.toInt)) ∨ (x23804907.toInt = 1 ∧ 0 ≤ x23804905.toInt ∧ x23804905.toInt ≤ 9) := hp23804908
                have hx23804907 : 0 ≤ x23804907.toInt ∧ x23804907.toInt ≤ 1 := hx23804907
                have hl23804909 : (0 : Int64).toInt = 0 := by decide
                have hl23804910 : (9 : Int64).toInt = 9 := by decide
                have hP : va_P D vwCl [(a, .inr (11, OX z i1 i2 i3 i4 i5 i6 i7 i8 i30 i43 i45 i46 i47 i48 i49 i50 i51 i58 i59 i65 i68 i69 i72 i78 i80 i81 i82 i87 i92 i96 i100 i103 i104)), ((z 83), .inl (T 0, 64, .inl g83)), ((z 86), .inl (T 0, 64, .inl g86)), ((z 93), .inl (T 0, 8, .inl g93)), ((z 94), .inl (T 0, 8, .inl g94)), ((z 95), .inl (T 0, 8, .inl g95))] H := hP
                have hD : va_D A [(a, .inr (11, OX z i1 i2 i3 i4 i5 i6 i7 i8 i30 i43 i45 i46 i47 i48 i49 i50 i51 i58 i59 i65 i68 i69 i72 i78 i80 i81 i82 i87 i92 i96 i100 i103 i104)), ((z 83), .inl (T 0, 64, .inl g83)), ((z 86), .inl (T 0, 64, .inl g86)), ((z 93), .inl (T 0, 8, .inl g93)), ((z 94), .inl (T 0, 8, .inl g94)), ((z 95), .inl (T 0, 8, .inl g95))] := hD
                refine W.widen (k := 0) (n := 0) (Nat.le_refl _) (Nat.le_refl _) ?_
                refine lv_if_ne (tgt := 56) hx hb dX11_peel_51 (by decide) (fun c23804911 => ?_) (fun c23804911 => ?_)
                · skip
                  have kc23804911 : x23804907.toInt ≠ 0 := ne_ti rfl (by decide) c23804911
                  have nzx23804907 : ¬ x23804907 = 0 := c23804911
                  obtain ⟨x23804912, ex23804912⟩ : ∃ y : Int32, y = x23802310 + 1 := ⟨_, rfl⟩
                  have hx23804912 : x23804912.toInt = x23802310.toInt + 1 := ti_add ex23804912 rfl (by decide) (by omega) (by omega)
                  refine lv_iinc (v := x23804912) (lv' := [(3, .int x23804912), (0, .ref a), (1, .int p1), (2, .int p2)]) hx hb dX11_peel_56 hl (k := 0) rfl (by rw [ex23804912]; rfl) (by decide) rfl (fun ls hl => ?_)
                  refine lv_goto (tgt := 22) hx hb dX11_peel_59 (by decide) ?_
                  exact ih23803410 x23804912 _ _ ls ⟨by omega, by omega⟩ (by omega) (by omega) (hP.sub (ws' := [(a, .inr (11, OX z i1 i2 i3 i4 i5 i6 i7 i8 i30 i43 i45 i46 i47 i48 i49 i50 i51 i58 i59 i65 i68 i69 i72 i78 i80 i81 i82 i87 i92 i96 i100 i103 i104)), ((z 83), .inl (T 0, 64, .inl g83)), ((z 86), .inl (T 0, 64, .inl g86)), ((z 93), .inl (T 0, 8, .inl g93)), ((z 94), .inl (T 0, 8, .inl g94)), ((z 95), .inl (T 0, 8, .inl g95))]) [0, 1, 2, 3, 4, 5] rfl) (hD.sub (ws' := [(a, .inr (11, OX z i1 i2 i3 i4 i5 i6 i7 i8 i30 i43 i45 i46 i47 i48 i49 i50 i51 i58 i59 i65 i68 i69 i72 i78 i80 i81 i82 i87 i92 i96 i100 i103 i104)), ((z 83), .inl (T 0, 64, .inl g83)), ((z 86), .inl (T 0, 64, .inl g86)), ((z 93), .inl (T 0, 8, .inl g93)), ((z 94), .inl (T 0, 8, .inl g94)), ((z 95), .inl (T 0, 8, .inl g95))]) [0, 1, 2, 3, 4, 5] (by decide +kernel) rfl) hS (lv_sub hl [0, 1, 2, 3] rfl)
                · skip
                  have kc23804911 : x23804907.toInt = 0 := eq_ti rfl (by decide) c23804911
                  refine lv_iconst (v := (-1)) hx hb dX11_peel_54 (by decide) ?_
                  exact r_iret (i92, g93, g94, g95) C0 hr hlocks hS (Nat.le_refl _) (Nat.le_refl _) dX11_peel_55 ⟨⟨by omega, by omega⟩, ⟨by decide, by decide⟩⟩ (hP.sub (ws' := [(a, .inr (11, OX z i1 i2 i3 i4 i5 i6 i7 i8 i30 i43 i45 i46 i47 i48 i49 i50 i51 i58 i59 i65 i68 i69 i72 i78 i80 i81 i82 i87 i92 i96 i100 i103 i104)), ((z 83), .inl (T 0, 64, .inl g83)), ((z 86), .inl (T 0, 64, .inl g86)), ((z 93), .inl (T 0, 8, .inl g93)), ((z 94), .inl (T 0, 8, .inl g94)), ((z 95), .inl (T 0, 8, .inl g95))]) [0, 1, 2, 3, 4, 5] rfl) (hD.sub (ws' := [(a, .inr (11, OX z i1 i2 i3 i4 i5 i6 i7 i8 i30 i43 i45 i46 i47 i48 i49 i50 i51 i58 i59 i65 i68 i69 i72 i78 i80 i81 i82 i87 i92 i96 i100 i103 i104)), ((z 83), .inl (T 0, 64, .inl g83)), ((z 86), .inl (T 0, 64, .inl g86)), ((z 93), .inl (T 0, 8, .inl g93)), ((z 94), .inl (T 0, 8, .inl g94)), ((z 95), .inl (T 0, 8, .inl g95))]) [0, 1, 2, 3, 4, 5] (by decide +kernel) rfl)
              · skip
                have kc23804906 : x23802310.toInt = 0 := eq_ti rfl (by decide) c23804906
                refine lv_lconst (v := 1) hx hb dX11_peel_40 (by decide) ?_
                refine lv_goto (tgt := 45) hx hb dX11_peel_41 (by decide) ?_
                refine lv_ldc2 hx hb hown (hT _ mw_1037) dX11_peel_45 ?_
                refine r_calli (wr := [(a, .inr (11, OX z i1 i2 i3 i4 i5 i6 i7 i8 i30 i43 i45 i46 i47 i48 i49 i50 i51 i58 i59 i65 i68 i69 i72 i78 i80 i81 i82 i87 i92 i96 i100 i103 i104)), ((z 83), .inl (T 0, 64, .inl g83)), ((z 86), .inl (T 0, 64, .inl g86)), ((z 93), .inl (T 0, 8, .inl g93)), ((z 94), .inl (T 0, 8, .inl g94)), ((z 95), .inl (T 0, 8, .inl g95))]) (r_runS2 (As := [.long x23804905, .long 1, .long 9]) (rest := []) (wc := []) C0 hE hStr hS (va_free (wc := []) hD hS hA [] rfl) (h_X11_isIn_20000007 l D T sq sv H.size x23804905 1 9) mw_910 mw_911 mw_14 mw_912 dn_1704 rfl rfl ⟨Nat.le_of_ble_eq_true rfl, Nat.le_of_ble_eq_true rfl⟩ (hP.sub (ws' := []) [] rfl) (hD.sub (ws' := []) [] (by decide +kernel) rfl) hl.1 rfl (Nat.le_of_ble_eq_true rfl) dX11_peel_48 ⟨Nat.le_of_ble_eq_true rfl, Nat.le_of_ble_eq_true rfl⟩) hP hD hS hA [] [0, 1, 2, 3, 4, 5] rfl rfl (by decide +kernel) (by decide +kernel) (fun x23804913 u H locs hq hP hD hS => ?_)
                obtain ⟨hp23804914, hx23804913⟩ := hq
                have hp23804914 : (x23804913.toInt = 0 ∧ (x23804905.toInt < 1 ∨ 9 < x23804905.toInt)) ∨ (x23804913.toInt = 1 ∧ 1 ≤ x23804905.toInt ∧ x23804905.toInt ≤ 9) := hp23804914
                have hx23804913 : 0 ≤ x23804913.toInt ∧ x23804913.toInt ≤ 1 := hx23804913
                have hl23804915 : (1 : Int64).toInt = 1 := by decide
                have hl23804916 : (9 : Int64).toInt = 9 := by decide
                have hP : va_P D vwCl [(a, .inr (11, OX z i1 i2 i3 i4 i5 i6 i7 i8 i30 i43 i45 i46 i47 i48 i49 i50 i51 i58 i59 i65 i68 i69 i72 i78 i80 i81 i82 i87 i92 i96 i100 i103 i104)), ((z 83), .inl (T 0, 64, .inl g83)), ((z 86), .inl (T 0, 64, .inl g86)), ((z 93), .inl (T 0, 8, .inl g93)), ((z 94), .inl (T 0, 8, .inl g94)), ((z 95), .inl (T 0, 8, .inl g95))] H := hP
                have hD : va_D A [(a, .inr (11, OX z i1 i2 i3 i4 i5 i6 i7 i8 i30 i43 i45 i46 i47 i48 i49 i50 i51 i58 i59 i65 i68 i69 i72 i78 i80 i81 i82 i87 i92 i96 i100 i103 i104)), ((z 83), .inl (T 0, 64, .inl g83)), ((z 86), .inl (T 0, 64, .inl g86)), ((z 93), .inl (T 0, 8, .inl g93)), ((z 94), .inl (T 0, 8, .inl g94)), ((z 95), .inl (T 0, 8, .inl g95))] := hD
                refine W.widen (k := 0) (n := 0) (Nat.le_refl _) (Nat.le_refl _) ?_
                refine lv_if_ne (tgt := 56) hx hb dX11_peel_51 (by decide) (fun c23804917 => ?_) (fun c23804917 => ?_)
                · skip
                  have kc23804917 : x23804913.toInt ≠ 0 := ne_ti rfl (by decide) c23804917
                  have nzx23804913 : ¬ x23804913 = 0 := c23804917
                  obtain ⟨x23804918, ex23804918⟩ : ∃ y : Int32, y = x23802310 + 1 := ⟨_, rfl⟩
                  have hx23804918 : x23804918.toInt = x23802310.toInt + 1 := ti_add ex23804918 rfl (by decide) (by omega) (by omega)
                  refine lv_iinc (v := x23804918) (lv' := [(3, .int x23804918), (0, .ref a), (1, .int p1), (2, .int p2)]) hx hb dX11_peel_56 hl (k := 0) rfl (by rw [ex23804918]; rfl) (by decide) rfl (fun ls hl => ?_)
                  refine lv_goto (tgt := 22) hx hb dX11_peel_59 (by decide) ?_
                  exact ih23803410 x23804918 _ _ ls ⟨by omega, by omega⟩ (by omega) (by omega) (hP.sub (ws' := [(a, .inr (11, OX z i1 i2 i3 i4 i5 i6 i7 i8 i30 i43 i45 i46 i47 i48 i49 i50 i51 i58 i59 i65 i68 i69 i72 i78 i80 i81 i82 i87 i92 i96 i100 i103 i104)), ((z 83), .inl (T 0, 64, .inl g83)), ((z 86), .inl (T 0, 64, .inl g86)), ((z 93), .inl (T 0, 8, .inl g93)), ((z 94), .inl (T 0, 8, .inl g94)), ((z 95), .inl (T 0, 8, .inl g95))]) [0, 1, 2, 3, 4, 5] rfl) (hD.sub (ws' := [(a, .inr (11, OX z i1 i2 i3 i4 i5 i6 i7 i8 i30 i43 i45 i46 i47 i48 i49 i50 i51 i58 i59 i65 i68 i69 i72 i78 i80 i81 i82 i87 i92 i96 i100 i103 i104)), ((z 83), .inl (T 0, 64, .inl g83)), ((z 86), .inl (T 0, 64, .inl g86)), ((z 93), .inl (T 0, 8, .inl g93)), ((z 94), .inl (T 0, 8, .inl g94)), ((z 95), .inl (T 0, 8, .inl g95))]) [0, 1, 2, 3, 4, 5] (by decide +kernel) rfl) hS (lv_sub hl [0, 1, 2, 3] rfl)
                · skip
                  have kc23804917 : x23804913.toInt = 0 := eq_ti rfl (by decide) c23804917
                  refine lv_iconst (v := (-1)) hx hb dX11_peel_54 (by decide) ?_
                  exact r_iret (i92, g93, g94, g95) C0 hr hlocks hS (Nat.le_refl _) (Nat.le_refl _) dX11_peel_55 ⟨⟨by omega, by omega⟩, ⟨by decide, by decide⟩⟩ (hP.sub (ws' := [(a, .inr (11, OX z i1 i2 i3 i4 i5 i6 i7 i8 i30 i43 i45 i46 i47 i48 i49 i50 i51 i58 i59 i65 i68 i69 i72 i78 i80 i81 i82 i87 i92 i96 i100 i103 i104)), ((z 83), .inl (T 0, 64, .inl g83)), ((z 86), .inl (T 0, 64, .inl g86)), ((z 93), .inl (T 0, 8, .inl g93)), ((z 94), .inl (T 0, 8, .inl g94)), ((z 95), .inl (T 0, 8, .inl g95))]) [0, 1, 2, 3, 4, 5] rfl) (hD.sub (ws' := [(a, .inr (11, OX z i1 i2 i3 i4 i5 i6 i7 i8 i30 i43 i45 i46 i47 i48 i49 i50 i51 i58 i59 i65 i68 i69 i72 i78 i80 i81 i82 i87 i92 i96 i100 i103 i104)), ((z 83), .inl (T 0, 64, .inl g83)), ((z 86), .inl (T 0, 64, .inl g86)), ((z 93), .inl (T 0, 8, .inl g93)), ((z 94), .inl (T 0, 8, .inl g94)), ((z 95), .inl (T 0, 8, .inl g95))]) [0, 1, 2, 3, 4, 5] (by decide +kernel) rfl)
        have hl23804919 : (0 : Int32).toInt = 0 := by decide
        exact L23803409 _ 0 _ _ ls ⟨by decide, by decide⟩ (by omega) (Nat.lt_succ_self _) (hP.sub (ws' := [(a, .inr (11, OX z i1 i2 i3 i4 i5 i6 i7 i8 i30 i43 i45 i46 i47 i48 i49 i50 i51 i58 i59 i65 i68 i69 i72 i78 i80 i81 i82 i87 i92 i96 i100 i103 i104)), ((z 83), .inl (T 0, 64, .inl g83)), ((z 86), .inl (T 0, 64, .inl g86)), ((z 93), .inl (T 0, 8, .inl g93)), ((z 94), .inl (T 0, 8, .inl g94)), ((z 95), .inl (T 0, 8, .inl g95))]) [0, 1, 2, 3, 4, 5] rfl) (hD.sub (ws' := [(a, .inr (11, OX z i1 i2 i3 i4 i5 i6 i7 i8 i30 i43 i45 i46 i47 i48 i49 i50 i51 i58 i59 i65 i68 i69 i72 i78 i80 i81 i82 i87 i92 i96 i100 i103 i104)), ((z 83), .inl (T 0, 64, .inl g83)), ((z 86), .inl (T 0, 64, .inl g86)), ((z 93), .inl (T 0, 8, .inl g93)), ((z 94), .inl (T 0, 8, .inl g94)), ((z 95), .inl (T 0, 8, .inl g95))]) [0, 1, 2, 3, 4, 5] (by decide +kernel) rfl) hS (lv_sub hl [0, 1, 2, 3] rfl)
      · skip
        have kc23802258 : 65535 < p2.toInt := nle_ti rfl (by decide) c23802258
        have rg23804920 := i32_rng p2
        refine lv_iconst (v := (-1)) hx hb dX11_peel_18 (by decide) ?_
        exact r_iret (i92, g93, g94, g95) C0 hr hlocks hS (Nat.le_refl _) (Nat.le_refl _) dX11_peel_19 ⟨⟨by omega, by omega⟩, ⟨by decide, by decide⟩⟩ (hP.sub (ws' := [(a, .inr (11, OX z i1 i2 i3 i4 i5 i6 i7 i8 i30 i43 i45 i46 i47 i48 i49 i50 i51 i58 i59 i65 i68 i69 i72 i78 i80 i81 i82 i87 i92 i96 i100 i103 i104)), ((z 83), .inl (T 0, 64, .inl g83)), ((z 86), .inl (T 0, 64, .inl g86)), ((z 93), .inl (T 0, 8, .inl g93)), ((z 94), .inl (T 0, 8, .inl g94)), ((z 95), .inl (T 0, 8, .inl g95))]) [0, 1, 2, 3, 4, 5] rfl) (hD.sub (ws' := [(a, .inr (11, OX z i1 i2 i3 i4 i5 i6 i7 i8 i30 i43 i45 i46 i47 i48 i49 i50 i51 i58 i59 i65 i68 i69 i72 i78 i80 i81 i82 i87 i92 i96 i100 i103 i104)), ((z 83), .inl (T 0, 64, .inl g83)), ((z 86), .inl (T 0, 64, .inl g86)), ((z 93), .inl (T 0, 8, .inl g93)), ((z 94), .inl (T 0, 8, .inl g94)), ((z 95), .inl (T 0, 8, .inl g95))]) [0, 1, 2, 3, 4, 5] (by decide +kernel) rfl)
