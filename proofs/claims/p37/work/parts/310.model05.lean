set_option maxHeartbeats 4000000 in
set_option maxRecDepth 100000 in
theorem h_X11_greatestStep_22800296 (l : Launch) (D : va_G) (T : Nat → ClassId) (sq sv sz : Nat) (a : Nat) (z : Nat → Nat) (i1 i2 i3 i4 i5 i6 i7 i8 i30 i43 i45 i46 i47 i48 i49 i50 i51 i58 i59 i65 i68 i69 i72 i78 i80 i81 i82 i87 i92 i96 i100 i103 i104 : Int32) (g74 : Nat → Int32) (g75 : Nat → Int32) (g76 : Nat → Int32) (g77 : Nat → Int32) (hi72 : 0 ≤ i72.toInt ∧ i72.toInt ≤ 64) (hbg77 : Bd (0) (63) g77) (hPS : PS i72.toInt g74) (hPO : PO i72.toInt i72.toInt g77) : Met l yX11_greatestStep (.code yX11_greatestStep cX11_greatestStep 6 (some .long) :: TB) { frames := 3, cells := 0, slots := 0, locals := 70 } (PC2 D T sq sv [.ref a] [(a, .inr (11, OX z i1 i2 i3 i4 i5 i6 i7 i8 i30 i43 i45 i46 i47 i48 i49 i50 i51 i58 i59 i65 i68 i69 i72 i78 i80 i81 i82 i87 i92 i96 i100 i103 i104)), ((z 74), .inl (T 0, 64, .inl g74)), ((z 75), .inl (T 0, 64, .inl g75)), ((z 76), .inl (T 0, 64, .inl g76)), ((z 77), .inl (T 0, 64, .inl g77))] sz) (Ql (S := Unit) (fun (r : Int64) (_ : Unit) => True) (fun (_ : Unit) => [(a, .inr (11, OX z i1 i2 i3 i4 i5 i6 i7 i8 i30 i43 i45 i46 i47 i48 i49 i50 i51 i58 i59 i65 i68 i69 i72 i78 i80 i81 i82 i87 i92 i96 i100 i103 i104)), ((z 74), .inl (T 0, 64, .inl g74)), ((z 75), .inl (T 0, 64, .inl g75)), ((z 76), .inl (T 0, 64, .inl g76)), ((z 77), .inl (T 0, 64, .inl g77))]) D (va_A [(a, .inr (11, OX z i1 i2 i3 i4 i5 i6 i7 i8 i30 i43 i45 i46 i47 i48 i49 i50 i51 i58 i59 i65 i68 i69 i72 i78 i80 i81 i82 i87 i92 i96 i100 i103 i104)), ((z 74), .inl (T 0, 64, .inl g74)), ((z 75), .inl (T 0, 64, .inl g75)), ((z 76), .inl (T 0, 64, .inl g76)), ((z 77), .inl (T 0, 64, .inl g77))] sz)) 0 0 (va_A [(a, .inr (11, OX z i1 i2 i3 i4 i5 i6 i7 i8 i30 i43 i45 i46 i47 i48 i49 i50 i51 i58 i59 i65 i68 i69 i72 i78 i80 i81 i82 i87 i92 i96 i100 i103 i104)), ((z 74), .inl (T 0, 64, .inl g74)), ((z 75), .inl (T 0, 64, .inl g75)), ((z 76), .inl (T 0, 64, .inl g76)), ((z 77), .inl (T 0, 64, .inl g77))] sz) := by
  refine ct_begin2 (Qc := Ql (S := Unit) (fun (r : Int64) (_ : Unit) => True) (fun (_ : Unit) => [(a, .inr (11, OX z i1 i2 i3 i4 i5 i6 i7 i8 i30 i43 i45 i46 i47 i48 i49 i50 i51 i58 i59 i65 i68 i69 i72 i78 i80 i81 i82 i87 i92 i96 i100 i103 i104)), ((z 74), .inl (T 0, 64, .inl g74)), ((z 75), .inl (T 0, 64, .inl g75)), ((z 76), .inl (T 0, 64, .inl g76)), ((z 77), .inl (T 0, 64, .inl g77))]) D) (by decide +kernel) (Nat.le_of_ble_eq_true rfl) ?_
  intro p e s m below meth c A ls C0 hr hlocks hnm hE hStr hA hP hD hl
  generalize ([.ref a] : List Value).toArray = args at C0 ⊢
  have hx := C0.1
  have hb := C0.2.1
  have hml := C0.2.2.1
  have hown := C0.2.2.2.1
  have hT := C0.2.2.2.2
  have hK := hE.1
  generalize hH : s.heap = H at hP ⊢
  have hS : va_S A s.heap H [] := by rw [← hH]; exact va_S.rf
  have hP : va_P D vwCl [(a, .inr (11, OX z i1 i2 i3 i4 i5 i6 i7 i8 i30 i43 i45 i46 i47 i48 i49 i50 i51 i58 i59 i65 i68 i69 i72 i78 i80 i81 i82 i87 i92 i96 i100 i103 i104)), ((z 74), .inl (T 0, 64, .inl g74)), ((z 75), .inl (T 0, 64, .inl g75)), ((z 76), .inl (T 0, 64, .inl g76)), ((z 77), .inl (T 0, 64, .inl g77))] H := hP
  have hD : va_D A [(a, .inr (11, OX z i1 i2 i3 i4 i5 i6 i7 i8 i30 i43 i45 i46 i47 i48 i49 i50 i51 i58 i59 i65 i68 i69 i72 i78 i80 i81 i82 i87 i92 i96 i100 i103 i104)), ((z 74), .inl (T 0, 64, .inl g74)), ((z 75), .inl (T 0, 64, .inl g75)), ((z 76), .inl (T 0, 64, .inl g76)), ((z 77), .inl (T 0, 64, .inl g77))] := hD
  have hl : lv_has ls 6 [(0, .ref a)] := hl
  refine lv_lconst (v := 0) hx hb dX11_greatestStep_0 (by decide) ?_
  refine lv_lstore_n (lv' := [(1, .long 0), (0, .ref a)]) hx hb dX11_greatestStep_1 rfl hl (by decide) rfl (fun ls hl => ?_)
  refine lv_iconst (v := 0) hx hb dX11_greatestStep_2 (by decide) ?_
  refine lv_istore_n (lv' := [(3, .int 0), (1, .long 0), (0, .ref a)]) hx hb dX11_greatestStep_3 rfl hl (by decide) rfl (fun ls hl => ?_)
  have L22800582 : ∀ (n : Nat) (x22800570 : Int32) (x22800571 : Int64) (H : Heap) (locs : List Loc) (ls : Array Slot), (0 ≤ x22800570.toInt ∧ x22800570.toInt ≤ 64) → (65 - x22800570.toInt).toNat < n → va_P D vwCl [(a, .inr (11, OX z i1 i2 i3 i4 i5 i6 i7 i8 i30 i43 i45 i46 i47 i48 i49 i50 i51 i58 i59 i65 i68 i69 i72 i78 i80 i81 i82 i87 i92 i96 i100 i103 i104)), ((z 74), .inl (T 0, 64, .inl g74)), ((z 75), .inl (T 0, 64, .inl g75)), ((z 76), .inl (T 0, 64, .inl g76)), ((z 77), .inl (T 0, 64, .inl g77))] H → va_D A [(a, .inr (11, OX z i1 i2 i3 i4 i5 i6 i7 i8 i30 i43 i45 i46 i47 i48 i49 i50 i51 i58 i59 i65 i68 i69 i72 i78 i80 i81 i82 i87 i92 i96 i100 i103 i104)), ((z 74), .inl (T 0, 64, .inl g74)), ((z 75), .inl (T 0, 64, .inl g75)), ((z 76), .inl (T 0, 64, .inl g76)), ((z 77), .inl (T 0, 64, .inl g77))] → va_S A s.heap H locs → lv_has ls 6 [(3, .int x22800570), (1, .long x22800571), (0, .ref a)] → W p l e { frames := 3, cells := 0, slots := 0, locals := 70 } s m args below meth c H locs 0 0 (MQ below ((Ql (S := Unit) (fun (r : Int64) (_ : Unit) => True) (fun (_ : Unit) => [(a, .inr (11, OX z i1 i2 i3 i4 i5 i6 i7 i8 i30 i43 i45 i46 i47 i48 i49 i50 i51 i58 i59 i65 i68 i69 i72 i78 i80 i81 i82 i87 i92 i96 i100 i103 i104)), ((z 74), .inl (T 0, 64, .inl g74)), ((z 75), .inl (T 0, 64, .inl g75)), ((z 76), .inl (T 0, 64, .inl g76)), ((z 77), .inl (T 0, 64, .inl g77))]) D) A) args s 0 0 A) (F0 m 4 ls []) := by
    intro n
    induction n with
    | zero =>
      intro x22800570 x22800571 H locs ls hx22800570 hms hP hD hS hl
      exact absurd hms (Nat.not_lt_zero _)
    | succ n ih22800583 =>
      intro x22800570 x22800571 H locs ls hx22800570 hms hP hD hS hl
      refine lv_iload_n hx hb dX11_greatestStep_4 rfl (lv_at hl 0 rfl) ?_
      refine lv_aload_n hx hb dX11_greatestStep_5 rfl (lv_at hl 2 rfl) ?_
      refine r_get (v := .int i72) C0 hE ffX11_72 mw_862 hP 0 rfl ox_72 dX11_greatestStep_6 ?_
      refine lv_icmp_ge (tgt := 48) hx hb dX11_greatestStep_9 (by decide) (fun c22800584 => ?_) (fun c22800584 => ?_)
      · skip
        have kc22800584 : i72.toInt ≤ x22800570.toInt := le_ti rfl rfl c22800584
        refine lv_lload_n hx hb dX11_greatestStep_48 rfl (lv_at hl 1 rfl) ?_
        exact r_lret () C0 hr hlocks hS (Nat.le_refl _) (Nat.le_refl _) dX11_greatestStep_49 trivial (hP.sub (ws' := [(a, .inr (11, OX z i1 i2 i3 i4 i5 i6 i7 i8 i30 i43 i45 i46 i47 i48 i49 i50 i51 i58 i59 i65 i68 i69 i72 i78 i80 i81 i82 i87 i92 i96 i100 i103 i104)), ((z 74), .inl (T 0, 64, .inl g74)), ((z 75), .inl (T 0, 64, .inl g75)), ((z 76), .inl (T 0, 64, .inl g76)), ((z 77), .inl (T 0, 64, .inl g77))]) [0, 1, 2, 3, 4] rfl) (hD.sub (ws' := [(a, .inr (11, OX z i1 i2 i3 i4 i5 i6 i7 i8 i30 i43 i45 i46 i47 i48 i49 i50 i51 i58 i59 i65 i68 i69 i72 i78 i80 i81 i82 i87 i92 i96 i100 i103 i104)), ((z 74), .inl (T 0, 64, .inl g74)), ((z 75), .inl (T 0, 64, .inl g75)), ((z 76), .inl (T 0, 64, .inl g76)), ((z 77), .inl (T 0, 64, .inl g77))]) [0, 1, 2, 3, 4] (by decide +kernel) rfl)
      · skip
        have kc22800584 : x22800570.toInt < i72.toInt := nle_ti rfl rfl c22800584
        refine lv_aload_n hx hb dX11_greatestStep_12 rfl (lv_at hl 2 rfl) ?_
        refine lv_iload_n hx hb dX11_greatestStep_13 rfl (lv_at hl 0 rfl) ?_
        refine r_calll (wr := []) (r_runV2 (As := [.int x22800570]) (rest := []) (wc := [(a, .inr (11, OX z i1 i2 i3 i4 i5 i6 i7 i8 i30 i43 i45 i46 i47 i48 i49 i50 i51 i58 i59 i65 i68 i69 i72 i78 i80 i81 i82 i87 i92 i96 i100 i103 i104)), ((z 74), .inl (T 0, 64, .inl g74)), ((z 75), .inl (T 0, 64, .inl g75)), ((z 76), .inl (T 0, 64, .inl g76)), ((z 77), .inl (T 0, 64, .inl g77))]) (ci := 11) C0 hE hStr hS (va_free (wc := [(a, .inr (11, OX z i1 i2 i3 i4 i5 i6 i7 i8 i30 i43 i45 i46 i47 i48 i49 i50 i51 i58 i59 i65 i68 i69 i72 i78 i80 i81 i82 i87 i92 i96 i100 i103 i104)), ((z 74), .inl (T 0, 64, .inl g74)), ((z 75), .inl (T 0, 64, .inl g75)), ((z 76), .inl (T 0, 64, .inl g76)), ((z 77), .inl (T 0, 64, .inl g77))]) hD hS hA [0, 1, 2, 3, 4] rfl) (h_X11_loadAt_22600522 l D T sq sv H.size a z i1 i2 i3 i4 i5 i6 i7 i8 i30 i43 i45 i46 i47 i48 i49 i50 i51 i58 i59 i65 i68 i69 i72 i78 i80 i81 i82 i87 i92 i96 i100 i103 i104 x22800570 g74 g75 g76 g77 ⟨by omega, by omega⟩ ⟨by omega, by omega⟩ hbg77) mw_1127 mw_1128 mw_1347 mw_14 mw_1129 dn_1778 rfl rfl ⟨Nat.le_of_ble_eq_true rfl, Nat.le_of_ble_eq_true rfl⟩ (hP.sub (ws' := [(a, .inr (11, OX z i1 i2 i3 i4 i5 i6 i7 i8 i30 i43 i45 i46 i47 i48 i49 i50 i51 i58 i59 i65 i68 i69 i72 i78 i80 i81 i82 i87 i92 i96 i100 i103 i104)), ((z 74), .inl (T 0, 64, .inl g74)), ((z 75), .inl (T 0, 64, .inl g75)), ((z 76), .inl (T 0, 64, .inl g76)), ((z 77), .inl (T 0, 64, .inl g77))]) [0, 1, 2, 3, 4] rfl) (hD.sub (ws' := [(a, .inr (11, OX z i1 i2 i3 i4 i5 i6 i7 i8 i30 i43 i45 i46 i47 i48 i49 i50 i51 i58 i59 i65 i68 i69 i72 i78 i80 i81 i82 i87 i92 i96 i100 i103 i104)), ((z 74), .inl (T 0, 64, .inl g74)), ((z 75), .inl (T 0, 64, .inl g75)), ((z 76), .inl (T 0, 64, .inl g76)), ((z 77), .inl (T 0, 64, .inl g77))]) [0, 1, 2, 3, 4] (by decide +kernel) rfl) rfl rfl rfl hl.1 rfl (Nat.le_of_ble_eq_true rfl) dX11_greatestStep_14 ⟨Nat.le_of_ble_eq_true rfl, Nat.le_of_ble_eq_true rfl⟩) hP hD hS hA [0, 1, 2, 3, 4] [] rfl rfl (by decide +kernel) (by decide +kernel) (fun x22800594 u H locs hq hP hD hS => ?_)
        have hP : va_P D vwCl [(a, .inr (11, OX z i1 i2 i3 i4 i5 i6 i7 i8 i30 i43 i45 i46 i47 i48 i49 i50 i51 i58 i59 i65 i68 i69 i72 i78 i80 i81 i82 i87 i92 i96 i100 i103 i104)), ((z 74), .inl (T 0, 64, .inl g74)), ((z 75), .inl (T 0, 64, .inl g75)), ((z 76), .inl (T 0, 64, .inl g76)), ((z 77), .inl (T 0, 64, .inl g77))] H := hP
        have hD : va_D A [(a, .inr (11, OX z i1 i2 i3 i4 i5 i6 i7 i8 i30 i43 i45 i46 i47 i48 i49 i50 i51 i58 i59 i65 i68 i69 i72 i78 i80 i81 i82 i87 i92 i96 i100 i103 i104)), ((z 74), .inl (T 0, 64, .inl g74)), ((z 75), .inl (T 0, 64, .inl g75)), ((z 76), .inl (T 0, 64, .inl g76)), ((z 77), .inl (T 0, 64, .inl g77))] := hD
        refine W.widen (k := 0) (n := 0) (Nat.le_refl _) (Nat.le_refl _) ?_
        refine lv_aload_n hx hb dX11_greatestStep_17 rfl (lv_at hl 2 rfl) ?_
        refine r_get (v := .ref (z 74)) C0 hE ffX11_74 mw_864 hP 0 rfl ox_74 dX11_greatestStep_18 ?_
        refine lv_aload_n hx hb dX11_greatestStep_21 rfl (lv_at hl 2 rfl) ?_
        refine r_get (v := .ref (z 77)) C0 hE ffX11_77 mw_867 hP 0 rfl ox_77 dX11_greatestStep_22 ?_
        refine lv_iload_n hx hb dX11_greatestStep_25 rfl (lv_at hl 0 rfl) ?_
        refine va_iald hx hb hK hP 4 0 rfl rfl (in_ti rfl (by omega) (by omega)) dX11_greatestStep_26 ?_
        refine lv_topi (fun x22800595 ex22800595 => ?_)
        have hx22800595 : 0 ≤ x22800595.toInt ∧ x22800595.toInt ≤ 63 := by rw [ex22800595]; exact hbg77 _
        have hox22800595 := PO.at hPO ex22800595 (by omega) (by omega)
        refine va_iald hx hb hK hP 1 0 rfl rfl (in_ti rfl (by omega) (by omega)) dX11_greatestStep_27 ?_
        refine lv_topi (fun x22800596 ex22800596 => ?_)
        have hyx22800596 : 1 ≤ x22800596.toInt := PS.at hPS ex22800596 (by omega) (by omega)
        refine lv_i2l hx hb dX11_greatestStep_28 rfl ?_
        refine lv_topl (fun x22800597 ex22800597 => ?_)
        have hx22800597 : x22800597.toInt = x22800596.toInt := by rw [ex22800597]; exact Int32.toInt_toInt64 _
        refine lv_ldiv hx hb dX11_greatestStep_29 (by rw [ex22800597]; exact nz_l rfl (by omega)) ?_
        refine lv_topl (fun x22800598 ex22800598 => ?_)
        refine lv_lstore (lv' := [(4, .long x22800598), (3, .int x22800570), (1, .long x22800571), (0, .ref a)]) hx hb dX11_greatestStep_30 hl (by decide) rfl (fun ls hl => ?_)
        refine lv_lload hx hb dX11_greatestStep_32 (lv_at hl 0 rfl) ?_
        refine lv_lload_n hx hb dX11_greatestStep_34 rfl (lv_at hl 2 rfl) ?_
        refine W.lcmp hx hb dX11_greatestStep_35 ?_
        refine lv_topi (fun x22800599 ex22800599 => ?_)
        have J22800602 : ∀ (x22800601 : Int64) (H : Heap) (locs : List Loc) (ls : Array Slot), va_P D vwCl [(a, .inr (11, OX z i1 i2 i3 i4 i5 i6 i7 i8 i30 i43 i45 i46 i47 i48 i49 i50 i51 i58 i59 i65 i68 i69 i72 i78 i80 i81 i82 i87 i92 i96 i100 i103 i104)), ((z 74), .inl (T 0, 64, .inl g74)), ((z 75), .inl (T 0, 64, .inl g75)), ((z 76), .inl (T 0, 64, .inl g76)), ((z 77), .inl (T 0, 64, .inl g77))] H → va_D A [(a, .inr (11, OX z i1 i2 i3 i4 i5 i6 i7 i8 i30 i43 i45 i46 i47 i48 i49 i50 i51 i58 i59 i65 i68 i69 i72 i78 i80 i81 i82 i87 i92 i96 i100 i103 i104)), ((z 74), .inl (T 0, 64, .inl g74)), ((z 75), .inl (T 0, 64, .inl g75)), ((z 76), .inl (T 0, 64, .inl g76)), ((z 77), .inl (T 0, 64, .inl g77))] → va_S A s.heap H locs → lv_has ls 6 [(4, .long x22800598), (3, .int x22800570), (1, .long x22800601), (0, .ref a)] → W p l e { frames := 3, cells := 0, slots := 0, locals := 70 } s m args below meth c H locs 0 0 (MQ below ((Ql (S := Unit) (fun (r : Int64) (_ : Unit) => True) (fun (_ : Unit) => [(a, .inr (11, OX z i1 i2 i3 i4 i5 i6 i7 i8 i30 i43 i45 i46 i47 i48 i49 i50 i51 i58 i59 i65 i68 i69 i72 i78 i80 i81 i82 i87 i92 i96 i100 i103 i104)), ((z 74), .inl (T 0, 64, .inl g74)), ((z 75), .inl (T 0, 64, .inl g75)), ((z 76), .inl (T 0, 64, .inl g76)), ((z 77), .inl (T 0, 64, .inl g77))]) D) A) args s 0 0 A) (F0 m 42 ls []) := by
          intro x22800601 H locs ls hP hD hS hl
          obtain ⟨x22800603, ex22800603⟩ : ∃ y : Int32, y = x22800570 + 1 := ⟨_, rfl⟩
          have hx22800603 : x22800603.toInt = x22800570.toInt + 1 := ti_add ex22800603 rfl (by decide) (by omega) (by omega)
          refine lv_iinc (v := x22800603) (lv' := [(3, .int x22800603), (4, .long x22800598), (1, .long x22800601), (0, .ref a)]) hx hb dX11_greatestStep_42 hl (k := 1) rfl (by rw [ex22800603]; rfl) (by decide) rfl (fun ls hl => ?_)
          refine lv_goto (tgt := 4) hx hb dX11_greatestStep_45 (by decide) ?_
          exact ih22800583 x22800603 x22800601 _ _ ls ⟨by omega, by omega⟩ (by omega) (hP.sub (ws' := [(a, .inr (11, OX z i1 i2 i3 i4 i5 i6 i7 i8 i30 i43 i45 i46 i47 i48 i49 i50 i51 i58 i59 i65 i68 i69 i72 i78 i80 i81 i82 i87 i92 i96 i100 i103 i104)), ((z 74), .inl (T 0, 64, .inl g74)), ((z 75), .inl (T 0, 64, .inl g75)), ((z 76), .inl (T 0, 64, .inl g76)), ((z 77), .inl (T 0, 64, .inl g77))]) [0, 1, 2, 3, 4] rfl) (hD.sub (ws' := [(a, .inr (11, OX z i1 i2 i3 i4 i5 i6 i7 i8 i30 i43 i45 i46 i47 i48 i49 i50 i51 i58 i59 i65 i68 i69 i72 i78 i80 i81 i82 i87 i92 i96 i100 i103 i104)), ((z 74), .inl (T 0, 64, .inl g74)), ((z 75), .inl (T 0, 64, .inl g75)), ((z 76), .inl (T 0, 64, .inl g76)), ((z 77), .inl (T 0, 64, .inl g77))]) [0, 1, 2, 3, 4] (by decide +kernel) rfl) hS (lv_sub hl [0, 2, 3] rfl)
        refine lv_if_le (tgt := 42) hx hb dX11_greatestStep_36 (by decide) (fun c22800600 => ?_) (fun c22800600 => ?_)
        · skip
          have kc22800600 : x22800599.toInt ≤ 0 := le_ti rfl (by decide) c22800600
          have qc22800600 : x22800598.toInt ≤ x22800571.toInt := lc_le ex22800599 rfl rfl kc22800600
          exact J22800602 x22800571 _ _ ls (hP.sub (ws' := [(a, .inr (11, OX z i1 i2 i3 i4 i5 i6 i7 i8 i30 i43 i45 i46 i47 i48 i49 i50 i51 i58 i59 i65 i68 i69 i72 i78 i80 i81 i82 i87 i92 i96 i100 i103 i104)), ((z 74), .inl (T 0, 64, .inl g74)), ((z 75), .inl (T 0, 64, .inl g75)), ((z 76), .inl (T 0, 64, .inl g76)), ((z 77), .inl (T 0, 64, .inl g77))]) [0, 1, 2, 3, 4] rfl) (hD.sub (ws' := [(a, .inr (11, OX z i1 i2 i3 i4 i5 i6 i7 i8 i30 i43 i45 i46 i47 i48 i49 i50 i51 i58 i59 i65 i68 i69 i72 i78 i80 i81 i82 i87 i92 i96 i100 i103 i104)), ((z 74), .inl (T 0, 64, .inl g74)), ((z 75), .inl (T 0, 64, .inl g75)), ((z 76), .inl (T 0, 64, .inl g76)), ((z 77), .inl (T 0, 64, .inl g77))]) [0, 1, 2, 3, 4] (by decide +kernel) rfl) hS (lv_sub hl [0, 1, 2, 3] rfl)
        · skip
          have kc22800600 : 0 < x22800599.toInt := nle_ti rfl (by decide) c22800600
          have qc22800600 : x22800571.toInt < x22800598.toInt := lc_gt ex22800599 rfl rfl kc22800600
          have rg22800604 := i32_rng x22800599
          refine lv_lload hx hb dX11_greatestStep_39 (lv_at hl 0 rfl) ?_
          refine lv_lstore_n (lv' := [(1, .long x22800598), (4, .long x22800598), (3, .int x22800570), (0, .ref a)]) hx hb dX11_greatestStep_41 rfl hl (by decide) rfl (fun ls hl => ?_)
          exact J22800602 x22800598 _ _ ls (hP.sub (ws' := [(a, .inr (11, OX z i1 i2 i3 i4 i5 i6 i7 i8 i30 i43 i45 i46 i47 i48 i49 i50 i51 i58 i59 i65 i68 i69 i72 i78 i80 i81 i82 i87 i92 i96 i100 i103 i104)), ((z 74), .inl (T 0, 64, .inl g74)), ((z 75), .inl (T 0, 64, .inl g75)), ((z 76), .inl (T 0, 64, .inl g76)), ((z 77), .inl (T 0, 64, .inl g77))]) [0, 1, 2, 3, 4] rfl) (hD.sub (ws' := [(a, .inr (11, OX z i1 i2 i3 i4 i5 i6 i7 i8 i30 i43 i45 i46 i47 i48 i49 i50 i51 i58 i59 i65 i68 i69 i72 i78 i80 i81 i82 i87 i92 i96 i100 i103 i104)), ((z 74), .inl (T 0, 64, .inl g74)), ((z 75), .inl (T 0, 64, .inl g75)), ((z 76), .inl (T 0, 64, .inl g76)), ((z 77), .inl (T 0, 64, .inl g77))]) [0, 1, 2, 3, 4] (by decide +kernel) rfl) hS (lv_sub hl [1, 2, 0, 3] rfl)
  exact L22800582 _ 0 0 _ _ ls ⟨by decide, by decide⟩ (Nat.lt_succ_self _) (hP.sub (ws' := [(a, .inr (11, OX z i1 i2 i3 i4 i5 i6 i7 i8 i30 i43 i45 i46 i47 i48 i49 i50 i51 i58 i59 i65 i68 i69 i72 i78 i80 i81 i82 i87 i92 i96 i100 i103 i104)), ((z 74), .inl (T 0, 64, .inl g74)), ((z 75), .inl (T 0, 64, .inl g75)), ((z 76), .inl (T 0, 64, .inl g76)), ((z 77), .inl (T 0, 64, .inl g77))]) [0, 1, 2, 3, 4] rfl) (hD.sub (ws' := [(a, .inr (11, OX z i1 i2 i3 i4 i5 i6 i7 i8 i30 i43 i45 i46 i47 i48 i49 i50 i51 i58 i59 i65 i68 i69 i72 i78 i80 i81 i82 i87 i92 i96 i100 i103 i104)), ((z 74), .inl (T 0, 64, .inl g74)), ((z 75), .inl (T 0, 64, .inl g75)), ((z 76), .inl (T 0, 64, .inl g76)), ((z 77), .inl (T 0, 64, .inl g77))]) [0, 1, 2, 3, 4] (by decide +kernel) rfl) hS (lv_sub hl [0, 1, 2] rfl)
set_option maxHeartbeats 4000000 in
set_option maxRecDepth 100000 in
theorem h_X11_odds_22900020 (l : Launch) (D : va_G) (T : Nat → ClassId) (sq sv sz : Nat) (a : Nat) (z : Nat → Nat) (i1 i2 i3 i4 i5 i6 i7 i8 i30 i43 i45 i46 i47 i48 i49 i50 i51 i58 i59 i65 i68 i69 i72 i78 i80 i81 i82 i87 i92 i96 i100 i103 i104 : Int32) (p1 : Int32) (g70 : Nat → Int64) (hi69 : -1 ≤ i69.toInt ∧ i69.toInt ≤ 64) : Met l yX11_odds (.code yX11_odds cX11_odds 5 (some .long) :: TB) { frames := 1, cells := 0, slots := 0, locals := 25 } (PC2 D T sq sv [.ref a, .int p1] [(a, .inr (11, OX z i1 i2 i3 i4 i5 i6 i7 i8 i30 i43 i45 i46 i47 i48 i49 i50 i51 i58 i59 i65 i68 i69 i72 i78 i80 i81 i82 i87 i92 i96 i100 i103 i104)), ((z 70), .inl (T 1, 66, .inr (.inl g70)))] sz) (Ql (S := Unit) (fun (r : Int64) (_ : Unit) => True) (fun (_ : Unit) => [(a, .inr (11, OX z i1 i2 i3 i4 i5 i6 i7 i8 i30 i43 i45 i46 i47 i48 i49 i50 i51 i58 i59 i65 i68 i69 i72 i78 i80 i81 i82 i87 i92 i96 i100 i103 i104)), ((z 70), .inl (T 1, 66, .inr (.inl g70)))]) D (va_A [(a, .inr (11, OX z i1 i2 i3 i4 i5 i6 i7 i8 i30 i43 i45 i46 i47 i48 i49 i50 i51 i58 i59 i65 i68 i69 i72 i78 i80 i81 i82 i87 i92 i96 i100 i103 i104)), ((z 70), .inl (T 1, 66, .inr (.inl g70)))] sz)) 0 0 (va_A [(a, .inr (11, OX z i1 i2 i3 i4 i5 i6 i7 i8 i30 i43 i45 i46 i47 i48 i49 i50 i51 i58 i59 i65 i68 i69 i72 i78 i80 i81 i82 i87 i92 i96 i100 i103 i104)), ((z 70), .inl (T 1, 66, .inr (.inl g70)))] sz) := by
  refine ct_begin2 (Qc := Ql (S := Unit) (fun (r : Int64) (_ : Unit) => True) (fun (_ : Unit) => [(a, .inr (11, OX z i1 i2 i3 i4 i5 i6 i7 i8 i30 i43 i45 i46 i47 i48 i49 i50 i51 i58 i59 i65 i68 i69 i72 i78 i80 i81 i82 i87 i92 i96 i100 i103 i104)), ((z 70), .inl (T 1, 66, .inr (.inl g70)))]) D) (by decide +kernel) (Nat.le_of_ble_eq_true rfl) ?_
  intro p e s m below meth c A ls C0 hr hlocks hnm hE hStr hA hP hD hl
  generalize ([.ref a, .int p1] : List Value).toArray = args at C0 ⊢
  have hx := C0.1
  have hb := C0.2.1
  have hml := C0.2.2.1
  have hown := C0.2.2.2.1
  have hT := C0.2.2.2.2
  have hK := hE.1
  generalize hH : s.heap = H at hP ⊢
  have hS : va_S A s.heap H [] := by rw [← hH]; exact va_S.rf
  have hP : va_P D vwCl [(a, .inr (11, OX z i1 i2 i3 i4 i5 i6 i7 i8 i30 i43 i45 i46 i47 i48 i49 i50 i51 i58 i59 i65 i68 i69 i72 i78 i80 i81 i82 i87 i92 i96 i100 i103 i104)), ((z 70), .inl (T 1, 66, .inr (.inl g70)))] H := hP
  have hD : va_D A [(a, .inr (11, OX z i1 i2 i3 i4 i5 i6 i7 i8 i30 i43 i45 i46 i47 i48 i49 i50 i51 i58 i59 i65 i68 i69 i72 i78 i80 i81 i82 i87 i92 i96 i100 i103 i104)), ((z 70), .inl (T 1, 66, .inr (.inl g70)))] := hD
  have hl : lv_has ls 5 [(0, .ref a), (1, .int p1)] := hl
  refine lv_iload_n hx hb dX11_odds_0 rfl (lv_at hl 1 rfl) ?_
  refine lv_i2l hx hb dX11_odds_1 rfl ?_
  refine lv_topl (fun x22900021 ex22900021 => ?_)
  have hx22900021 : x22900021.toInt = p1.toInt := by rw [ex22900021]; exact Int32.toInt_toInt64 _
  refine lv_lconst (v := 0) hx hb dX11_odds_2 (by decide) ?_
  refine lv_aload_n hx hb dX11_odds_3 rfl (lv_at hl 0 rfl) ?_
  refine r_get (v := .int i69) C0 hE ffX11_69 mw_859 hP 0 rfl ox_69 dX11_odds_4 ?_
  refine lv_i2l hx hb dX11_odds_7 rfl ?_
  refine lv_topl (fun x22900022 ex22900022 => ?_)
  have hx22900022 : x22900022.toInt = i69.toInt := by rw [ex22900022]; exact Int32.toInt_toInt64 _
  refine r_calli (wr := [(a, .inr (11, OX z i1 i2 i3 i4 i5 i6 i7 i8 i30 i43 i45 i46 i47 i48 i49 i50 i51 i58 i59 i65 i68 i69 i72 i78 i80 i81 i82 i87 i92 i96 i100 i103 i104)), ((z 70), .inl (T 1, 66, .inr (.inl g70)))]) (r_runS2 (As := [.long x22900021, .long 0, .long x22900022]) (rest := []) (wc := []) C0 hE hStr hS (va_free (wc := []) hD hS hA [] rfl) (h_X11_isIn_20000007 l D T sq sv H.size x22900021 0 x22900022) mw_910 mw_911 mw_14 mw_912 dn_1704 rfl rfl ⟨Nat.le_of_ble_eq_true rfl, Nat.le_of_ble_eq_true rfl⟩ (hP.sub (ws' := []) [] rfl) (hD.sub (ws' := []) [] (by decide +kernel) rfl) hl.1 rfl (Nat.le_of_ble_eq_true rfl) dX11_odds_8 ⟨Nat.le_of_ble_eq_true rfl, Nat.le_of_ble_eq_true rfl⟩) hP hD hS hA [] [0, 1] rfl rfl (by decide +kernel) (by decide +kernel) (fun x22900023 u H locs hq hP hD hS => ?_)
  obtain ⟨hp22900024, hx22900023⟩ := hq
  have hp22900024 : (x22900023.toInt = 0 ∧ (x22900021.toInt < 0 ∨ x22900022.toInt < x22900021.toInt)) ∨ (x22900023.toInt = 1 ∧ 0 ≤ x22900021.toInt ∧ x22900021.toInt ≤ x22900022.toInt) := hp22900024
  have hx22900023 : 0 ≤ x22900023.toInt ∧ x22900023.toInt ≤ 1 := hx22900023
  have hl22900025 : (0 : Int64).toInt = 0 := by decide
  have hP : va_P D vwCl [(a, .inr (11, OX z i1 i2 i3 i4 i5 i6 i7 i8 i30 i43 i45 i46 i47 i48 i49 i50 i51 i58 i59 i65 i68 i69 i72 i78 i80 i81 i82 i87 i92 i96 i100 i103 i104)), ((z 70), .inl (T 1, 66, .inr (.inl g70)))] H := hP
  have hD : va_D A [(a, .inr (11, OX z i1 i2 i3 i4 i5 i6 i7 i8 i30 i43 i45 i46 i47 i48 i49 i50 i51 i58 i59 i65 i68 i69 i72 i78 i80 i81 i82 i87 i92 i96 i100 i103 i104)), ((z 70), .inl (T 1, 66, .inr (.inl g70)))] := hD
  refine W.widen (k := 0) (n := 0) (Nat.le_refl _) (Nat.le_refl _) ?_
  refine lv_if_ne (tgt := 18) hx hb dX11_odds_11 (by decide) (fun c22900026 => ?_) (fun c22900026 => ?_)
  · skip
    have kc22900026 : x22900023.toInt ≠ 0 := ne_ti rfl (by decide) c22900026
    have nzx22900023 : ¬ x22900023 = 0 := c22900026
    refine lv_lconst (v := 0) hx hb dX11_odds_18 (by decide) ?_
    refine lv_lstore_n (lv' := [(2, .long 0), (0, .ref a), (1, .int p1)]) hx hb dX11_odds_19 rfl hl (by decide) rfl (fun ls hl => ?_)
    refine lv_iload_n hx hb dX11_odds_20 rfl (lv_at hl 2 rfl) ?_
    refine lv_istore (lv' := [(4, .int p1), (2, .long 0), (0, .ref a), (1, .int p1)]) hx hb dX11_odds_21 hl (by decide) rfl (fun ls hl => ?_)
    have L22900037 : ∀ (n : Nat) (x22900031 : Int32) (x22900032 : Int64) (H : Heap) (locs : List Loc) (ls : Array Slot), (0 ≤ x22900031.toInt ∧ x22900031.toInt ≤ 65) → (66 - x22900031.toInt).toNat < n → va_P D vwCl [(a, .inr (11, OX z i1 i2 i3 i4 i5 i6 i7 i8 i30 i43 i45 i46 i47 i48 i49 i50 i51 i58 i59 i65 i68 i69 i72 i78 i80 i81 i82 i87 i92 i96 i100 i103 i104)), ((z 70), .inl (T 1, 66, .inr (.inl g70)))] H → va_D A [(a, .inr (11, OX z i1 i2 i3 i4 i5 i6 i7 i8 i30 i43 i45 i46 i47 i48 i49 i50 i51 i58 i59 i65 i68 i69 i72 i78 i80 i81 i82 i87 i92 i96 i100 i103 i104)), ((z 70), .inl (T 1, 66, .inr (.inl g70)))] → va_S A s.heap H locs → lv_has ls 5 [(4, .int x22900031), (2, .long x22900032), (0, .ref a), (1, .int p1)] → W p l e { frames := 1, cells := 0, slots := 0, locals := 25 } s m args below meth c H locs 0 0 (MQ below ((Ql (S := Unit) (fun (r : Int64) (_ : Unit) => True) (fun (_ : Unit) => [(a, .inr (11, OX z i1 i2 i3 i4 i5 i6 i7 i8 i30 i43 i45 i46 i47 i48 i49 i50 i51 i58 i59 i65 i68 i69 i72 i78 i80 i81 i82 i87 i92 i96 i100 i103 i104)), ((z 70), .inl (T 1, 66, .inr (.inl g70)))]) D) A) args s 0 0 A) (F0 m 23 ls []) := by
      intro n
      induction n with
      | zero =>
        intro x22900031 x22900032 H locs ls hx22900031 hms hP hD hS hl
        exact absurd hms (Nat.not_lt_zero _)
      | succ n ih22900038 =>
        intro x22900031 x22900032 H locs ls hx22900031 hms hP hD hS hl
        refine lv_iload hx hb dX11_odds_23 (lv_at hl 0 rfl) ?_
        refine lv_aload_n hx hb dX11_odds_25 rfl (lv_at hl 2 rfl) ?_
        refine r_get (v := .int i69) C0 hE ffX11_69 mw_859 hP 0 rfl ox_69 dX11_odds_26 ?_
        refine lv_icmp_gt (tgt := 48) hx hb dX11_odds_29 (by decide) (fun c22900039 => ?_) (fun c22900039 => ?_)
        · skip
          have kc22900039 : i69.toInt < x22900031.toInt := lt_ti rfl rfl c22900039
          refine lv_lload_n hx hb dX11_odds_48 rfl (lv_at hl 1 rfl) ?_
          exact r_lret () C0 hr hlocks hS (Nat.le_refl _) (Nat.le_refl _) dX11_odds_49 trivial (hP.sub (ws' := [(a, .inr (11, OX z i1 i2 i3 i4 i5 i6 i7 i8 i30 i43 i45 i46 i47 i48 i49 i50 i51 i58 i59 i65 i68 i69 i72 i78 i80 i81 i82 i87 i92 i96 i100 i103 i104)), ((z 70), .inl (T 1, 66, .inr (.inl g70)))]) [0, 1] rfl) (hD.sub (ws' := [(a, .inr (11, OX z i1 i2 i3 i4 i5 i6 i7 i8 i30 i43 i45 i46 i47 i48 i49 i50 i51 i58 i59 i65 i68 i69 i72 i78 i80 i81 i82 i87 i92 i96 i100 i103 i104)), ((z 70), .inl (T 1, 66, .inr (.inl g70)))]) [0, 1] (by decide +kernel) rfl)
        · skip
          have kc22900039 : x22900031.toInt ≤ i69.toInt := nlt_ti rfl rfl c22900039
          refine lv_lload_n hx hb dX11_odds_32 rfl (lv_at hl 1 rfl) ?_
          refine lv_aload_n hx hb dX11_odds_33 rfl (lv_at hl 2 rfl) ?_
          refine r_get (v := .ref (z 70)) C0 hE ffX11_70 mw_860 hP 0 rfl ox_70 dX11_odds_34 ?_
          refine lv_iload hx hb dX11_odds_37 (lv_at hl 0 rfl) ?_
          refine va_lald hx hb hK hP 1 1 rfl rfl (in_ti rfl (by omega) (by omega)) dX11_odds_39 ?_
          refine lv_topl (fun x22900043 ex22900043 => ?_)
          refine lv_ladd hx hb dX11_odds_40 ?_
          refine lv_topl (fun x22900044 ex22900044 => ?_)
          refine lv_lstore_n (lv' := [(2, .long x22900044), (4, .int x22900031), (0, .ref a), (1, .int p1)]) hx hb dX11_odds_41 rfl hl (by decide) rfl (fun ls hl => ?_)
          obtain ⟨x22900045, ex22900045⟩ : ∃ y : Int32, y = x22900031 + 1 := ⟨_, rfl⟩
          have hx22900045 : x22900045.toInt = x22900031.toInt + 1 := ti_add ex22900045 rfl (by decide) (by omega) (by omega)
          refine lv_iinc (v := x22900045) (lv' := [(4, .int x22900045), (2, .long x22900044), (0, .ref a), (1, .int p1)]) hx hb dX11_odds_42 hl (k := 1) rfl (by rw [ex22900045]; rfl) (by decide) rfl (fun ls hl => ?_)
          refine lv_goto (tgt := 23) hx hb dX11_odds_45 (by decide) ?_
          exact ih22900038 x22900045 x22900044 _ _ ls ⟨by omega, by omega⟩ (by omega) (hP.sub (ws' := [(a, .inr (11, OX z i1 i2 i3 i4 i5 i6 i7 i8 i30 i43 i45 i46 i47 i48 i49 i50 i51 i58 i59 i65 i68 i69 i72 i78 i80 i81 i82 i87 i92 i96 i100 i103 i104)), ((z 70), .inl (T 1, 66, .inr (.inl g70)))]) [0, 1] rfl) (hD.sub (ws' := [(a, .inr (11, OX z i1 i2 i3 i4 i5 i6 i7 i8 i30 i43 i45 i46 i47 i48 i49 i50 i51 i58 i59 i65 i68 i69 i72 i78 i80 i81 i82 i87 i92 i96 i100 i103 i104)), ((z 70), .inl (T 1, 66, .inr (.inl g70)))]) [0, 1] (by decide +kernel) rfl) hS (lv_sub hl [0, 1, 2, 3] rfl)
    exact L22900037 _ p1 0 _ _ ls ⟨by omega, by omega⟩ (Nat.lt_succ_self _) (hP.sub (ws' := [(a, .inr (11, OX z i1 i2 i3 i4 i5 i6 i7 i8 i30 i43 i45 i46 i47 i48 i49 i50 i51 i58 i59 i65 i68 i69 i72 i78 i80 i81 i82 i87 i92 i96 i100 i103 i104)), ((z 70), .inl (T 1, 66, .inr (.inl g70)))]) [0, 1] rfl) (hD.sub (ws' := [(a, .inr (11, OX z i1 i2 i3 i4 i5 i6 i7 i8 i30 i43 i45 i46 i47 i48 i49 i50 i51 i58 i59 i65 i68 i69 i72 i78 i80 i81 i82 i87 i92 i96 i100 i103 i104)), ((z 70), .inl (T 1, 66, .inr (.inl g70)))]) [0, 1] (by decide +kernel) rfl) hS (lv_sub hl [0, 1, 2, 3] rfl)
  · skip
    have kc22900026 : x22900023.toInt = 0 := eq_ti rfl (by decide) c22900026
    refine lv_ldc2 hx hb hown (hT _ mw_1058) dX11_odds_14 ?_
    exact r_lret () C0 hr hlocks hS (Nat.le_refl _) (Nat.le_refl _) dX11_odds_17 trivial (hP.sub (ws' := [(a, .inr (11, OX z i1 i2 i3 i4 i5 i6 i7 i8 i30 i43 i45 i46 i47 i48 i49 i50 i51 i58 i59 i65 i68 i69 i72 i78 i80 i81 i82 i87 i92 i96 i100 i103 i104)), ((z 70), .inl (T 1, 66, .inr (.inl g70)))]) [0, 1] rfl) (hD.sub (ws' := [(a, .inr (11, OX z i1 i2 i3 i4 i5 i6 i7 i8 i30 i43 i45 i46 i47 i48 i49 i50 i51 i58 i59 i65 i68 i69 i72 i78 i80 i81 i82 i87 i92 i96 i100 i103 i104)), ((z 70), .inl (T 1, 66, .inr (.inl g70)))]) [0, 1] (by decide +kernel) rfl)
set_option maxHeartbeats 4000000 in
set_option maxRecDepth 100000 in
theorem h_X11_sure_23000034 (l : Launch) (D : va_G) (T : Nat → ClassId) (sq sv sz : Nat) (a : Nat) (z : Nat → Nat) (i1 i2 i3 i4 i5 i6 i7 i8 i30 i43 i45 i46 i47 i48 i49 i50 i51 i58 i59 i65 i68 i69 i72 i78 i80 i81 i82 i87 i92 i96 i100 i103 i104 : Int32) (p1 : Int32) (g70 : Nat → Int64) (hi69 : -1 ≤ i69.toInt ∧ i69.toInt ≤ 64) : Met l yX11_sure (.code yX11_sure cX11_sure 3 (some .int) :: TB) { frames := 2, cells := 0, slots := 0, locals := 49 } (PC2 D T sq sv [.ref a, .int p1] [(a, .inr (11, OX z i1 i2 i3 i4 i5 i6 i7 i8 i30 i43 i45 i46 i47 i48 i49 i50 i51 i58 i59 i65 i68 i69 i72 i78 i80 i81 i82 i87 i92 i96 i100 i103 i104)), ((z 70), .inl (T 1, 66, .inr (.inl g70)))] sz) (Qi (S := Unit) (fun (r : Int32) (_ : Unit) => (-1 ≤ r.toInt ∧ r.toInt ≤ 64)) (fun (_ : Unit) => [(a, .inr (11, OX z i1 i2 i3 i4 i5 i6 i7 i8 i30 i43 i45 i46 i47 i48 i49 i50 i51 i58 i59 i65 i68 i69 i72 i78 i80 i81 i82 i87 i92 i96 i100 i103 i104)), ((z 70), .inl (T 1, 66, .inr (.inl g70)))]) D (va_A [(a, .inr (11, OX z i1 i2 i3 i4 i5 i6 i7 i8 i30 i43 i45 i46 i47 i48 i49 i50 i51 i58 i59 i65 i68 i69 i72 i78 i80 i81 i82 i87 i92 i96 i100 i103 i104)), ((z 70), .inl (T 1, 66, .inr (.inl g70)))] sz)) 0 0 (va_A [(a, .inr (11, OX z i1 i2 i3 i4 i5 i6 i7 i8 i30 i43 i45 i46 i47 i48 i49 i50 i51 i58 i59 i65 i68 i69 i72 i78 i80 i81 i82 i87 i92 i96 i100 i103 i104)), ((z 70), .inl (T 1, 66, .inr (.inl g70)))] sz) := by
  refine ct_begin2 (Qc := Qi (S := Unit) (fun (r : Int32) (_ : Unit) => (-1 ≤ r.toInt ∧ r.toInt ≤ 64)) (fun (_ : Unit) => [(a, .inr (11, OX z i1 i2 i3 i4 i5 i6 i7 i8 i30 i43 i45 i46 i47 i48 i49 i50 i51 i58 i59 i65 i68 i69 i72 i78 i80 i81 i82 i87 i92 i96 i100 i103 i104)), ((z 70), .inl (T 1, 66, .inr (.inl g70)))]) D) (by decide +kernel) (Nat.le_of_ble_eq_true rfl) ?_
  intro p e s m below meth c A ls C0 hr hlocks hnm hE hStr hA hP hD hl
  generalize ([.ref a, .int p1] : List Value).toArray = args at C0 ⊢
  have hx := C0.1
  have hb := C0.2.1
  have hml := C0.2.2.1
  have hown := C0.2.2.2.1
  have hT := C0.2.2.2.2
  have hK := hE.1
  generalize hH : s.heap = H at hP ⊢
  have hS : va_S A s.heap H [] := by rw [← hH]; exact va_S.rf
  have hP : va_P D vwCl [(a, .inr (11, OX z i1 i2 i3 i4 i5 i6 i7 i8 i30 i43 i45 i46 i47 i48 i49 i50 i51 i58 i59 i65 i68 i69 i72 i78 i80 i81 i82 i87 i92 i96 i100 i103 i104)), ((z 70), .inl (T 1, 66, .inr (.inl g70)))] H := hP
  have hD : va_D A [(a, .inr (11, OX z i1 i2 i3 i4 i5 i6 i7 i8 i30 i43 i45 i46 i47 i48 i49 i50 i51 i58 i59 i65 i68 i69 i72 i78 i80 i81 i82 i87 i92 i96 i100 i103 i104)), ((z 70), .inl (T 1, 66, .inr (.inl g70)))] := hD
  have hl : lv_has ls 3 [(0, .ref a), (1, .int p1)] := hl
  refine lv_aload_n hx hb dX11_sure_0 rfl (lv_at hl 0 rfl) ?_
  refine r_get (v := .int i69) C0 hE ffX11_69 mw_859 hP 0 rfl ox_69 dX11_sure_1 ?_
  refine lv_iconst (v := (-1)) hx hb dX11_sure_4 (by decide) ?_
  refine lv_icmp_eq (tgt := 20) hx hb dX11_sure_5 (by decide) (fun c23000035 => ?_) (fun c23000035 => ?_)
  · skip
    have kc23000035 : i69.toInt = (-1) := eq_ti rfl (by decide) c23000035
    refine lv_iconst (v := (-1)) hx hb dX11_sure_20 (by decide) ?_
    exact r_iret () C0 hr hlocks hS (Nat.le_refl _) (Nat.le_refl _) dX11_sure_21 ⟨by decide, by decide⟩ (hP.sub (ws' := [(a, .inr (11, OX z i1 i2 i3 i4 i5 i6 i7 i8 i30 i43 i45 i46 i47 i48 i49 i50 i51 i58 i59 i65 i68 i69 i72 i78 i80 i81 i82 i87 i92 i96 i100 i103 i104)), ((z 70), .inl (T 1, 66, .inr (.inl g70)))]) [0, 1] rfl) (hD.sub (ws' := [(a, .inr (11, OX z i1 i2 i3 i4 i5 i6 i7 i8 i30 i43 i45 i46 i47 i48 i49 i50 i51 i58 i59 i65 i68 i69 i72 i78 i80 i81 i82 i87 i92 i96 i100 i103 i104)), ((z 70), .inl (T 1, 66, .inr (.inl g70)))]) [0, 1] (by decide +kernel) rfl)
  · skip
    have kc23000035 : i69.toInt ≠ (-1) := ne_ti rfl (by decide) c23000035
    refine lv_iload_n hx hb dX11_sure_8 rfl (lv_at hl 1 rfl) ?_
    refine lv_i2l hx hb dX11_sure_9 rfl ?_
    refine lv_topl (fun x23000036 ex23000036 => ?_)
    have hx23000036 : x23000036.toInt = p1.toInt := by rw [ex23000036]; exact Int32.toInt_toInt64 _
    refine lv_lconst (v := 1) hx hb dX11_sure_10 (by decide) ?_
    refine lv_ldc2 hx hb hown (hT _ mw_1085) dX11_sure_11 ?_
    refine r_calli (wr := [(a, .inr (11, OX z i1 i2 i3 i4 i5 i6 i7 i8 i30 i43 i45 i46 i47 i48 i49 i50 i51 i58 i59 i65 i68 i69 i72 i78 i80 i81 i82 i87 i92 i96 i100 i103 i104)), ((z 70), .inl (T 1, 66, .inr (.inl g70)))]) (r_runS2 (As := [.long x23000036, .long 1, .long 1000]) (rest := []) (wc := []) C0 hE hStr hS (va_free (wc := []) hD hS hA [] rfl) (h_X11_isIn_20000007 l D T sq sv H.size x23000036 1 1000) mw_910 mw_911 mw_14 mw_912 dn_1704 rfl rfl ⟨Nat.le_of_ble_eq_true rfl, Nat.le_of_ble_eq_true rfl⟩ (hP.sub (ws' := []) [] rfl) (hD.sub (ws' := []) [] (by decide +kernel) rfl) hl.1 rfl (Nat.le_of_ble_eq_true rfl) dX11_sure_14 ⟨Nat.le_of_ble_eq_true rfl, Nat.le_of_ble_eq_true rfl⟩) hP hD hS hA [] [0, 1] rfl rfl (by decide +kernel) (by decide +kernel) (fun x23000037 u H locs hq hP hD hS => ?_)
    obtain ⟨hp23000038, hx23000037⟩ := hq
    have hp23000038 : (x23000037.toInt = 0 ∧ (x23000036.toInt < 1 ∨ 1000 < x23000036.toInt)) ∨ (x23000037.toInt = 1 ∧ 1 ≤ x23000036.toInt ∧ x23000036.toInt ≤ 1000) := hp23000038
    have hx23000037 : 0 ≤ x23000037.toInt ∧ x23000037.toInt ≤ 1 := hx23000037
    have hl23000039 : (1 : Int64).toInt = 1 := by decide
    have hl23000040 : (1000 : Int64).toInt = 1000 := by decide
    have hP : va_P D vwCl [(a, .inr (11, OX z i1 i2 i3 i4 i5 i6 i7 i8 i30 i43 i45 i46 i47 i48 i49 i50 i51 i58 i59 i65 i68 i69 i72 i78 i80 i81 i82 i87 i92 i96 i100 i103 i104)), ((z 70), .inl (T 1, 66, .inr (.inl g70)))] H := hP
    have hD : va_D A [(a, .inr (11, OX z i1 i2 i3 i4 i5 i6 i7 i8 i30 i43 i45 i46 i47 i48 i49 i50 i51 i58 i59 i65 i68 i69 i72 i78 i80 i81 i82 i87 i92 i96 i100 i103 i104)), ((z 70), .inl (T 1, 66, .inr (.inl g70)))] := hD
    refine W.widen (k := 0) (n := 0) (Nat.le_refl _) (Nat.le_refl _) ?_
    refine lv_if_ne (tgt := 22) hx hb dX11_sure_17 (by decide) (fun c23000041 => ?_) (fun c23000041 => ?_)
    · skip
      have kc23000041 : x23000037.toInt ≠ 0 := ne_ti rfl (by decide) c23000041
      have nzx23000037 : ¬ x23000037 = 0 := c23000041
      refine lv_aload_n hx hb dX11_sure_22 rfl (lv_at hl 0 rfl) ?_
      refine r_get (v := .int i69) C0 hE ffX11_69 mw_859 hP 0 rfl ox_69 dX11_sure_23 ?_
      refine lv_istore_n (lv' := [(2, .int i69), (0, .ref a), (1, .int p1)]) hx hb dX11_sure_26 rfl hl (by decide) rfl (fun ls hl => ?_)
      have L23000061 : ∀ (n : Nat) (x23000051 : Int32) (H : Heap) (locs : List Loc) (ls : Array Slot), (0 ≤ x23000051.toInt ∧ x23000051.toInt ≤ 64) → (x23000051.toInt - (-1)).toNat < n → va_P D vwCl [(a, .inr (11, OX z i1 i2 i3 i4 i5 i6 i7 i8 i30 i43 i45 i46 i47 i48 i49 i50 i51 i58 i59 i65 i68 i69 i72 i78 i80 i81 i82 i87 i92 i96 i100 i103 i104)), ((z 70), .inl (T 1, 66, .inr (.inl g70)))] H → va_D A [(a, .inr (11, OX z i1 i2 i3 i4 i5 i6 i7 i8 i30 i43 i45 i46 i47 i48 i49 i50 i51 i58 i59 i65 i68 i69 i72 i78 i80 i81 i82 i87 i92 i96 i100 i103 i104)), ((z 70), .inl (T 1, 66, .inr (.inl g70)))] → va_S A s.heap H locs → lv_has ls 3 [(2, .int x23000051), (0, .ref a), (1, .int p1)] → W p l e { frames := 2, cells := 0, slots := 0, locals := 49 } s m args below meth c H locs 0 0 (MQ below ((Qi (S := Unit) (fun (r : Int32) (_ : Unit) => (-1 ≤ r.toInt ∧ r.toInt ≤ 64)) (fun (_ : Unit) => [(a, .inr (11, OX z i1 i2 i3 i4 i5 i6 i7 i8 i30 i43 i45 i46 i47 i48 i49 i50 i51 i58 i59 i65 i68 i69 i72 i78 i80 i81 i82 i87 i92 i96 i100 i103 i104)), ((z 70), .inl (T 1, 66, .inr (.inl g70)))]) D) A) args s 0 0 A) (F0 m 27 ls []) := by
        intro n
        induction n with
        | zero =>
          intro x23000051 H locs ls hx23000051 hms hP hD hS hl
          exact absurd hms (Nat.not_lt_zero _)
        | succ n ih23000062 =>
          intro x23000051 H locs ls hx23000051 hms hP hD hS hl
          refine lv_iload_n hx hb dX11_sure_27 rfl (lv_at hl 0 rfl) ?_
          refine lv_if_le (tgt := 58) hx hb dX11_sure_28 (by decide) (fun c23000063 => ?_) (fun c23000063 => ?_)
          · skip
            have kc23000063 : x23000051.toInt ≤ 0 := le_ti rfl (by decide) c23000063
            refine lv_iconst (v := 0) hx hb dX11_sure_58 (by decide) ?_
            exact r_iret () C0 hr hlocks hS (Nat.le_refl _) (Nat.le_refl _) dX11_sure_59 ⟨by decide, by decide⟩ (hP.sub (ws' := [(a, .inr (11, OX z i1 i2 i3 i4 i5 i6 i7 i8 i30 i43 i45 i46 i47 i48 i49 i50 i51 i58 i59 i65 i68 i69 i72 i78 i80 i81 i82 i87 i92 i96 i100 i103 i104)), ((z 70), .inl (T 1, 66, .inr (.inl g70)))]) [0, 1] rfl) (hD.sub (ws' := [(a, .inr (11, OX z i1 i2 i3 i4 i5 i6 i7 i8 i30 i43 i45 i46 i47 i48 i49 i50 i51 i58 i59 i65 i68 i69 i72 i78 i80 i81 i82 i87 i92 i96 i100 i103 i104)), ((z 70), .inl (T 1, 66, .inr (.inl g70)))]) [0, 1] (by decide +kernel) rfl)
          · skip
            have kc23000063 : 0 < x23000051.toInt := nle_ti rfl (by decide) c23000063
            refine lv_aload_n hx hb dX11_sure_31 rfl (lv_at hl 1 rfl) ?_
            refine lv_iload_n hx hb dX11_sure_32 rfl (lv_at hl 0 rfl) ?_
            refine r_calll (wr := []) (r_runV2 (As := [.int x23000051]) (rest := []) (wc := [(a, .inr (11, OX z i1 i2 i3 i4 i5 i6 i7 i8 i30 i43 i45 i46 i47 i48 i49 i50 i51 i58 i59 i65 i68 i69 i72 i78 i80 i81 i82 i87 i92 i96 i100 i103 i104)), ((z 70), .inl (T 1, 66, .inr (.inl g70)))]) (ci := 11) C0 hE hStr hS (va_free (wc := [(a, .inr (11, OX z i1 i2 i3 i4 i5 i6 i7 i8 i30 i43 i45 i46 i47 i48 i49 i50 i51 i58 i59 i65 i68 i69 i72 i78 i80 i81 i82 i87 i92 i96 i100 i103 i104)), ((z 70), .inl (T 1, 66, .inr (.inl g70)))]) hD hS hA [0, 1] rfl) (h_X11_odds_22900020 l D T sq sv H.size a z i1 i2 i3 i4 i5 i6 i7 i8 i30 i43 i45 i46 i47 i48 i49 i50 i51 i58 i59 i65 i68 i69 i72 i78 i80 i81 i82 i87 i92 i96 i100 i103 i104 x23000051 g70 ⟨by omega, by omega⟩) mw_1159 mw_1152 mw_1153 mw_14 mw_1154 dn_1771 rfl rfl ⟨Nat.le_of_ble_eq_true rfl, Nat.le_of_ble_eq_true rfl⟩ (hP.sub (ws' := [(a, .inr (11, OX z i1 i2 i3 i4 i5 i6 i7 i8 i30 i43 i45 i46 i47 i48 i49 i50 i51 i58 i59 i65 i68 i69 i72 i78 i80 i81 i82 i87 i92 i96 i100 i103 i104)), ((z 70), .inl (T 1, 66, .inr (.inl g70)))]) [0, 1] rfl) (hD.sub (ws' := [(a, .inr (11, OX z i1 i2 i3 i4 i5 i6 i7 i8 i30 i43 i45 i46 i47 i48 i49 i50 i51 i58 i59 i65 i68 i69 i72 i78 i80 i81 i82 i87 i92 i96 i100 i103 i104)), ((z 70), .inl (T 1, 66, .inr (.inl g70)))]) [0, 1] (by decide +kernel) rfl) rfl rfl rfl hl.1 rfl (Nat.le_of_ble_eq_true rfl) dX11_sure_33 ⟨Nat.le_of_ble_eq_true rfl, Nat.le_of_ble_eq_true rfl⟩) hP hD hS hA [0, 1] [] rfl rfl (by decide +kernel) (by decide +kernel) (fun x23000064 u H locs hq hP hD hS => ?_)
            have hP : va_P D vwCl [(a, .inr (11, OX z i1 i2 i3 i4 i5 i6 i7 i8 i30 i43 i45 i46 i47 i48 i49 i50 i51 i58 i59 i65 i68 i69 i72 i78 i80 i81 i82 i87 i92 i96 i100 i103 i104)), ((z 70), .inl (T 1, 66, .inr (.inl g70)))] H := hP
            have hD : va_D A [(a, .inr (11, OX z i1 i2 i3 i4 i5 i6 i7 i8 i30 i43 i45 i46 i47 i48 i49 i50 i51 i58 i59 i65 i68 i69 i72 i78 i80 i81 i82 i87 i92 i96 i100 i103 i104)), ((z 70), .inl (T 1, 66, .inr (.inl g70)))] := hD
            refine W.widen (k := 0) (n := 0) (Nat.le_refl _) (Nat.le_refl _) ?_
            refine lv_ldc2 hx hb hown (hT _ mw_1150) dX11_sure_36 ?_
            refine lv_iload_n hx hb dX11_sure_39 rfl (lv_at hl 2 rfl) ?_
            refine lv_i2l hx hb dX11_sure_40 rfl ?_
            refine lv_topl (fun x23000065 ex23000065 => ?_)
            have hx23000065 : x23000065.toInt = p1.toInt := by rw [ex23000065]; exact Int32.toInt_toInt64 _
            refine lv_lmul hx hb dX11_sure_41 ?_
            refine lv_topl (fun x23000066 ex23000066 => ?_)
            refine lv_ldc2 hx hb hown (hT _ mw_1085) dX11_sure_42 ?_
            refine lv_ldiv hx hb dX11_sure_45 (by decide +kernel) ?_
            refine lv_topl (fun x23000067 ex23000067 => ?_)
            refine W.lcmp hx hb dX11_sure_46 ?_
            refine lv_topi (fun x23000068 ex23000068 => ?_)
            refine lv_if_lt (tgt := 52) hx hb dX11_sure_47 (by decide) (fun c23000069 => ?_) (fun c23000069 => ?_)
            · skip
              have kc23000069 : x23000068.toInt < 0 := lt_ti rfl (by decide) c23000069
              have qc23000069 : x23000064.toInt < x23000067.toInt := lc_lt ex23000068 rfl rfl kc23000069
              have rg23000070 := i32_rng x23000068
              obtain ⟨x23000071, ex23000071⟩ : ∃ y : Int32, y = x23000051 + (-1) := ⟨_, rfl⟩
              have hx23000071 : x23000071.toInt = x23000051.toInt + (-1) := ti_add ex23000071 rfl (by decide) (by omega) (by omega)
              refine lv_iinc (v := x23000071) (lv' := [(2, .int x23000071), (0, .ref a), (1, .int p1)]) hx hb dX11_sure_52 hl (k := 0) rfl (by rw [ex23000071]; rfl) (by decide) rfl (fun ls hl => ?_)
              refine lv_goto (tgt := 27) hx hb dX11_sure_55 (by decide) ?_
              exact ih23000062 x23000071 _ _ ls ⟨by omega, by omega⟩ (by omega) (hP.sub (ws' := [(a, .inr (11, OX z i1 i2 i3 i4 i5 i6 i7 i8 i30 i43 i45 i46 i47 i48 i49 i50 i51 i58 i59 i65 i68 i69 i72 i78 i80 i81 i82 i87 i92 i96 i100 i103 i104)), ((z 70), .inl (T 1, 66, .inr (.inl g70)))]) [0, 1] rfl) (hD.sub (ws' := [(a, .inr (11, OX z i1 i2 i3 i4 i5 i6 i7 i8 i30 i43 i45 i46 i47 i48 i49 i50 i51 i58 i59 i65 i68 i69 i72 i78 i80 i81 i82 i87 i92 i96 i100 i103 i104)), ((z 70), .inl (T 1, 66, .inr (.inl g70)))]) [0, 1] (by decide +kernel) rfl) hS (lv_sub hl [0, 1, 2] rfl)
            · skip
              have kc23000069 : 0 ≤ x23000068.toInt := nlt_ti rfl (by decide) c23000069
              have qc23000069 : x23000067.toInt ≤ x23000064.toInt := lc_ge ex23000068 rfl rfl kc23000069
              refine lv_iload_n hx hb dX11_sure_50 rfl (lv_at hl 0 rfl) ?_
              exact r_iret () C0 hr hlocks hS (Nat.le_refl _) (Nat.le_refl _) dX11_sure_51 ⟨by omega, by omega⟩ (hP.sub (ws' := [(a, .inr (11, OX z i1 i2 i3 i4 i5 i6 i7 i8 i30 i43 i45 i46 i47 i48 i49 i50 i51 i58 i59 i65 i68 i69 i72 i78 i80 i81 i82 i87 i92 i96 i100 i103 i104)), ((z 70), .inl (T 1, 66, .inr (.inl g70)))]) [0, 1] rfl) (hD.sub (ws' := [(a, .inr (11, OX z i1 i2 i3 i4 i5 i6 i7 i8 i30 i43 i45 i46 i47 i48 i49 i50 i51 i58 i59 i65 i68 i69 i72 i78 i80 i81 i82 i87 i92 i96 i100 i103 i104)), ((z 70), .inl (T 1, 66, .inr (.inl g70)))]) [0, 1] (by decide +kernel) rfl)
      exact L23000061 _ i69 _ _ ls ⟨by omega, by omega⟩ (Nat.lt_succ_self _) (hP.sub (ws' := [(a, .inr (11, OX z i1 i2 i3 i4 i5 i6 i7 i8 i30 i43 i45 i46 i47 i48 i49 i50 i51 i58 i59 i65 i68 i69 i72 i78 i80 i81 i82 i87 i92 i96 i100 i103 i104)), ((z 70), .inl (T 1, 66, .inr (.inl g70)))]) [0, 1] rfl) (hD.sub (ws' := [(a, .inr (11, OX z i1 i2 i3 i4 i5 i6 i7 i8 i30 i43 i45 i46 i47 i48 i49 i50 i51 i58 i59 i65 i68 i69 i72 i78 i80 i81 i82 i87 i92 i96 i100 i103 i104)), ((z 70), .inl (T 1, 66, .inr (.inl g70)))]) [0, 1] (by decide +kernel) rfl) hS (lv_sub hl [0, 1, 2] rfl)
    · skip
      have kc23000041 : x23000037.toInt = 0 := eq_ti rfl (by decide) c23000041
      refine lv_iconst (v := (-1)) hx hb dX11_sure_20 (by decide) ?_
      exact r_iret () C0 hr hlocks hS (Nat.le_refl _) (Nat.le_refl _) dX11_sure_21 ⟨by decide, by decide⟩ (hP.sub (ws' := [(a, .inr (11, OX z i1 i2 i3 i4 i5 i6 i7 i8 i30 i43 i45 i46 i47 i48 i49 i50 i51 i58 i59 i65 i68 i69 i72 i78 i80 i81 i82 i87 i92 i96 i100 i103 i104)), ((z 70), .inl (T 1, 66, .inr (.inl g70)))]) [0, 1] rfl) (hD.sub (ws' := [(a, .inr (11, OX z i1 i2 i3 i4 i5 i6 i7 i8 i30 i43 i45 i46 i47 i48 i49 i50 i51 i58 i59 i65 i68 i69 i72 i78 i80 i81 i82 i87 i92 i96 i100 i103 i104)), ((z 70), .inl (T 1, 66, .inr (.inl g70)))]) [0, 1] (by decide +kernel) rfl)
set_option maxHeartbeats 4000000 in
set_option maxRecDepth 100000 in
theorem h_X11_caught_23100011 (l : Launch) (D : va_G) (T : Nat → ClassId) (sq sv sz : Nat) (a : Nat) (z : Nat → Nat) (i1 i2 i3 i4 i5 i6 i7 i8 i30 i43 i45 i46 i47 i48 i49 i50 i51 i58 i59 i65 i68 i69 i72 i78 i80 i81 i82 i87 i92 i96 i100 i103 i104 : Int32) (p1 : Int32) (g79 : Nat → Int32) (hi78 : 0 ≤ i78.toInt ∧ i78.toInt ≤ 1) (hi81 : 0 ≤ i81.toInt ∧ i81.toInt ≤ 8) (hi82 : 0 ≤ i82.toInt ∧ i82.toInt ≤ 8) : Met l yX11_caught (.code yX11_caught cX11_caught 2 (some .int) :: TB) { frames := 1, cells := 0, slots := 0, locals := 25 } (PC2 D T sq sv [.ref a, .int p1] [(a, .inr (11, OX z i1 i2 i3 i4 i5 i6 i7 i8 i30 i43 i45 i46 i47 i48 i49 i50 i51 i58 i59 i65 i68 i69 i72 i78 i80 i81 i82 i87 i92 i96 i100 i103 i104)), ((z 79), .inl (T 0, 64, .inl g79))] sz) (Qi (S := Unit) (fun (r : Int32) (_ : Unit) => True) (fun (_ : Unit) => [(a, .inr (11, OX z i1 i2 i3 i4 i5 i6 i7 i8 i30 i43 i45 i46 i47 i48 i49 i50 i51 i58 i59 i65 i68 i69 i72 i78 i80 i81 i82 i87 i92 i96 i100 i103 i104)), ((z 79), .inl (T 0, 64, .inl g79))]) D (va_A [(a, .inr (11, OX z i1 i2 i3 i4 i5 i6 i7 i8 i30 i43 i45 i46 i47 i48 i49 i50 i51 i58 i59 i65 i68 i69 i72 i78 i80 i81 i82 i87 i92 i96 i100 i103 i104)), ((z 79), .inl (T 0, 64, .inl g79))] sz)) 0 0 (va_A [(a, .inr (11, OX z i1 i2 i3 i4 i5 i6 i7 i8 i30 i43 i45 i46 i47 i48 i49 i50 i51 i58 i59 i65 i68 i69 i72 i78 i80 i81 i82 i87 i92 i96 i100 i103 i104)), ((z 79), .inl (T 0, 64, .inl g79))] sz) := by
  refine ct_begin2 (Qc := Qi (S := Unit) (fun (r : Int32) (_ : Unit) => True) (fun (_ : Unit) => [(a, .inr (11, OX z i1 i2 i3 i4 i5 i6 i7 i8 i30 i43 i45 i46 i47 i48 i49 i50 i51 i58 i59 i65 i68 i69 i72 i78 i80 i81 i82 i87 i92 i96 i100 i103 i104)), ((z 79), .inl (T 0, 64, .inl g79))]) D) (by decide +kernel) (Nat.le_of_ble_eq_true rfl) ?_
  intro p e s m below meth c A ls C0 hr hlocks hnm hE hStr hA hP hD hl
  generalize ([.ref a, .int p1] : List Value).toArray = args at C0 ⊢
  have hx := C0.1
  have hb := C0.2.1
  have hml := C0.2.2.1
  have hown := C0.2.2.2.1
  have hT := C0.2.2.2.2
  have hK := hE.1
  generalize hH : s.heap = H at hP ⊢
  have hS : va_S A s.heap H [] := by rw [← hH]; exact va_S.rf
  have hP : va_P D vwCl [(a, .inr (11, OX z i1 i2 i3 i4 i5 i6 i7 i8 i30 i43 i45 i46 i47 i48 i49 i50 i51 i58 i59 i65 i68 i69 i72 i78 i80 i81 i82 i87 i92 i96 i100 i103 i104)), ((z 79), .inl (T 0, 64, .inl g79))] H := hP
  have hD : va_D A [(a, .inr (11, OX z i1 i2 i3 i4 i5 i6 i7 i8 i30 i43 i45 i46 i47 i48 i49 i50 i51 i58 i59 i65 i68 i69 i72 i78 i80 i81 i82 i87 i92 i96 i100 i103 i104)), ((z 79), .inl (T 0, 64, .inl g79))] := hD
  have hl : lv_has ls 2 [(0, .ref a), (1, .int p1)] := hl
  refine lv_aload_n hx hb dX11_caught_0 rfl (lv_at hl 0 rfl) ?_
  refine r_get (v := .int i78) C0 hE ffX11_78 mw_868 hP 0 rfl ox_78 dX11_caught_1 ?_
  have J23100022 : ∀ (x23100021 : Int32) (H : Heap) (locs : List Loc) (ls : Array Slot), va_P D vwCl [(a, .inr (11, OX z i1 i2 i3 i4 i5 i6 i7 i8 i30 i43 i45 i46 i47 i48 i49 i50 i51 i58 i59 i65 i68 i69 i72 i78 i80 i81 i82 i87 i92 i96 i100 i103 i104)), ((z 79), .inl (T 0, 64, .inl g79))] H → va_D A [(a, .inr (11, OX z i1 i2 i3 i4 i5 i6 i7 i8 i30 i43 i45 i46 i47 i48 i49 i50 i51 i58 i59 i65 i68 i69 i72 i78 i80 i81 i82 i87 i92 i96 i100 i103 i104)), ((z 79), .inl (T 0, 64, .inl g79))] → va_S A s.heap H locs → lv_has ls 2 [(0, .ref a), (1, .int p1)] → W p l e { frames := 1, cells := 0, slots := 0, locals := 25 } s m args below meth c H locs 0 0 (MQ below ((Qi (S := Unit) (fun (r : Int32) (_ : Unit) => True) (fun (_ : Unit) => [(a, .inr (11, OX z i1 i2 i3 i4 i5 i6 i7 i8 i30 i43 i45 i46 i47 i48 i49 i50 i51 i58 i59 i65 i68 i69 i72 i78 i80 i81 i82 i87 i92 i96 i100 i103 i104)), ((z 79), .inl (T 0, 64, .inl g79))]) D) A) args s 0 0 A) (F0 m 38 ls [.int x23100021]) := by
    intro x23100021 H locs ls hP hD hS hl
    exact r_iret () C0 hr hlocks hS (Nat.le_refl _) (Nat.le_refl _) dX11_caught_38 trivial (hP.sub (ws' := [(a, .inr (11, OX z i1 i2 i3 i4 i5 i6 i7 i8 i30 i43 i45 i46 i47 i48 i49 i50 i51 i58 i59 i65 i68 i69 i72 i78 i80 i81 i82 i87 i92 i96 i100 i103 i104)), ((z 79), .inl (T 0, 64, .inl g79))]) [0, 1] rfl) (hD.sub (ws' := [(a, .inr (11, OX z i1 i2 i3 i4 i5 i6 i7 i8 i30 i43 i45 i46 i47 i48 i49 i50 i51 i58 i59 i65 i68 i69 i72 i78 i80 i81 i82 i87 i92 i96 i100 i103 i104)), ((z 79), .inl (T 0, 64, .inl g79))]) [0, 1] (by decide +kernel) rfl)
  refine lv_if_eq (tgt := 37) hx hb dX11_caught_4 (by decide) (fun c23100012 => ?_) (fun c23100012 => ?_)
  · skip
    have kc23100012 : i78.toInt = 0 := eq_ti rfl (by decide) c23100012
    refine lv_iconst (v := (-1)) hx hb dX11_caught_37 (by decide) ?_
    exact J23100022 (-1) _ _ ls (hP.sub (ws' := [(a, .inr (11, OX z i1 i2 i3 i4 i5 i6 i7 i8 i30 i43 i45 i46 i47 i48 i49 i50 i51 i58 i59 i65 i68 i69 i72 i78 i80 i81 i82 i87 i92 i96 i100 i103 i104)), ((z 79), .inl (T 0, 64, .inl g79))]) [0, 1] rfl) (hD.sub (ws' := [(a, .inr (11, OX z i1 i2 i3 i4 i5 i6 i7 i8 i30 i43 i45 i46 i47 i48 i49 i50 i51 i58 i59 i65 i68 i69 i72 i78 i80 i81 i82 i87 i92 i96 i100 i103 i104)), ((z 79), .inl (T 0, 64, .inl g79))]) [0, 1] (by decide +kernel) rfl) hS (lv_sub hl [0, 1] rfl)
  · skip
    have kc23100012 : i78.toInt ≠ 0 := ne_ti rfl (by decide) c23100012
    have nzi78 : ¬ i78 = 0 := c23100012
    refine lv_iload_n hx hb dX11_caught_7 rfl (lv_at hl 1 rfl) ?_
    refine lv_i2l hx hb dX11_caught_8 rfl ?_
    refine lv_topl (fun x23100023 ex23100023 => ?_)
    have hx23100023 : x23100023.toInt = p1.toInt := by rw [ex23100023]; exact Int32.toInt_toInt64 _
    refine lv_lconst (v := 0) hx hb dX11_caught_9 (by decide) ?_
    refine lv_aload_n hx hb dX11_caught_10 rfl (lv_at hl 0 rfl) ?_
    refine r_get (v := .int i81) C0 hE ffX11_81 mw_871 hP 0 rfl ox_81 dX11_caught_11 ?_
    refine lv_aload_n hx hb dX11_caught_14 rfl (lv_at hl 0 rfl) ?_
    refine r_get (v := .int i82) C0 hE ffX11_82 mw_872 hP 0 rfl ox_82 dX11_caught_15 ?_
    refine lv_imul hx hb dX11_caught_18 ?_
    refine lv_topi (fun x23100024 ex23100024 => ?_)
    have hx23100024 : 0 ≤ x23100024.toInt ∧ x23100024.toInt ≤ 64 := by have hm := mul_bb (a := i81.toInt) (b := i82.toInt) (u := 0) (v := 0) (p := 8) (q := 8) (L := 0) (U := 64) (by decide) (by decide) (by omega) (by omega) (by omega) (by omega) (by decide) (by decide); rw [ti_mul ex23100024 rfl rfl (by omega) (by omega)]; exact hm
    refine lv_iconst (v := 1) hx hb dX11_caught_19 (by decide) ?_
    refine lv_isub hx hb dX11_caught_20 ?_
    refine lv_topi (fun x23100025 ex23100025 => ?_)
    have hx23100025 : x23100025.toInt = x23100024.toInt - 1 := ti_sub ex23100025 rfl (by decide) (by omega) (by omega)
    refine lv_i2l hx hb dX11_caught_21 rfl ?_
    refine lv_topl (fun x23100026 ex23100026 => ?_)
    have hx23100026 : x23100026.toInt = x23100025.toInt := by rw [ex23100026]; exact Int32.toInt_toInt64 _
    refine r_calli (wr := [(a, .inr (11, OX z i1 i2 i3 i4 i5 i6 i7 i8 i30 i43 i45 i46 i47 i48 i49 i50 i51 i58 i59 i65 i68 i69 i72 i78 i80 i81 i82 i87 i92 i96 i100 i103 i104)), ((z 79), .inl (T 0, 64, .inl g79))]) (r_runS2 (As := [.long x23100023, .long 0, .long x23100026]) (rest := []) (wc := []) C0 hE hStr hS (va_free (wc := []) hD hS hA [] rfl) (h_X11_isIn_20000007 l D T sq sv H.size x23100023 0 x23100026) mw_910 mw_911 mw_14 mw_912 dn_1704 rfl rfl ⟨Nat.le_of_ble_eq_true rfl, Nat.le_of_ble_eq_true rfl⟩ (hP.sub (ws' := []) [] rfl) (hD.sub (ws' := []) [] (by decide +kernel) rfl) hl.1 rfl (Nat.le_of_ble_eq_true rfl) dX11_caught_22 ⟨Nat.le_of_ble_eq_true rfl, Nat.le_of_ble_eq_true rfl⟩) hP hD hS hA [] [0, 1] rfl rfl (by decide +kernel) (by decide +kernel) (fun x23100027 u H locs hq hP hD hS => ?_)
    obtain ⟨hp23100028, hx23100027⟩ := hq
    have hp23100028 : (x23100027.toInt = 0 ∧ (x23100023.toInt < 0 ∨ x23100026.toInt < x23100023.toInt)) ∨ (x23100027.toInt = 1 ∧ 0 ≤ x23100023.toInt ∧ x23100023.toInt ≤ x23100026.toInt) := hp23100028
    have hx23100027 : 0 ≤ x23100027.toInt ∧ x23100027.toInt ≤ 1 := hx23100027
    have hl23100029 : (0 : Int64).toInt = 0 := by decide
    have hP : va_P D vwCl [(a, .inr (11, OX z i1 i2 i3 i4 i5 i6 i7 i8 i30 i43 i45 i46 i47 i48 i49 i50 i51 i58 i59 i65 i68 i69 i72 i78 i80 i81 i82 i87 i92 i96 i100 i103 i104)), ((z 79), .inl (T 0, 64, .inl g79))] H := hP
    have hD : va_D A [(a, .inr (11, OX z i1 i2 i3 i4 i5 i6 i7 i8 i30 i43 i45 i46 i47 i48 i49 i50 i51 i58 i59 i65 i68 i69 i72 i78 i80 i81 i82 i87 i92 i96 i100 i103 i104)), ((z 79), .inl (T 0, 64, .inl g79))] := hD
    refine W.widen (k := 0) (n := 0) (Nat.le_refl _) (Nat.le_refl _) ?_
    refine lv_if_eq (tgt := 37) hx hb dX11_caught_25 (by decide) (fun c23100030 => ?_) (fun c23100030 => ?_)
    · skip
      have kc23100030 : x23100027.toInt = 0 := eq_ti rfl (by decide) c23100030
      refine lv_iconst (v := (-1)) hx hb dX11_caught_37 (by decide) ?_
      exact J23100022 (-1) _ _ ls (hP.sub (ws' := [(a, .inr (11, OX z i1 i2 i3 i4 i5 i6 i7 i8 i30 i43 i45 i46 i47 i48 i49 i50 i51 i58 i59 i65 i68 i69 i72 i78 i80 i81 i82 i87 i92 i96 i100 i103 i104)), ((z 79), .inl (T 0, 64, .inl g79))]) [0, 1] rfl) (hD.sub (ws' := [(a, .inr (11, OX z i1 i2 i3 i4 i5 i6 i7 i8 i30 i43 i45 i46 i47 i48 i49 i50 i51 i58 i59 i65 i68 i69 i72 i78 i80 i81 i82 i87 i92 i96 i100 i103 i104)), ((z 79), .inl (T 0, 64, .inl g79))]) [0, 1] (by decide +kernel) rfl) hS (lv_sub hl [0, 1] rfl)
    · skip
      have kc23100030 : x23100027.toInt ≠ 0 := ne_ti rfl (by decide) c23100030
      have nzx23100027 : ¬ x23100027 = 0 := c23100030
      refine lv_aload_n hx hb dX11_caught_28 rfl (lv_at hl 0 rfl) ?_
      refine r_get (v := .ref (z 79)) C0 hE ffX11_79 mw_869 hP 0 rfl ox_79 dX11_caught_29 ?_
      refine lv_iload_n hx hb dX11_caught_32 rfl (lv_at hl 1 rfl) ?_
      refine va_iald hx hb hK hP 1 0 rfl rfl (in_ti rfl (by omega) (by omega)) dX11_caught_33 ?_
      refine lv_topi (fun x23100031 ex23100031 => ?_)
      refine lv_goto (tgt := 38) hx hb dX11_caught_34 (by decide) ?_
      exact J23100022 x23100031 _ _ ls (hP.sub (ws' := [(a, .inr (11, OX z i1 i2 i3 i4 i5 i6 i7 i8 i30 i43 i45 i46 i47 i48 i49 i50 i51 i58 i59 i65 i68 i69 i72 i78 i80 i81 i82 i87 i92 i96 i100 i103 i104)), ((z 79), .inl (T 0, 64, .inl g79))]) [0, 1] rfl) (hD.sub (ws' := [(a, .inr (11, OX z i1 i2 i3 i4 i5 i6 i7 i8 i30 i43 i45 i46 i47 i48 i49 i50 i51 i58 i59 i65 i68 i69 i72 i78 i80 i81 i82 i87 i92 i96 i100 i103 i104)), ((z 79), .inl (T 0, 64, .inl g79))]) [0, 1] (by decide +kernel) rfl) hS (lv_sub hl [0, 1] rfl)
set_option maxHeartbeats 4000000 in
set_option maxRecDepth 100000 in
theorem h_X11_step_23200005 (l : Launch) (D : va_G) (T : Nat → ClassId) (sq sv sz : Nat) (a : Nat) (z : Nat → Nat) (i1 i2 i3 i4 i5 i6 i7 i8 i30 i43 i45 i46 i47 i48 i49 i50 i51 i58 i59 i65 i68 i69 i72 i78 i80 i81 i82 i87 i92 i96 i100 i103 i104 : Int32) (p1 : Int32) (g88 : Nat → Int32) (hi87 : -1 ≤ i87.toInt ∧ i87.toInt ≤ 64) : Met l yX11_step (.code yX11_step cX11_step 2 (some .int) :: TB) { frames := 0, cells := 0, slots := 0, locals := 0 } (PC2 D T sq sv [.ref a, .int p1] [(a, .inr (11, OX z i1 i2 i3 i4 i5 i6 i7 i8 i30 i43 i45 i46 i47 i48 i49 i50 i51 i58 i59 i65 i68 i69 i72 i78 i80 i81 i82 i87 i92 i96 i100 i103 i104)), ((z 88), .inl (T 0, 64, .inl g88))] sz) (Qi (S := Unit) (fun (r : Int32) (_ : Unit) => True) (fun (_ : Unit) => [(a, .inr (11, OX z i1 i2 i3 i4 i5 i6 i7 i8 i30 i43 i45 i46 i47 i48 i49 i50 i51 i58 i59 i65 i68 i69 i72 i78 i80 i81 i82 i87 i92 i96 i100 i103 i104)), ((z 88), .inl (T 0, 64, .inl g88))]) D (va_A [(a, .inr (11, OX z i1 i2 i3 i4 i5 i6 i7 i8 i30 i43 i45 i46 i47 i48 i49 i50 i51 i58 i59 i65 i68 i69 i72 i78 i80 i81 i82 i87 i92 i96 i100 i103 i104)), ((z 88), .inl (T 0, 64, .inl g88))] sz)) 0 0 (va_A [(a, .inr (11, OX z i1 i2 i3 i4 i5 i6 i7 i8 i30 i43 i45 i46 i47 i48 i49 i50 i51 i58 i59 i65 i68 i69 i72 i78 i80 i81 i82 i87 i92 i96 i100 i103 i104)), ((z 88), .inl (T 0, 64, .inl g88))] sz) := by
  refine ct_begin2 (Qc := Qi (S := Unit) (fun (r : Int32) (_ : Unit) => True) (fun (_ : Unit) => [(a, .inr (11, OX z i1 i2 i3 i4 i5 i6 i7 i8 i30 i43 i45 i46 i47 i48 i49 i50 i51 i58 i59 i65 i68 i69 i72 i78 i80 i81 i82 i87 i92 i96 i100 i103 i104)), ((z 88), .inl (T 0, 64, .inl g88))]) D) (by decide +kernel) (Nat.le_of_ble_eq_true rfl) ?_
  intro p e s m below meth c A ls C0 hr hlocks hnm hE hStr hA hP hD hl
  generalize ([.ref a, .int p1] : List Value).toArray = args at C0 ⊢
  have hx := C0.1
  have hb := C0.2.1
  have hml := C0.2.2.1
  have hown := C0.2.2.2.1
  have hT := C0.2.2.2.2
  have hK := hE.1
  generalize hH : s.heap = H at hP ⊢
  have hS : va_S A s.heap H [] := by rw [← hH]; exact va_S.rf
  have hP : va_P D vwCl [(a, .inr (11, OX z i1 i2 i3 i4 i5 i6 i7 i8 i30 i43 i45 i46 i47 i48 i49 i50 i51 i58 i59 i65 i68 i69 i72 i78 i80 i81 i82 i87 i92 i96 i100 i103 i104)), ((z 88), .inl (T 0, 64, .inl g88))] H := hP
  have hD : va_D A [(a, .inr (11, OX z i1 i2 i3 i4 i5 i6 i7 i8 i30 i43 i45 i46 i47 i48 i49 i50 i51 i58 i59 i65 i68 i69 i72 i78 i80 i81 i82 i87 i92 i96 i100 i103 i104)), ((z 88), .inl (T 0, 64, .inl g88))] := hD
  have hl : lv_has ls 2 [(0, .ref a), (1, .int p1)] := hl
  refine lv_iload_n hx hb dX11_step_0 rfl (lv_at hl 1 rfl) ?_
  have J23200010 : ∀ (x23200009 : Int32) (H : Heap) (locs : List Loc) (ls : Array Slot), va_P D vwCl [(a, .inr (11, OX z i1 i2 i3 i4 i5 i6 i7 i8 i30 i43 i45 i46 i47 i48 i49 i50 i51 i58 i59 i65 i68 i69 i72 i78 i80 i81 i82 i87 i92 i96 i100 i103 i104)), ((z 88), .inl (T 0, 64, .inl g88))] H → va_D A [(a, .inr (11, OX z i1 i2 i3 i4 i5 i6 i7 i8 i30 i43 i45 i46 i47 i48 i49 i50 i51 i58 i59 i65 i68 i69 i72 i78 i80 i81 i82 i87 i92 i96 i100 i103 i104)), ((z 88), .inl (T 0, 64, .inl g88))] → va_S A s.heap H locs → lv_has ls 2 [(0, .ref a), (1, .int p1)] → W p l e { frames := 0, cells := 0, slots := 0, locals := 0 } s m args below meth c H locs 0 0 (MQ below ((Qi (S := Unit) (fun (r : Int32) (_ : Unit) => True) (fun (_ : Unit) => [(a, .inr (11, OX z i1 i2 i3 i4 i5 i6 i7 i8 i30 i43 i45 i46 i47 i48 i49 i50 i51 i58 i59 i65 i68 i69 i72 i78 i80 i81 i82 i87 i92 i96 i100 i103 i104)), ((z 88), .inl (T 0, 64, .inl g88))]) D) A) args s 0 0 A) (F0 m 22 ls [.int x23200009]) := by
    intro x23200009 H locs ls hP hD hS hl
    exact r_iret () C0 hr hlocks hS (Nat.le_refl _) (Nat.le_refl _) dX11_step_22 trivial (hP.sub (ws' := [(a, .inr (11, OX z i1 i2 i3 i4 i5 i6 i7 i8 i30 i43 i45 i46 i47 i48 i49 i50 i51 i58 i59 i65 i68 i69 i72 i78 i80 i81 i82 i87 i92 i96 i100 i103 i104)), ((z 88), .inl (T 0, 64, .inl g88))]) [0, 1] rfl) (hD.sub (ws' := [(a, .inr (11, OX z i1 i2 i3 i4 i5 i6 i7 i8 i30 i43 i45 i46 i47 i48 i49 i50 i51 i58 i59 i65 i68 i69 i72 i78 i80 i81 i82 i87 i92 i96 i100 i103 i104)), ((z 88), .inl (T 0, 64, .inl g88))]) [0, 1] (by decide +kernel) rfl)
  refine lv_if_lt (tgt := 21) hx hb dX11_step_1 (by decide) (fun c23200006 => ?_) (fun c23200006 => ?_)
  · skip
    have kc23200006 : p1.toInt < 0 := lt_ti rfl (by decide) c23200006
    have rg23200011 := i32_rng p1
    refine lv_iconst (v := (-1)) hx hb dX11_step_21 (by decide) ?_
    exact J23200010 (-1) _ _ ls (hP.sub (ws' := [(a, .inr (11, OX z i1 i2 i3 i4 i5 i6 i7 i8 i30 i43 i45 i46 i47 i48 i49 i50 i51 i58 i59 i65 i68 i69 i72 i78 i80 i81 i82 i87 i92 i96 i100 i103 i104)), ((z 88), .inl (T 0, 64, .inl g88))]) [0, 1] rfl) (hD.sub (ws' := [(a, .inr (11, OX z i1 i2 i3 i4 i5 i6 i7 i8 i30 i43 i45 i46 i47 i48 i49 i50 i51 i58 i59 i65 i68 i69 i72 i78 i80 i81 i82 i87 i92 i96 i100 i103 i104)), ((z 88), .inl (T 0, 64, .inl g88))]) [0, 1] (by decide +kernel) rfl) hS (lv_sub hl [0, 1] rfl)
  · skip
    have kc23200006 : 0 ≤ p1.toInt := nlt_ti rfl (by decide) c23200006
    refine lv_iload_n hx hb dX11_step_4 rfl (lv_at hl 1 rfl) ?_
    refine lv_aload_n hx hb dX11_step_5 rfl (lv_at hl 0 rfl) ?_
    refine r_get (v := .int i87) C0 hE ffX11_87 mw_877 hP 0 rfl ox_87 dX11_step_6 ?_
    refine lv_icmp_ge (tgt := 21) hx hb dX11_step_9 (by decide) (fun c23200012 => ?_) (fun c23200012 => ?_)
    · skip
      have kc23200012 : i87.toInt ≤ p1.toInt := le_ti rfl rfl c23200012
      refine lv_iconst (v := (-1)) hx hb dX11_step_21 (by decide) ?_
      exact J23200010 (-1) _ _ ls (hP.sub (ws' := [(a, .inr (11, OX z i1 i2 i3 i4 i5 i6 i7 i8 i30 i43 i45 i46 i47 i48 i49 i50 i51 i58 i59 i65 i68 i69 i72 i78 i80 i81 i82 i87 i92 i96 i100 i103 i104)), ((z 88), .inl (T 0, 64, .inl g88))]) [0, 1] rfl) (hD.sub (ws' := [(a, .inr (11, OX z i1 i2 i3 i4 i5 i6 i7 i8 i30 i43 i45 i46 i47 i48 i49 i50 i51 i58 i59 i65 i68 i69 i72 i78 i80 i81 i82 i87 i92 i96 i100 i103 i104)), ((z 88), .inl (T 0, 64, .inl g88))]) [0, 1] (by decide +kernel) rfl) hS (lv_sub hl [0, 1] rfl)
    · skip
      have kc23200012 : p1.toInt < i87.toInt := nle_ti rfl rfl c23200012
      refine lv_aload_n hx hb dX11_step_12 rfl (lv_at hl 0 rfl) ?_
      refine r_get (v := .ref (z 88)) C0 hE ffX11_88 mw_878 hP 0 rfl ox_88 dX11_step_13 ?_
      refine lv_iload_n hx hb dX11_step_16 rfl (lv_at hl 1 rfl) ?_
      refine va_iald hx hb hK hP 1 0 rfl rfl (in_ti rfl (by omega) (by omega)) dX11_step_17 ?_
      refine lv_topi (fun x23200013 ex23200013 => ?_)
      refine lv_goto (tgt := 22) hx hb dX11_step_18 (by decide) ?_
      exact J23200010 x23200013 _ _ ls (hP.sub (ws' := [(a, .inr (11, OX z i1 i2 i3 i4 i5 i6 i7 i8 i30 i43 i45 i46 i47 i48 i49 i50 i51 i58 i59 i65 i68 i69 i72 i78 i80 i81 i82 i87 i92 i96 i100 i103 i104)), ((z 88), .inl (T 0, 64, .inl g88))]) [0, 1] rfl) (hD.sub (ws' := [(a, .inr (11, OX z i1 i2 i3 i4 i5 i6 i7 i8 i30 i43 i45 i46 i47 i48 i49 i50 i51 i58 i59 i65 i68 i69 i72 i78 i80 i81 i82 i87 i92 i96 i100 i103 i104)), ((z 88), .inl (T 0, 64, .inl g88))]) [0, 1] (by decide +kernel) rfl) hS (lv_sub hl [0, 1] rfl)
