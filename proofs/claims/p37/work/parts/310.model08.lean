set_option maxHeartbeats 4000000 in
set_option maxRecDepth 100000 in
theorem h_X11_front_23900011 (l : Launch) (D : va_G) (T : Nat → ClassId) (sq sv sz : Nat) (a : Nat) (z : Nat → Nat) (i1 i2 i3 i4 i5 i6 i7 i8 i30 i43 i45 i46 i47 i48 i49 i50 i51 i58 i59 i65 i68 i69 i72 i78 i80 i81 i82 i87 i92 i96 i100 i103 i104 : Int32) (p1 : Int32) (p2 : Int32) (g93 : Nat → Int32) (g94 : Nat → Int32) (g95 : Nat → Int32) (hi92 : -1 ≤ i92.toInt ∧ i92.toInt ≤ 8) : Met l yX11_front (.code yX11_front cX11_front 3 (some .int) :: TB) { frames := 0, cells := 0, slots := 0, locals := 0 } (PC2 D T sq sv [.ref a, .int p1, .int p2] [(a, .inr (11, OX z i1 i2 i3 i4 i5 i6 i7 i8 i30 i43 i45 i46 i47 i48 i49 i50 i51 i58 i59 i65 i68 i69 i72 i78 i80 i81 i82 i87 i92 i96 i100 i103 i104)), ((z 93), .inl (T 0, 8, .inl g93)), ((z 94), .inl (T 0, 8, .inl g94)), ((z 95), .inl (T 0, 8, .inl g95))] sz) (Qi (S := Unit) (fun (r : Int32) (_ : Unit) => True) (fun (_ : Unit) => [(a, .inr (11, OX z i1 i2 i3 i4 i5 i6 i7 i8 i30 i43 i45 i46 i47 i48 i49 i50 i51 i58 i59 i65 i68 i69 i72 i78 i80 i81 i82 i87 i92 i96 i100 i103 i104)), ((z 93), .inl (T 0, 8, .inl g93)), ((z 94), .inl (T 0, 8, .inl g94)), ((z 95), .inl (T 0, 8, .inl g95))]) D (va_A [(a, .inr (11, OX z i1 i2 i3 i4 i5 i6 i7 i8 i30 i43 i45 i46 i47 i48 i49 i50 i51 i58 i59 i65 i68 i69 i72 i78 i80 i81 i82 i87 i92 i96 i100 i103 i104)), ((z 93), .inl (T 0, 8, .inl g93)), ((z 94), .inl (T 0, 8, .inl g94)), ((z 95), .inl (T 0, 8, .inl g95))] sz)) 0 0 (va_A [(a, .inr (11, OX z i1 i2 i3 i4 i5 i6 i7 i8 i30 i43 i45 i46 i47 i48 i49 i50 i51 i58 i59 i65 i68 i69 i72 i78 i80 i81 i82 i87 i92 i96 i100 i103 i104)), ((z 93), .inl (T 0, 8, .inl g93)), ((z 94), .inl (T 0, 8, .inl g94)), ((z 95), .inl (T 0, 8, .inl g95))] sz) := by
  refine ct_begin2 (Qc := Qi (S := Unit) (fun (r : Int32) (_ : Unit) => True) (fun (_ : Unit) => [(a, .inr (11, OX z i1 i2 i3 i4 i5 i6 i7 i8 i30 i43 i45 i46 i47 i48 i49 i50 i51 i58 i59 i65 i68 i69 i72 i78 i80 i81 i82 i87 i92 i96 i100 i103 i104)), ((z 93), .inl (T 0, 8, .inl g93)), ((z 94), .inl (T 0, 8, .inl g94)), ((z 95), .inl (T 0, 8, .inl g95))]) D) (by decide +kernel) (Nat.le_of_ble_eq_true rfl) ?_
  intro p e s m below meth c A ls C0 hr hlocks hnm hE hStr hA hP hD hl
  generalize ([.ref a, .int p1, .int p2] : List Value).toArray = args at C0 ⊢
  have hx := C0.1
  have hb := C0.2.1
  have hml := C0.2.2.1
  have hown := C0.2.2.2.1
  have hT := C0.2.2.2.2
  have hK := hE.1
  generalize hH : s.heap = H at hP ⊢
  have hS : va_S A s.heap H [] := by rw [← hH]; exact va_S.rf
  have hP : va_P D vwCl [(a, .inr (11, OX z i1 i2 i3 i4 i5 i6 i7 i8 i30 i43 i45 i46 i47 i48 i49 i50 i51 i58 i59 i65 i68 i69 i72 i78 i80 i81 i82 i87 i92 i96 i100 i103 i104)), ((z 93), .inl (T 0, 8, .inl g93)), ((z 94), .inl (T 0, 8, .inl g94)), ((z 95), .inl (T 0, 8, .inl g95))] H := hP
  have hD : va_D A [(a, .inr (11, OX z i1 i2 i3 i4 i5 i6 i7 i8 i30 i43 i45 i46 i47 i48 i49 i50 i51 i58 i59 i65 i68 i69 i72 i78 i80 i81 i82 i87 i92 i96 i100 i103 i104)), ((z 93), .inl (T 0, 8, .inl g93)), ((z 94), .inl (T 0, 8, .inl g94)), ((z 95), .inl (T 0, 8, .inl g95))] := hD
  have hl : lv_has ls 3 [(0, .ref a), (1, .int p1), (2, .int p2)] := hl
  refine lv_iload_n hx hb dX11_front_0 rfl (lv_at hl 1 rfl) ?_
  refine lv_if_lt (tgt := 12) hx hb dX11_front_1 (by decide) (fun c23900012 => ?_) (fun c23900012 => ?_)
  · skip
    have kc23900012 : p1.toInt < 0 := lt_ti rfl (by decide) c23900012
    have rg23900013 := i32_rng p1
    refine lv_iconst (v := (-1)) hx hb dX11_front_12 (by decide) ?_
    exact r_iret () C0 hr hlocks hS (Nat.le_refl _) (Nat.le_refl _) dX11_front_13 trivial (hP.sub (ws' := [(a, .inr (11, OX z i1 i2 i3 i4 i5 i6 i7 i8 i30 i43 i45 i46 i47 i48 i49 i50 i51 i58 i59 i65 i68 i69 i72 i78 i80 i81 i82 i87 i92 i96 i100 i103 i104)), ((z 93), .inl (T 0, 8, .inl g93)), ((z 94), .inl (T 0, 8, .inl g94)), ((z 95), .inl (T 0, 8, .inl g95))]) [0, 1, 2, 3] rfl) (hD.sub (ws' := [(a, .inr (11, OX z i1 i2 i3 i4 i5 i6 i7 i8 i30 i43 i45 i46 i47 i48 i49 i50 i51 i58 i59 i65 i68 i69 i72 i78 i80 i81 i82 i87 i92 i96 i100 i103 i104)), ((z 93), .inl (T 0, 8, .inl g93)), ((z 94), .inl (T 0, 8, .inl g94)), ((z 95), .inl (T 0, 8, .inl g95))]) [0, 1, 2, 3] (by decide +kernel) rfl)
  · skip
    have kc23900012 : 0 ≤ p1.toInt := nlt_ti rfl (by decide) c23900012
    refine lv_iload_n hx hb dX11_front_4 rfl (lv_at hl 1 rfl) ?_
    refine lv_aload_n hx hb dX11_front_5 rfl (lv_at hl 0 rfl) ?_
    refine r_get (v := .int i92) C0 hE ffX11_92 mw_882 hP 0 rfl ox_92 dX11_front_6 ?_
    refine lv_icmp_lt (tgt := 14) hx hb dX11_front_9 (by decide) (fun c23900014 => ?_) (fun c23900014 => ?_)
    · skip
      have kc23900014 : p1.toInt < i92.toInt := lt_ti rfl rfl c23900014
      refine lv_iload_n hx hb dX11_front_14 rfl (lv_at hl 2 rfl) ?_
      have J23900022 : ∀ (x23900021 : Int32) (H : Heap) (locs : List Loc) (ls : Array Slot), va_P D vwCl [(a, .inr (11, OX z i1 i2 i3 i4 i5 i6 i7 i8 i30 i43 i45 i46 i47 i48 i49 i50 i51 i58 i59 i65 i68 i69 i72 i78 i80 i81 i82 i87 i92 i96 i100 i103 i104)), ((z 93), .inl (T 0, 8, .inl g93)), ((z 94), .inl (T 0, 8, .inl g94)), ((z 95), .inl (T 0, 8, .inl g95))] H → va_D A [(a, .inr (11, OX z i1 i2 i3 i4 i5 i6 i7 i8 i30 i43 i45 i46 i47 i48 i49 i50 i51 i58 i59 i65 i68 i69 i72 i78 i80 i81 i82 i87 i92 i96 i100 i103 i104)), ((z 93), .inl (T 0, 8, .inl g93)), ((z 94), .inl (T 0, 8, .inl g94)), ((z 95), .inl (T 0, 8, .inl g95))] → va_S A s.heap H locs → lv_has ls 3 [(0, .ref a), (1, .int p1), (2, .int p2)] → W p l e { frames := 0, cells := 0, slots := 0, locals := 0 } s m args below meth c H locs 0 0 (MQ below ((Qi (S := Unit) (fun (r : Int32) (_ : Unit) => True) (fun (_ : Unit) => [(a, .inr (11, OX z i1 i2 i3 i4 i5 i6 i7 i8 i30 i43 i45 i46 i47 i48 i49 i50 i51 i58 i59 i65 i68 i69 i72 i78 i80 i81 i82 i87 i92 i96 i100 i103 i104)), ((z 93), .inl (T 0, 8, .inl g93)), ((z 94), .inl (T 0, 8, .inl g94)), ((z 95), .inl (T 0, 8, .inl g95))]) D) A) args s 0 0 A) (F0 m 56 ls [.int x23900021]) := by
        intro x23900021 H locs ls hP hD hS hl
        exact r_iret () C0 hr hlocks hS (Nat.le_refl _) (Nat.le_refl _) dX11_front_56 trivial (hP.sub (ws' := [(a, .inr (11, OX z i1 i2 i3 i4 i5 i6 i7 i8 i30 i43 i45 i46 i47 i48 i49 i50 i51 i58 i59 i65 i68 i69 i72 i78 i80 i81 i82 i87 i92 i96 i100 i103 i104)), ((z 93), .inl (T 0, 8, .inl g93)), ((z 94), .inl (T 0, 8, .inl g94)), ((z 95), .inl (T 0, 8, .inl g95))]) [0, 1, 2, 3] rfl) (hD.sub (ws' := [(a, .inr (11, OX z i1 i2 i3 i4 i5 i6 i7 i8 i30 i43 i45 i46 i47 i48 i49 i50 i51 i58 i59 i65 i68 i69 i72 i78 i80 i81 i82 i87 i92 i96 i100 i103 i104)), ((z 93), .inl (T 0, 8, .inl g93)), ((z 94), .inl (T 0, 8, .inl g94)), ((z 95), .inl (T 0, 8, .inl g95))]) [0, 1, 2, 3] (by decide +kernel) rfl)
      refine lv_if_ne (tgt := 27) hx hb dX11_front_15 (by decide) (fun c23900015 => ?_) (fun c23900015 => ?_)
      · skip
        have kc23900015 : p2.toInt ≠ 0 := ne_ti rfl (by decide) c23900015
        have nzp2 : ¬ p2 = 0 := c23900015
        refine lv_iload_n hx hb dX11_front_27 rfl (lv_at hl 2 rfl) ?_
        refine lv_iconst (v := 1) hx hb dX11_front_28 (by decide) ?_
        refine lv_icmp_ne (tgt := 41) hx hb dX11_front_29 (by decide) (fun c23900023 => ?_) (fun c23900023 => ?_)
        · skip
          have kc23900023 : p2.toInt ≠ 1 := ne_ti rfl (by decide) c23900023
          refine lv_iload_n hx hb dX11_front_41 rfl (lv_at hl 2 rfl) ?_
          refine lv_iconst (v := 2) hx hb dX11_front_42 (by decide) ?_
          refine lv_icmp_ne (tgt := 55) hx hb dX11_front_43 (by decide) (fun c23900024 => ?_) (fun c23900024 => ?_)
          · skip
            have kc23900024 : p2.toInt ≠ 2 := ne_ti rfl (by decide) c23900024
            refine lv_iconst (v := (-1)) hx hb dX11_front_55 (by decide) ?_
            exact J23900022 (-1) _ _ ls (hP.sub (ws' := [(a, .inr (11, OX z i1 i2 i3 i4 i5 i6 i7 i8 i30 i43 i45 i46 i47 i48 i49 i50 i51 i58 i59 i65 i68 i69 i72 i78 i80 i81 i82 i87 i92 i96 i100 i103 i104)), ((z 93), .inl (T 0, 8, .inl g93)), ((z 94), .inl (T 0, 8, .inl g94)), ((z 95), .inl (T 0, 8, .inl g95))]) [0, 1, 2, 3] rfl) (hD.sub (ws' := [(a, .inr (11, OX z i1 i2 i3 i4 i5 i6 i7 i8 i30 i43 i45 i46 i47 i48 i49 i50 i51 i58 i59 i65 i68 i69 i72 i78 i80 i81 i82 i87 i92 i96 i100 i103 i104)), ((z 93), .inl (T 0, 8, .inl g93)), ((z 94), .inl (T 0, 8, .inl g94)), ((z 95), .inl (T 0, 8, .inl g95))]) [0, 1, 2, 3] (by decide +kernel) rfl) hS (lv_sub hl [0, 1, 2] rfl)
          · skip
            have kc23900024 : p2.toInt = 2 := eq_ti rfl (by decide) c23900024
            refine lv_aload_n hx hb dX11_front_46 rfl (lv_at hl 0 rfl) ?_
            refine r_get (v := .ref (z 95)) C0 hE ffX11_95 mw_885 hP 0 rfl ox_95 dX11_front_47 ?_
            refine lv_iload_n hx hb dX11_front_50 rfl (lv_at hl 1 rfl) ?_
            refine va_iald hx hb hK hP 3 0 rfl rfl (in_ti rfl (by omega) (by omega)) dX11_front_51 ?_
            refine lv_topi (fun x23900025 ex23900025 => ?_)
            refine lv_goto (tgt := 56) hx hb dX11_front_52 (by decide) ?_
            exact J23900022 x23900025 _ _ ls (hP.sub (ws' := [(a, .inr (11, OX z i1 i2 i3 i4 i5 i6 i7 i8 i30 i43 i45 i46 i47 i48 i49 i50 i51 i58 i59 i65 i68 i69 i72 i78 i80 i81 i82 i87 i92 i96 i100 i103 i104)), ((z 93), .inl (T 0, 8, .inl g93)), ((z 94), .inl (T 0, 8, .inl g94)), ((z 95), .inl (T 0, 8, .inl g95))]) [0, 1, 2, 3] rfl) (hD.sub (ws' := [(a, .inr (11, OX z i1 i2 i3 i4 i5 i6 i7 i8 i30 i43 i45 i46 i47 i48 i49 i50 i51 i58 i59 i65 i68 i69 i72 i78 i80 i81 i82 i87 i92 i96 i100 i103 i104)), ((z 93), .inl (T 0, 8, .inl g93)), ((z 94), .inl (T 0, 8, .inl g94)), ((z 95), .inl (T 0, 8, .inl g95))]) [0, 1, 2, 3] (by decide +kernel) rfl) hS (lv_sub hl [0, 1, 2] rfl)
        · skip
          have kc23900023 : p2.toInt = 1 := eq_ti rfl (by decide) c23900023
          refine lv_aload_n hx hb dX11_front_32 rfl (lv_at hl 0 rfl) ?_
          refine r_get (v := .ref (z 94)) C0 hE ffX11_94 mw_884 hP 0 rfl ox_94 dX11_front_33 ?_
          refine lv_iload_n hx hb dX11_front_36 rfl (lv_at hl 1 rfl) ?_
          refine va_iald hx hb hK hP 2 0 rfl rfl (in_ti rfl (by omega) (by omega)) dX11_front_37 ?_
          refine lv_topi (fun x23900026 ex23900026 => ?_)
          refine lv_goto (tgt := 56) hx hb dX11_front_38 (by decide) ?_
          exact J23900022 x23900026 _ _ ls (hP.sub (ws' := [(a, .inr (11, OX z i1 i2 i3 i4 i5 i6 i7 i8 i30 i43 i45 i46 i47 i48 i49 i50 i51 i58 i59 i65 i68 i69 i72 i78 i80 i81 i82 i87 i92 i96 i100 i103 i104)), ((z 93), .inl (T 0, 8, .inl g93)), ((z 94), .inl (T 0, 8, .inl g94)), ((z 95), .inl (T 0, 8, .inl g95))]) [0, 1, 2, 3] rfl) (hD.sub (ws' := [(a, .inr (11, OX z i1 i2 i3 i4 i5 i6 i7 i8 i30 i43 i45 i46 i47 i48 i49 i50 i51 i58 i59 i65 i68 i69 i72 i78 i80 i81 i82 i87 i92 i96 i100 i103 i104)), ((z 93), .inl (T 0, 8, .inl g93)), ((z 94), .inl (T 0, 8, .inl g94)), ((z 95), .inl (T 0, 8, .inl g95))]) [0, 1, 2, 3] (by decide +kernel) rfl) hS (lv_sub hl [0, 1, 2] rfl)
      · skip
        have kc23900015 : p2.toInt = 0 := eq_ti rfl (by decide) c23900015
        refine lv_aload_n hx hb dX11_front_18 rfl (lv_at hl 0 rfl) ?_
        refine r_get (v := .ref (z 93)) C0 hE ffX11_93 mw_883 hP 0 rfl ox_93 dX11_front_19 ?_
        refine lv_iload_n hx hb dX11_front_22 rfl (lv_at hl 1 rfl) ?_
        refine va_iald hx hb hK hP 1 0 rfl rfl (in_ti rfl (by omega) (by omega)) dX11_front_23 ?_
        refine lv_topi (fun x23900027 ex23900027 => ?_)
        refine lv_goto (tgt := 56) hx hb dX11_front_24 (by decide) ?_
        exact J23900022 x23900027 _ _ ls (hP.sub (ws' := [(a, .inr (11, OX z i1 i2 i3 i4 i5 i6 i7 i8 i30 i43 i45 i46 i47 i48 i49 i50 i51 i58 i59 i65 i68 i69 i72 i78 i80 i81 i82 i87 i92 i96 i100 i103 i104)), ((z 93), .inl (T 0, 8, .inl g93)), ((z 94), .inl (T 0, 8, .inl g94)), ((z 95), .inl (T 0, 8, .inl g95))]) [0, 1, 2, 3] rfl) (hD.sub (ws' := [(a, .inr (11, OX z i1 i2 i3 i4 i5 i6 i7 i8 i30 i43 i45 i46 i47 i48 i49 i50 i51 i58 i59 i65 i68 i69 i72 i78 i80 i81 i82 i87 i92 i96 i100 i103 i104)), ((z 93), .inl (T 0, 8, .inl g93)), ((z 94), .inl (T 0, 8, .inl g94)), ((z 95), .inl (T 0, 8, .inl g95))]) [0, 1, 2, 3] (by decide +kernel) rfl) hS (lv_sub hl [0, 1, 2] rfl)
    · skip
      have kc23900014 : i92.toInt ≤ p1.toInt := nlt_ti rfl rfl c23900014
      refine lv_iconst (v := (-1)) hx hb dX11_front_12 (by decide) ?_
      exact r_iret () C0 hr hlocks hS (Nat.le_refl _) (Nat.le_refl _) dX11_front_13 trivial (hP.sub (ws' := [(a, .inr (11, OX z i1 i2 i3 i4 i5 i6 i7 i8 i30 i43 i45 i46 i47 i48 i49 i50 i51 i58 i59 i65 i68 i69 i72 i78 i80 i81 i82 i87 i92 i96 i100 i103 i104)), ((z 93), .inl (T 0, 8, .inl g93)), ((z 94), .inl (T 0, 8, .inl g94)), ((z 95), .inl (T 0, 8, .inl g95))]) [0, 1, 2, 3] rfl) (hD.sub (ws' := [(a, .inr (11, OX z i1 i2 i3 i4 i5 i6 i7 i8 i30 i43 i45 i46 i47 i48 i49 i50 i51 i58 i59 i65 i68 i69 i72 i78 i80 i81 i82 i87 i92 i96 i100 i103 i104)), ((z 93), .inl (T 0, 8, .inl g93)), ((z 94), .inl (T 0, 8, .inl g94)), ((z 95), .inl (T 0, 8, .inl g95))]) [0, 1, 2, 3] (by decide +kernel) rfl)
set_option maxHeartbeats 4000000 in
set_option maxRecDepth 100000 in
theorem h_X11_work_24000067 (l : Launch) (D : va_G) (T : Nat → ClassId) (sq sv sz : Nat) (a : Nat) (z : Nat → Nat) (i1 i2 i3 i4 i5 i6 i7 i8 i30 i43 i45 i46 i47 i48 i49 i50 i51 i58 i59 i65 i68 i69 i72 i78 i80 i81 i82 i87 i92 i96 i100 i103 i104 : Int32) (g94 : Nat → Int32) (hi92 : -1 ≤ i92.toInt ∧ i92.toInt ≤ 8) : Met l yX11_work (.code yX11_work cX11_work 4 (some .long) :: TB) { frames := 0, cells := 0, slots := 0, locals := 0 } (PC2 D T sq sv [.ref a] [(a, .inr (11, OX z i1 i2 i3 i4 i5 i6 i7 i8 i30 i43 i45 i46 i47 i48 i49 i50 i51 i58 i59 i65 i68 i69 i72 i78 i80 i81 i82 i87 i92 i96 i100 i103 i104)), ((z 94), .inl (T 0, 8, .inl g94))] sz) (Ql (S := Unit) (fun (r : Int64) (_ : Unit) => True) (fun (_ : Unit) => [(a, .inr (11, OX z i1 i2 i3 i4 i5 i6 i7 i8 i30 i43 i45 i46 i47 i48 i49 i50 i51 i58 i59 i65 i68 i69 i72 i78 i80 i81 i82 i87 i92 i96 i100 i103 i104)), ((z 94), .inl (T 0, 8, .inl g94))]) D (va_A [(a, .inr (11, OX z i1 i2 i3 i4 i5 i6 i7 i8 i30 i43 i45 i46 i47 i48 i49 i50 i51 i58 i59 i65 i68 i69 i72 i78 i80 i81 i82 i87 i92 i96 i100 i103 i104)), ((z 94), .inl (T 0, 8, .inl g94))] sz)) 0 0 (va_A [(a, .inr (11, OX z i1 i2 i3 i4 i5 i6 i7 i8 i30 i43 i45 i46 i47 i48 i49 i50 i51 i58 i59 i65 i68 i69 i72 i78 i80 i81 i82 i87 i92 i96 i100 i103 i104)), ((z 94), .inl (T 0, 8, .inl g94))] sz) := by
  refine ct_begin2 (Qc := Ql (S := Unit) (fun (r : Int64) (_ : Unit) => True) (fun (_ : Unit) => [(a, .inr (11, OX z i1 i2 i3 i4 i5 i6 i7 i8 i30 i43 i45 i46 i47 i48 i49 i50 i51 i58 i59 i65 i68 i69 i72 i78 i80 i81 i82 i87 i92 i96 i100 i103 i104)), ((z 94), .inl (T 0, 8, .inl g94))]) D) (by decide +kernel) (Nat.le_of_ble_eq_true rfl) ?_
  intro p e s m below meth c A ls C0 hr hlocks hnm hE hStr hA hP hD hl
  generalize ([.ref a] : List Value).toArray = args at C0 ⊢
  have hx := C0.1
  have hb := C0.2.1
  have hml := C0.2.2.1
  have hown := C0.2.2.2.1
  have hT := C0.2.2.2.2
  have hK := hE.1
  generalize hH : s.heap = H at hP ⊢
  have hS : va_S A s.heap H [] := by rw [← hH]; exact va_S.rf
  have hP : va_P D vwCl [(a, .inr (11, OX z i1 i2 i3 i4 i5 i6 i7 i8 i30 i43 i45 i46 i47 i48 i49 i50 i51 i58 i59 i65 i68 i69 i72 i78 i80 i81 i82 i87 i92 i96 i100 i103 i104)), ((z 94), .inl (T 0, 8, .inl g94))] H := hP
  have hD : va_D A [(a, .inr (11, OX z i1 i2 i3 i4 i5 i6 i7 i8 i30 i43 i45 i46 i47 i48 i49 i50 i51 i58 i59 i65 i68 i69 i72 i78 i80 i81 i82 i87 i92 i96 i100 i103 i104)), ((z 94), .inl (T 0, 8, .inl g94))] := hD
  have hl : lv_has ls 4 [(0, .ref a)] := hl
  refine lv_aload_n hx hb dX11_work_0 rfl (lv_at hl 0 rfl) ?_
  refine r_get (v := .int i92) C0 hE ffX11_92 mw_882 hP 0 rfl ox_92 dX11_work_1 ?_
  refine lv_iconst (v := (-1)) hx hb dX11_work_4 (by decide) ?_
  refine lv_icmp_ne (tgt := 12) hx hb dX11_work_5 (by decide) (fun c24000068 => ?_) (fun c24000068 => ?_)
  · skip
    have kc24000068 : i92.toInt ≠ (-1) := ne_ti rfl (by decide) c24000068
    refine lv_lconst (v := 0) hx hb dX11_work_12 (by decide) ?_
    refine lv_lstore_n (lv' := [(1, .long 0), (0, .ref a)]) hx hb dX11_work_13 rfl hl (by decide) rfl (fun ls hl => ?_)
    refine lv_iconst (v := 0) hx hb dX11_work_14 (by decide) ?_
    refine lv_istore_n (lv' := [(3, .int 0), (1, .long 0), (0, .ref a)]) hx hb dX11_work_15 rfl hl (by decide) rfl (fun ls hl => ?_)
    have L24000129 : ∀ (n : Nat) (x24000122 : Int32) (x24000123 : Int64) (H : Heap) (locs : List Loc) (ls : Array Slot), (0 ≤ x24000122.toInt ∧ x24000122.toInt ≤ 8) → (9 - x24000122.toInt).toNat < n → va_P D vwCl [(a, .inr (11, OX z i1 i2 i3 i4 i5 i6 i7 i8 i30 i43 i45 i46 i47 i48 i49 i50 i51 i58 i59 i65 i68 i69 i72 i78 i80 i81 i82 i87 i92 i96 i100 i103 i104)), ((z 94), .inl (T 0, 8, .inl g94))] H → va_D A [(a, .inr (11, OX z i1 i2 i3 i4 i5 i6 i7 i8 i30 i43 i45 i46 i47 i48 i49 i50 i51 i58 i59 i65 i68 i69 i72 i78 i80 i81 i82 i87 i92 i96 i100 i103 i104)), ((z 94), .inl (T 0, 8, .inl g94))] → va_S A s.heap H locs → lv_has ls 4 [(3, .int x24000122), (1, .long x24000123), (0, .ref a)] → W p l e { frames := 0, cells := 0, slots := 0, locals := 0 } s m args below meth c H locs 0 0 (MQ below ((Ql (S := Unit) (fun (r : Int64) (_ : Unit) => True) (fun (_ : Unit) => [(a, .inr (11, OX z i1 i2 i3 i4 i5 i6 i7 i8 i30 i43 i45 i46 i47 i48 i49 i50 i51 i58 i59 i65 i68 i69 i72 i78 i80 i81 i82 i87 i92 i96 i100 i103 i104)), ((z 94), .inl (T 0, 8, .inl g94))]) D) A) args s 0 0 A) (F0 m 16 ls []) := by
      intro n
      induction n with
      | zero =>
        intro x24000122 x24000123 H locs ls hx24000122 hms hP hD hS hl
        exact absurd hms (Nat.not_lt_zero _)
      | succ n ih24000130 =>
        intro x24000122 x24000123 H locs ls hx24000122 hms hP hD hS hl
        refine lv_iload_n hx hb dX11_work_16 rfl (lv_at hl 0 rfl) ?_
        refine lv_aload_n hx hb dX11_work_17 rfl (lv_at hl 2 rfl) ?_
        refine r_get (v := .int i92) C0 hE ffX11_92 mw_882 hP 0 rfl ox_92 dX11_work_18 ?_
        refine lv_icmp_ge (tgt := 40) hx hb dX11_work_21 (by decide) (fun c24000131 => ?_) (fun c24000131 => ?_)
        · skip
          have kc24000131 : i92.toInt ≤ x24000122.toInt := le_ti rfl rfl c24000131
          refine lv_lload_n hx hb dX11_work_40 rfl (lv_at hl 1 rfl) ?_
          exact r_lret () C0 hr hlocks hS (Nat.le_refl _) (Nat.le_refl _) dX11_work_41 trivial (hP.sub (ws' := [(a, .inr (11, OX z i1 i2 i3 i4 i5 i6 i7 i8 i30 i43 i45 i46 i47 i48 i49 i50 i51 i58 i59 i65 i68 i69 i72 i78 i80 i81 i82 i87 i92 i96 i100 i103 i104)), ((z 94), .inl (T 0, 8, .inl g94))]) [0, 1] rfl) (hD.sub (ws' := [(a, .inr (11, OX z i1 i2 i3 i4 i5 i6 i7 i8 i30 i43 i45 i46 i47 i48 i49 i50 i51 i58 i59 i65 i68 i69 i72 i78 i80 i81 i82 i87 i92 i96 i100 i103 i104)), ((z 94), .inl (T 0, 8, .inl g94))]) [0, 1] (by decide +kernel) rfl)
        · skip
          have kc24000131 : x24000122.toInt < i92.toInt := nle_ti rfl rfl c24000131
          refine lv_lload_n hx hb dX11_work_24 rfl (lv_at hl 1 rfl) ?_
          refine lv_aload_n hx hb dX11_work_25 rfl (lv_at hl 2 rfl) ?_
          refine r_get (v := .ref (z 94)) C0 hE ffX11_94 mw_884 hP 0 rfl ox_94 dX11_work_26 ?_
          refine lv_iload_n hx hb dX11_work_29 rfl (lv_at hl 0 rfl) ?_
          refine va_iald hx hb hK hP 1 0 rfl rfl (in_ti rfl (by omega) (by omega)) dX11_work_30 ?_
          refine lv_topi (fun x24000136 ex24000136 => ?_)
          refine lv_i2l hx hb dX11_work_31 rfl ?_
          refine lv_topl (fun x24000137 ex24000137 => ?_)
          have hx24000137 : x24000137.toInt = x24000136.toInt := by rw [ex24000137]; exact Int32.toInt_toInt64 _
          refine lv_ladd hx hb dX11_work_32 ?_
          refine lv_topl (fun x24000138 ex24000138 => ?_)
          refine lv_lstore_n (lv' := [(1, .long x24000138), (3, .int x24000122), (0, .ref a)]) hx hb dX11_work_33 rfl hl (by decide) rfl (fun ls hl => ?_)
          obtain ⟨x24000139, ex24000139⟩ : ∃ y : Int32, y = x24000122 + 1 := ⟨_, rfl⟩
          have hx24000139 : x24000139.toInt = x24000122.toInt + 1 := ti_add ex24000139 rfl (by decide) (by omega) (by omega)
          refine lv_iinc (v := x24000139) (lv' := [(3, .int x24000139), (1, .long x24000138), (0, .ref a)]) hx hb dX11_work_34 hl (k := 1) rfl (by rw [ex24000139]; rfl) (by decide) rfl (fun ls hl => ?_)
          refine lv_goto (tgt := 16) hx hb dX11_work_37 (by decide) ?_
          exact ih24000130 x24000139 x24000138 _ _ ls ⟨by omega, by omega⟩ (by omega) (hP.sub (ws' := [(a, .inr (11, OX z i1 i2 i3 i4 i5 i6 i7 i8 i30 i43 i45 i46 i47 i48 i49 i50 i51 i58 i59 i65 i68 i69 i72 i78 i80 i81 i82 i87 i92 i96 i100 i103 i104)), ((z 94), .inl (T 0, 8, .inl g94))]) [0, 1] rfl) (hD.sub (ws' := [(a, .inr (11, OX z i1 i2 i3 i4 i5 i6 i7 i8 i30 i43 i45 i46 i47 i48 i49 i50 i51 i58 i59 i65 i68 i69 i72 i78 i80 i81 i82 i87 i92 i96 i100 i103 i104)), ((z 94), .inl (T 0, 8, .inl g94))]) [0, 1] (by decide +kernel) rfl) hS (lv_sub hl [0, 1, 2] rfl)
    exact L24000129 _ 0 0 _ _ ls ⟨by decide, by decide⟩ (Nat.lt_succ_self _) (hP.sub (ws' := [(a, .inr (11, OX z i1 i2 i3 i4 i5 i6 i7 i8 i30 i43 i45 i46 i47 i48 i49 i50 i51 i58 i59 i65 i68 i69 i72 i78 i80 i81 i82 i87 i92 i96 i100 i103 i104)), ((z 94), .inl (T 0, 8, .inl g94))]) [0, 1] rfl) (hD.sub (ws' := [(a, .inr (11, OX z i1 i2 i3 i4 i5 i6 i7 i8 i30 i43 i45 i46 i47 i48 i49 i50 i51 i58 i59 i65 i68 i69 i72 i78 i80 i81 i82 i87 i92 i96 i100 i103 i104)), ((z 94), .inl (T 0, 8, .inl g94))]) [0, 1] (by decide +kernel) rfl) hS (lv_sub hl [0, 1, 2] rfl)
  · skip
    have kc24000068 : i92.toInt = (-1) := eq_ti rfl (by decide) c24000068
    refine lv_ldc2 hx hb hown (hT _ mw_1058) dX11_work_8 ?_
    exact r_lret () C0 hr hlocks hS (Nat.le_refl _) (Nat.le_refl _) dX11_work_11 trivial (hP.sub (ws' := [(a, .inr (11, OX z i1 i2 i3 i4 i5 i6 i7 i8 i30 i43 i45 i46 i47 i48 i49 i50 i51 i58 i59 i65 i68 i69 i72 i78 i80 i81 i82 i87 i92 i96 i100 i103 i104)), ((z 94), .inl (T 0, 8, .inl g94))]) [0, 1] rfl) (hD.sub (ws' := [(a, .inr (11, OX z i1 i2 i3 i4 i5 i6 i7 i8 i30 i43 i45 i46 i47 i48 i49 i50 i51 i58 i59 i65 i68 i69 i72 i78 i80 i81 i82 i87 i92 i96 i100 i103 i104)), ((z 94), .inl (T 0, 8, .inl g94))]) [0, 1] (by decide +kernel) rfl)
set_option maxHeartbeats 4000000 in
set_option maxRecDepth 100000 in
theorem h_X11_patch_24100018 (l : Launch) (D : va_G) (T : Nat → ClassId) (sq sv sz : Nat) (a : Nat) (z : Nat → Nat) (i1 i2 i3 i4 i5 i6 i7 i8 i30 i43 i45 i46 i47 i48 i49 i50 i51 i58 i59 i65 i68 i69 i72 i78 i80 i81 i82 i87 i92 i96 i100 i103 i104 : Int32) (p1 : Int32) (p2 : Int32) (p3 : Int32) (g97 : Nat → Int32) (g98 : Nat → Int32) (g99 : Nat → Int32) (hi96 : 0 ≤ i96.toInt ∧ i96.toInt ≤ 12) : Met l yX11_patch (.code yX11_patch cX11_patch 4 (some .int) :: TB) { frames := 1, cells := 0, slots := 0, locals := 25 } (PC2 D T sq sv [.ref a, .int p1, .int p2, .int p3] [(a, .inr (11, OX z i1 i2 i3 i4 i5 i6 i7 i8 i30 i43 i45 i46 i47 i48 i49 i50 i51 i58 i59 i65 i68 i69 i72 i78 i80 i81 i82 i87 i92 i96 i100 i103 i104)), ((z 97), .inl (T 0, 12, .inl g97)), ((z 98), .inl (T 0, 12, .inl g98)), ((z 99), .inl (T 0, 12, .inl g99))] sz) (Qi (S := Int32 × (Nat → Int32) × (Nat → Int32) × (Nat → Int32)) (fun (r : Int32) (u : Int32 × (Nat → Int32) × (Nat → Int32) × (Nat → Int32)) => match u with | (ui96, ug97, ug98, ug99) => (0 ≤ ui96.toInt ∧ ui96.toInt ≤ 12) ∧ ((((0 ≤ p1.toInt ∧ p1.toInt ≤ 99) ∧ (1 ≤ p2.toInt ∧ p2.toInt ≤ 999) ∧ (1 ≤ p3.toInt ∧ p3.toInt ≤ 999) ∧ i96.toInt < 12) ∧ ui96.toInt = i96.toInt + 1 ∧ r.toInt = i96.toInt + 1) ∨ (¬ ((0 ≤ p1.toInt ∧ p1.toInt ≤ 99) ∧ (1 ≤ p2.toInt ∧ p2.toInt ≤ 999) ∧ (1 ≤ p3.toInt ∧ p3.toInt ≤ 999) ∧ i96.toInt < 12) ∧ ui96.toInt = i96.toInt ∧ r.toInt = -1)) ∧ (-1 ≤ r.toInt ∧ r.toInt ≤ 12)) (fun (u : Int32 × (Nat → Int32) × (Nat → Int32) × (Nat → Int32)) => match u with | (ui96, ug97, ug98, ug99) => [(a, .inr (11, OX z i1 i2 i3 i4 i5 i6 i7 i8 i30 i43 i45 i46 i47 i48 i49 i50 i51 i58 i59 i65 i68 i69 i72 i78 i80 i81 i82 i87 i92 ui96 i100 i103 i104)), ((z 97), .inl (T 0, 12, .inl ug97)), ((z 98), .inl (T 0, 12, .inl ug98)), ((z 99), .inl (T 0, 12, .inl ug99))]) D (va_A [(a, .inr (11, OX z i1 i2 i3 i4 i5 i6 i7 i8 i30 i43 i45 i46 i47 i48 i49 i50 i51 i58 i59 i65 i68 i69 i72 i78 i80 i81 i82 i87 i92 i96 i100 i103 i104)), ((z 97), .inl (T 0, 12, .inl g97)), ((z 98), .inl (T 0, 12, .inl g98)), ((z 99), .inl (T 0, 12, .inl g99))] sz)) 0 0 (va_A [(a, .inr (11, OX z i1 i2 i3 i4 i5 i6 i7 i8 i30 i43 i45 i46 i47 i48 i49 i50 i51 i58 i59 i65 i68 i69 i72 i78 i80 i81 i82 i87 i92 i96 i100 i103 i104)), ((z 97), .inl (T 0, 12, .inl g97)), ((z 98), .inl (T 0, 12, .inl g98)), ((z 99), .inl (T 0, 12, .inl g99))] sz) := by
  refine ct_begin2 (Qc := Qi (S := Int32 × (Nat → Int32) × (Nat → Int32) × (Nat → Int32)) (fun (r : Int32) (u : Int32 × (Nat → Int32) × (Nat → Int32) × (Nat → Int32)) => match u with | (ui96, ug97, ug98, ug99) => (0 ≤ ui96.toInt ∧ ui96.toInt ≤ 12) ∧ ((((0 ≤ p1.toInt ∧ p1.toInt ≤ 99) ∧ (1 ≤ p2.toInt ∧ p2.toInt ≤ 999) ∧ (1 ≤ p3.toInt ∧ p3.toInt ≤ 999) ∧ i96.toInt < 12) ∧ ui96.toInt = i96.toInt + 1 ∧ r.toInt = i96.toInt + 1) ∨ (¬ ((0 ≤ p1.toInt ∧ p1.toInt ≤ 99) ∧ (1 ≤ p2.toInt ∧ p2.toInt ≤ 999) ∧ (1 ≤ p3.toInt ∧ p3.toInt ≤ 999) ∧ i96.toInt < 12) ∧ ui96.toInt = i96.toInt ∧ r.toInt = -1)) ∧ (-1 ≤ r.toInt ∧ r.toInt ≤ 12)) (fun (u : Int32 × (Nat → Int32) × (Nat → Int32) × (Nat → Int32)) => match u with | (ui96, ug97, ug98, ug99) => [(a, .inr (11, OX z i1 i2 i3 i4 i5 i6 i7 i8 i30 i43 i45 i46 i47 i48 i49 i50 i51 i58 i59 i65 i68 i69 i72 i78 i80 i81 i82 i87 i92 ui96 i100 i103 i104)), ((z 97), .inl (T 0, 12, .inl ug97)), ((z 98), .inl (T 0, 12, .inl ug98)), ((z 99), .inl (T 0, 12, .inl ug99))]) D) (by decide +kernel) (Nat.le_of_ble_eq_true rfl) ?_
  intro p e s m below meth c A ls C0 hr hlocks hnm hE hStr hA hP hD hl
  generalize ([.ref a, .int p1, .int p2, .int p3] : List Value).toArray = args at C0 ⊢
  have hx := C0.1
  have hb := C0.2.1
  have hml := C0.2.2.1
  have hown := C0.2.2.2.1
  have hT := C0.2.2.2.2
  have hK := hE.1
  generalize hH : s.heap = H at hP ⊢
  have hS : va_S A s.heap H [] := by rw [← hH]; exact va_S.rf
  have hP : va_P D vwCl [(a, .inr (11, OX z i1 i2 i3 i4 i5 i6 i7 i8 i30 i43 i45 i46 i47 i48 i49 i50 i51 i58 i59 i65 i68 i69 i72 i78 i80 i81 i82 i87 i92 i96 i100 i103 i104)), ((z 97), .inl (T 0, 12, .inl g97)), ((z 98), .inl (T 0, 12, .inl g98)), ((z 99), .inl (T 0, 12, .inl g99))] H := hP
  have hD : va_D A [(a, .inr (11, OX z i1 i2 i3 i4 i5 i6 i7 i8 i30 i43 i45 i46 i47 i48 i49 i50 i51 i58 i59 i65 i68 i69 i72 i78 i80 i81 i82 i87 i92 i96 i100 i103 i104)), ((z 97), .inl (T 0, 12, .inl g97)), ((z 98), .inl (T 0, 12, .inl g98)), ((z 99), .inl (T 0, 12, .inl g99))] := hD
  have hl : lv_has ls 4 [(0, .ref a), (1, .int p1), (2, .int p2), (3, .int p3)] := hl
  refine lv_iload_n hx hb dX11_patch_0 rfl (lv_at hl 1 rfl) ?_
  refine lv_i2l hx hb dX11_patch_1 rfl ?_
  refine lv_topl (fun x24100019 ex24100019 => ?_)
  have hx24100019 : x24100019.toInt = p1.toInt := by rw [ex24100019]; exact Int32.toInt_toInt64 _
  refine lv_lconst (v := 0) hx hb dX11_patch_2 (by decide) ?_
  refine lv_ldc2 hx hb hown (hT _ mw_1029) dX11_patch_3 ?_
  refine r_calli (wr := [(a, .inr (11, OX z i1 i2 i3 i4 i5 i6 i7 i8 i30 i43 i45 i46 i47 i48 i49 i50 i51 i58 i59 i65 i68 i69 i72 i78 i80 i81 i82 i87 i92 i96 i100 i103 i104)), ((z 97), .inl (T 0, 12, .inl g97)), ((z 98), .inl (T 0, 12, .inl g98)), ((z 99), .inl (T 0, 12, .inl g99))]) (r_runS2 (As := [.long x24100019, .long 0, .long 99]) (rest := []) (wc := []) C0 hE hStr hS (va_free (wc := []) hD hS hA [] rfl) (h_X11_isIn_20000007 l D T sq sv H.size x24100019 0 99) mw_910 mw_911 mw_14 mw_912 dn_1704 rfl rfl ⟨Nat.le_of_ble_eq_true rfl, Nat.le_of_ble_eq_true rfl⟩ (hP.sub (ws' := []) [] rfl) (hD.sub (ws' := []) [] (by decide +kernel) rfl) hl.1 rfl (Nat.le_of_ble_eq_true rfl) dX11_patch_6 ⟨Nat.le_of_ble_eq_true rfl, Nat.le_of_ble_eq_true rfl⟩) hP hD hS hA [] [0, 1, 2, 3] rfl rfl (by decide +kernel) (by decide +kernel) (fun x24100020 u H locs hq hP hD hS => ?_)
  obtain ⟨hp24100021, hx24100020⟩ := hq
  have hp24100021 : (x24100020.toInt = 0 ∧ (x24100019.toInt < 0 ∨ 99 < x24100019.toInt)) ∨ (x24100020.toInt = 1 ∧ 0 ≤ x24100019.toInt ∧ x24100019.toInt ≤ 99) := hp24100021
  have hx24100020 : 0 ≤ x24100020.toInt ∧ x24100020.toInt ≤ 1 := hx24100020
  have hl24100022 : (0 : Int64).toInt = 0 := by decide
  have hl24100023 : (99 : Int64).toInt = 99 := by decide
  have hP : va_P D vwCl [(a, .inr (11, OX z i1 i2 i3 i4 i5 i6 i7 i8 i30 i43 i45 i46 i47 i48 i49 i50 i51 i58 i59 i65 i68 i69 i72 i78 i80 i81 i82 i87 i92 i96 i100 i103 i104)), ((z 97), .inl (T 0, 12, .inl g97)), ((z 98), .inl (T 0, 12, .inl g98)), ((z 99), .inl (T 0, 12, .inl g99))] H := hP
  have hD : va_D A [(a, .inr (11, OX z i1 i2 i3 i4 i5 i6 i7 i8 i30 i43 i45 i46 i47 i48 i49 i50 i51 i58 i59 i65 i68 i69 i72 i78 i80 i81 i82 i87 i92 i96 i100 i103 i104)), ((z 97), .inl (T 0, 12, .inl g97)), ((z 98), .inl (T 0, 12, .inl g98)), ((z 99), .inl (T 0, 12, .inl g99))] := hD
  refine W.widen (k := 0) (n := 0) (Nat.le_refl _) (Nat.le_refl _) ?_
  refine lv_if_eq (tgt := 45) hx hb dX11_patch_9 (by decide) (fun c24100024 => ?_) (fun c24100024 => ?_)
  · skip
    have kc24100024 : x24100020.toInt = 0 := eq_ti rfl (by decide) c24100024
    refine lv_iconst (v := (-1)) hx hb dX11_patch_45 (by decide) ?_
    have hl24100025 : ((-1) : Int32).toInt = -1 := by decide
    exact r_iret (i96, g97, g98, g99) C0 hr hlocks hS (Nat.le_refl _) (Nat.le_refl _) dX11_patch_46 ⟨⟨by omega, by omega⟩, (by omega), ⟨by decide, by decide⟩⟩ (hP.sub (ws' := [(a, .inr (11, OX z i1 i2 i3 i4 i5 i6 i7 i8 i30 i43 i45 i46 i47 i48 i49 i50 i51 i58 i59 i65 i68 i69 i72 i78 i80 i81 i82 i87 i92 i96 i100 i103 i104)), ((z 97), .inl (T 0, 12, .inl g97)), ((z 98), .inl (T 0, 12, .inl g98)), ((z 99), .inl (T 0, 12, .inl g99))]) [0, 1, 2, 3] rfl) (hD.sub (ws' := [(a, .inr (11, OX z i1 i2 i3 i4 i5 i6 i7 i8 i30 i43 i45 i46 i47 i48 i49 i50 i51 i58 i59 i65 i68 i69 i72 i78 i80 i81 i82 i87 i92 i96 i100 i103 i104)), ((z 97), .inl (T 0, 12, .inl g97)), ((z 98), .inl (T 0, 12, .inl g98)), ((z 99), .inl (T 0, 12, .inl g99))]) [0, 1, 2, 3] (by decide +kernel) rfl)
  · skip
    have kc24100024 : x24100020.toInt ≠ 0 := ne_ti rfl (by decide) c24100024
    have nzx24100020 : ¬ x24100020 = 0 := c24100024
    refine lv_iload_n hx hb dX11_patch_12 rfl (lv_at hl 2 rfl) ?_
    refine lv_i2l hx hb dX11_patch_13 rfl ?_
    refine lv_topl (fun x24100026 ex24100026 => ?_)
    have hx24100026 : x24100026.toInt = p2.toInt := by rw [ex24100026]; exact Int32.toInt_toInt64 _
    refine lv_lconst (v := 1) hx hb dX11_patch_14 (by decide) ?_
    refine lv_ldc2 hx hb hown (hT _ mw_1209) dX11_patch_15 ?_
    refine r_calli (wr := [(a, .inr (11, OX z i1 i2 i3 i4 i5 i6 i7 i8 i30 i43 i45 i46 i47 i48 i49 i50 i51 i58 i59 i65 i68 i69 i72 i78 i80 i81 i82 i87 i92 i96 i100 i103 i104)), ((z 97), .inl (T 0, 12, .inl g97)), ((z 98), .inl (T 0, 12, .inl g98)), ((z 99), .inl (T 0, 12, .inl g99))]) (r_runS2 (As := [.long x24100026, .long 1, .long 999]) (rest := []) (wc := []) C0 hE hStr hS (va_free (wc := []) hD hS hA [] rfl) (h_X11_isIn_20000007 l D T sq sv H.size x24100026 1 999) mw_910 mw_911 mw_14 mw_912 dn_1704 rfl rfl ⟨Nat.le_of_ble_eq_true rfl, Nat.le_of_ble_eq_true rfl⟩ (hP.sub (ws' := []) [] rfl) (hD.sub (ws' := []) [] (by decide +kernel) rfl) hl.1 rfl (Nat.le_of_ble_eq_true rfl) dX11_patch_18 ⟨Nat.le_of_ble_eq_true rfl, Nat.le_of_ble_eq_true rfl⟩) hP hD hS hA [] [0, 1, 2, 3] rfl rfl (by decide +kernel) (by decide +kernel) (fun x24100027 u H locs hq hP hD hS => ?_)
    obtain ⟨hp24100028, hx24100027⟩ := hq
    have hp24100028 : (x24100027.toInt = 0 ∧ (x24100026.toInt < 1 ∨ 999 < x24100026.toInt)) ∨ (x24100027.toInt = 1 ∧ 1 ≤ x24100026.toInt ∧ x24100026.toInt ≤ 999) := hp24100028
    have hx24100027 : 0 ≤ x24100027.toInt ∧ x24100027.toInt ≤ 1 := hx24100027
    have hl24100029 : (1 : Int64).toInt = 1 := by decide
    have hl24100030 : (999 : Int64).toInt = 999 := by decide
    have hP : va_P D vwCl [(a, .inr (11, OX z i1 i2 i3 i4 i5 i6 i7 i8 i30 i43 i45 i46 i47 i48 i49 i50 i51 i58 i59 i65 i68 i69 i72 i78 i80 i81 i82 i87 i92 i96 i100 i103 i104)), ((z 97), .inl (T 0, 12, .inl g97)), ((z 98), .inl (T 0, 12, .inl g98)), ((z 99), .inl (T 0, 12, .inl g99))] H := hP
    have hD : va_D A [(a, .inr (11, OX z i1 i2 i3 i4 i5 i6 i7 i8 i30 i43 i45 i46 i47 i48 i49 i50 i51 i58 i59 i65 i68 i69 i72 i78 i80 i81 i82 i87 i92 i96 i100 i103 i104)), ((z 97), .inl (T 0, 12, .inl g97)), ((z 98), .inl (T 0, 12, .inl g98)), ((z 99), .inl (T 0, 12, .inl g99))] := hD
    refine W.widen (k := 0) (n := 0) (Nat.le_refl _) (Nat.le_refl _) ?_
    refine lv_if_eq (tgt := 45) hx hb dX11_patch_21 (by decide) (fun c24100031 => ?_) (fun c24100031 => ?_)
    · skip
      have kc24100031 : x24100027.toInt = 0 := eq_ti rfl (by decide) c24100031
      refine lv_iconst (v := (-1)) hx hb dX11_patch_45 (by decide) ?_
      have hl24100032 : ((-1) : Int32).toInt = -1 := by decide
      exact r_iret (i96, g97, g98, g99) C0 hr hlocks hS (Nat.le_refl _) (Nat.le_refl _) dX11_patch_46 ⟨⟨by omega, by omega⟩, (by omega), ⟨by decide, by decide⟩⟩ (hP.sub (ws' := [(a, .inr (11, OX z i1 i2 i3 i4 i5 i6 i7 i8 i30 i43 i45 i46 i47 i48 i49 i50 i51 i58 i59 i65 i68 i69 i72 i78 i80 i81 i82 i87 i92 i96 i100 i103 i104)), ((z 97), .inl (T 0, 12, .inl g97)), ((z 98), .inl (T 0, 12, .inl g98)), ((z 99), .inl (T 0, 12, .inl g99))]) [0, 1, 2, 3] rfl) (hD.sub (ws' := [(a, .inr (11, OX z i1 i2 i3 i4 i5 i6 i7 i8 i30 i43 i45 i46 i47 i48 i49 i50 i51 i58 i59 i65 i68 i69 i72 i78 i80 i81 i82 i87 i92 i96 i100 i103 i104)), ((z 97), .inl (T 0, 12, .inl g97)), ((z 98), .inl (T 0, 12, .inl g98)), ((z 99), .inl (T 0, 12, .inl g99))]) [0, 1, 2, 3] (by decide +kernel) rfl)
    · skip
      have kc24100031 : x24100027.toInt ≠ 0 := ne_ti rfl (by decide) c24100031
      have nzx24100027 : ¬ x24100027 = 0 := c24100031
      refine lv_iload_n hx hb dX11_patch_24 rfl (lv_at hl 3 rfl) ?_
      refine lv_i2l hx hb dX11_patch_25 rfl ?_
      refine lv_topl (fun x24100033 ex24100033 => ?_)
      have hx24100033 : x24100033.toInt = p3.toInt := by rw [ex24100033]; exact Int32.toInt_toInt64 _
      refine lv_lconst (v := 1) hx hb dX11_patch_26 (by decide) ?_
      refine lv_ldc2 hx hb hown (hT _ mw_1209) dX11_patch_27 ?_
      refine r_calli (wr := [(a, .inr (11, OX z i1 i2 i3 i4 i5 i6 i7 i8 i30 i43 i45 i46 i47 i48 i49 i50 i51 i58 i59 i65 i68 i69 i72 i78 i80 i81 i82 i87 i92 i96 i100 i103 i104)), ((z 97), .inl (T 0, 12, .inl g97)), ((z 98), .inl (T 0, 12, .inl g98)), ((z 99), .inl (T 0, 12, .inl g99))]) (r_runS2 (As := [.long x24100033, .long 1, .long 999]) (rest := []) (wc := []) C0 hE hStr hS (va_free (wc := []) hD hS hA [] rfl) (h_X11_isIn_20000007 l D T sq sv H.size x24100033 1 999) mw_910 mw_911 mw_14 mw_912 dn_1704 rfl rfl ⟨Nat.le_of_ble_eq_true rfl, Nat.le_of_ble_eq_true rfl⟩ (hP.sub (ws' := []) [] rfl) (hD.sub (ws' := []) [] (by decide +kernel) rfl) hl.1 rfl (Nat.le_of_ble_eq_true rfl) dX11_patch_30 ⟨Nat.le_of_ble_eq_true rfl, Nat.le_of_ble_eq_true rfl⟩) hP hD hS hA [] [0, 1, 2, 3] rfl rfl (by decide +kernel) (by decide +kernel) (fun x24100034 u H locs hq hP hD hS => ?_)
      obtain ⟨hp24100035, hx24100034⟩ := hq
      have hp24100035 : (x24100034.toInt = 0 ∧ (x24100033.toInt < 1 ∨ 999 < x24100033.toInt)) ∨ (x24100034.toInt = 1 ∧ 1 ≤ x24100033.toInt ∧ x24100033.toInt ≤ 999) := hp24100035
      have hx24100034 : 0 ≤ x24100034.toInt ∧ x24100034.toInt ≤ 1 := hx24100034
      have hl24100036 : (1 : Int64).toInt = 1 := by decide
      have hl24100037 : (999 : Int64).toInt = 999 := by decide
      have hP : va_P D vwCl [(a, .inr (11, OX z i1 i2 i3 i4 i5 i6 i7 i8 i30 i43 i45 i46 i47 i48 i49 i50 i51 i58 i59 i65 i68 i69 i72 i78 i80 i81 i82 i87 i92 i96 i100 i103 i104)), ((z 97), .inl (T 0, 12, .inl g97)), ((z 98), .inl (T 0, 12, .inl g98)), ((z 99), .inl (T 0, 12, .inl g99))] H := hP
      have hD : va_D A [(a, .inr (11, OX z i1 i2 i3 i4 i5 i6 i7 i8 i30 i43 i45 i46 i47 i48 i49 i50 i51 i58 i59 i65 i68 i69 i72 i78 i80 i81 i82 i87 i92 i96 i100 i103 i104)), ((z 97), .inl (T 0, 12, .inl g97)), ((z 98), .inl (T 0, 12, .inl g98)), ((z 99), .inl (T 0, 12, .inl g99))] := hD
      refine W.widen (k := 0) (n := 0) (Nat.le_refl _) (Nat.le_refl _) ?_
      refine lv_if_eq (tgt := 45) hx hb dX11_patch_33 (by decide) (fun c24100038 => ?_) (fun c24100038 => ?_)
      · skip
        have kc24100038 : x24100034.toInt = 0 := eq_ti rfl (by decide) c24100038
        refine lv_iconst (v := (-1)) hx hb dX11_patch_45 (by decide) ?_
        have hl24100039 : ((-1) : Int32).toInt = -1 := by decide
        exact r_iret (i96, g97, g98, g99) C0 hr hlocks hS (Nat.le_refl _) (Nat.le_refl _) dX11_patch_46 ⟨⟨by omega, by omega⟩, (by omega), ⟨by decide, by decide⟩⟩ (hP.sub (ws' := [(a, .inr (11, OX z i1 i2 i3 i4 i5 i6 i7 i8 i30 i43 i45 i46 i47 i48 i49 i50 i51 i58 i59 i65 i68 i69 i72 i78 i80 i81 i82 i87 i92 i96 i100 i103 i104)), ((z 97), .inl (T 0, 12, .inl g97)), ((z 98), .inl (T 0, 12, .inl g98)), ((z 99), .inl (T 0, 12, .inl g99))]) [0, 1, 2, 3] rfl) (hD.sub (ws' := [(a, .inr (11, OX z i1 i2 i3 i4 i5 i6 i7 i8 i30 i43 i45 i46 i47 i48 i49 i50 i51 i58 i59 i65 i68 i69 i72 i78 i80 i81 i82 i87 i92 i96 i100 i103 i104)), ((z 97), .inl (T 0, 12, .inl g97)), ((z 98), .inl (T 0, 12, .inl g98)), ((z 99), .inl (T 0, 12, .inl g99))]) [0, 1, 2, 3] (by decide +kernel) rfl)
      · skip
        have kc24100038 : x24100034.toInt ≠ 0 := ne_ti rfl (by decide) c24100038
        have nzx24100034 : ¬ x24100034 = 0 := c24100038
        refine lv_aload_n hx hb dX11_patch_36 rfl (lv_at hl 0 rfl) ?_
        refine r_get (v := .int i96) C0 hE ffX11_96 mw_886 hP 0 rfl ox_96 dX11_patch_37 ?_
        refine lv_bipush (v := 12) hx hb dX11_patch_40 (by decide) ?_
        refine lv_icmp_ne (tgt := 47) hx hb dX11_patch_42 (by decide) (fun c24100040 => ?_) (fun c24100040 => ?_)
        · skip
          have kc24100040 : i96.toInt ≠ 12 := ne_ti rfl (by decide) c24100040
          refine lv_aload_n hx hb dX11_patch_47 rfl (lv_at hl 0 rfl) ?_
          refine r_get (v := .ref (z 97)) C0 hE ffX11_97 mw_887 hP 0 rfl ox_97 dX11_patch_48 ?_
          refine lv_aload_n hx hb dX11_patch_51 rfl (lv_at hl 0 rfl) ?_
          refine r_get (v := .int i96) C0 hE ffX11_96 mw_886 hP 0 rfl ox_96 dX11_patch_52 ?_
          refine lv_iload_n hx hb dX11_patch_55 rfl (lv_at hl 1 rfl) ?_
          refine r_iastX hx hb hK hP hD hS 1 rfl (in_ti rfl (by omega) (by omega)) dX11_patch_56 (fun f24100041 ef24100041 H locs hP hD hS => ?_)
          have hP : va_P D vwCl [(a, .inr (11, OX z i1 i2 i3 i4 i5 i6 i7 i8 i30 i43 i45 i46 i47 i48 i49 i50 i51 i58 i59 i65 i68 i69 i72 i78 i80 i81 i82 i87 i92 i96 i100 i103 i104)), ((z 97), .inl (T 0, 12, .inl f24100041)), ((z 98), .inl (T 0, 12, .inl g98)), ((z 99), .inl (T 0, 12, .inl g99))] H := hP
          have hD : va_D A [(a, .inr (11, OX z i1 i2 i3 i4 i5 i6 i7 i8 i30 i43 i45 i46 i47 i48 i49 i50 i51 i58 i59 i65 i68 i69 i72 i78 i80 i81 i82 i87 i92 i96 i100 i103 i104)), ((z 97), .inl (T 0, 12, .inl f24100041)), ((z 98), .inl (T 0, 12, .inl g98)), ((z 99), .inl (T 0, 12, .inl g99))] := hD
          refine lv_aload_n hx hb dX11_patch_57 rfl (lv_at hl 0 rfl) ?_
          refine r_get (v := .ref (z 98)) C0 hE ffX11_98 mw_888 hP 0 rfl ox_98 dX11_patch_58 ?_
          refine lv_aload_n hx hb dX11_patch_61 rfl (lv_at hl 0 rfl) ?_
          refine r_get (v := .int i96) C0 hE ffX11_96 mw_886 hP 0 rfl ox_96 dX11_patch_62 ?_
          refine lv_iload_n hx hb dX11_patch_65 rfl (lv_at hl 2 rfl) ?_
          refine r_iastX hx hb hK hP hD hS 2 rfl (in_ti rfl (by omega) (by omega)) dX11_patch_66 (fun f24100042 ef24100042 H locs hP hD hS => ?_)
          have hP : va_P D vwCl [(a, .inr (11, OX z i1 i2 i3 i4 i5 i6 i7 i8 i30 i43 i45 i46 i47 i48 i49 i50 i51 i58 i59 i65 i68 i69 i72 i78 i80 i81 i82 i87 i92 i96 i100 i103 i104)), ((z 97), .inl (T 0, 12, .inl f24100041)), ((z 98), .inl (T 0, 12, .inl f24100042)), ((z 99), .inl (T 0, 12, .inl g99))] H := hP
          have hD : va_D A [(a, .inr (11, OX z i1 i2 i3 i4 i5 i6 i7 i8 i30 i43 i45 i46 i47 i48 i49 i50 i51 i58 i59 i65 i68 i69 i72 i78 i80 i81 i82 i87 i92 i96 i100 i103 i104)), ((z 97), .inl (T 0, 12, .inl f24100041)), ((z 98), .inl (T 0, 12, .inl f24100042)), ((z 99), .inl (T 0, 12, .inl g99))] := hD
          refine lv_aload_n hx hb dX11_patch_67 rfl (lv_at hl 0 rfl) ?_
          refine r_get (v := .ref (z 99)) C0 hE ffX11_99 mw_889 hP 0 rfl ox_99 dX11_patch_68 ?_
          refine lv_aload_n hx hb dX11_patch_71 rfl (lv_at hl 0 rfl) ?_
          refine r_get (v := .int i96) C0 hE ffX11_96 mw_886 hP 0 rfl ox_96 dX11_patch_72 ?_
          refine lv_iload_n hx hb dX11_patch_75 rfl (lv_at hl 3 rfl) ?_
          refine r_iastX hx hb hK hP hD hS 3 rfl (in_ti rfl (by omega) (by omega)) dX11_patch_76 (fun f24100043 ef24100043 H locs hP hD hS => ?_)
          have hP : va_P D vwCl [(a, .inr (11, OX z i1 i2 i3 i4 i5 i6 i7 i8 i30 i43 i45 i46 i47 i48 i49 i50 i51 i58 i59 i65 i68 i69 i72 i78 i80 i81 i82 i87 i92 i96 i100 i103 i104)), ((z 97), .inl (T 0, 12, .inl f24100041)), ((z 98), .inl (T 0, 12, .inl f24100042)), ((z 99), .inl (T 0, 12, .inl f24100043))] H := hP
          have hD : va_D A [(a, .inr (11, OX z i1 i2 i3 i4 i5 i6 i7 i8 i30 i43 i45 i46 i47 i48 i49 i50 i51 i58 i59 i65 i68 i69 i72 i78 i80 i81 i82 i87 i92 i96 i100 i103 i104)), ((z 97), .inl (T 0, 12, .inl f24100041)), ((z 98), .inl (T 0, 12, .inl f24100042)), ((z 99), .inl (T 0, 12, .inl f24100043))] := hD
          refine lv_aload_n hx hb dX11_patch_77 rfl (lv_at hl 0 rfl) ?_
          refine lv_dup hx hb dX11_patch_78 rfl ?_
          refine r_get (v := .int i96) C0 hE ffX11_96 mw_886 hP 0 rfl ox_96 dX11_patch_79 ?_
          refine lv_iconst (v := 1) hx hb dX11_patch_82 (by decide) ?_
          refine lv_iadd hx hb dX11_patch_83 ?_
          refine lv_topi (fun x24100044 ex24100044 => ?_)
          have hx24100044 : x24100044.toInt = i96.toInt + 1 := ti_add ex24100044 rfl (by decide) (by omega) (by omega)
          refine r_put (v := .int x24100044) (ty := .int) (ws1 := [(a, .inr (11, OX z i1 i2 i3 i4 i5 i6 i7 i8 i30 i43 i45 i46 i47 i48 i49 i50 i51 i58 i59 i65 i68 i69 i72 i78 i80 i81 i82 i87 i92 x24100044 i100 i103 i104)), ((z 97), .inl (T 0, 12, .inl f24100041)), ((z 98), .inl (T 0, 12, .inl f24100042)), ((z 99), .inl (T 0, 12, .inl f24100043))]) C0 hE ffX11_96 tyX11 tyX11_ok nmX11 mw_886 pf_1358 hP hD hS 0 rfl rfl rfl ol_96 os_96 rfl dX11_patch_84 (fun H locs hP hD hS => ?_)
          refine lv_aload_n hx hb dX11_patch_87 rfl (lv_at hl 0 rfl) ?_
          refine r_get (v := .int x24100044) C0 hE ffX11_96 mw_886 hP 0 rfl ox_96 dX11_patch_88 ?_
          exact r_iret (x24100044, f24100041, f24100042, f24100043) C0 hr hlocks hS (Nat.le_refl _) (Nat.le_refl _) dX11_patch_91 ⟨⟨by omega, by omega⟩, (by omega), ⟨by omega, by omega⟩⟩ (hP.sub (ws' := [(a, .inr (11, OX z i1 i2 i3 i4 i5 i6 i7 i8 i30 i43 i45 i46 i47 i48 i49 i50 i51 i58 i59 i65 i68 i69 i72 i78 i80 i81 i82 i87 i92 x24100044 i100 i103 i104)), ((z 97), .inl (T 0, 12, .inl f24100041)), ((z 98), .inl (T 0, 12, .inl f24100042)), ((z 99), .inl (T 0, 12, .inl f24100043))]) [0, 1, 2, 3] rfl) (hD.sub (ws' := [(a, .inr (11, OX z i1 i2 i3 i4 i5 i6 i7 i8 i30 i43 i45 i46 i47 i48 i49 i50 i51 i58 i59 i65 i68 i69 i72 i78 i80 i81 i82 i87 i92 x24100044 i100 i103 i104)), ((z 97), .inl (T 0, 12, .inl f24100041)), ((z 98), .inl (T 0, 12, .inl f24100042)), ((z 99), .inl (T 0, 12, .inl f24100043))]) [0, 1, 2, 3] (by decide +kernel) rfl)
        · skip
          have kc24100040 : i96.toInt = 12 := eq_ti rfl (by decide) c24100040
          refine lv_iconst (v := (-1)) hx hb dX11_patch_45 (by decide) ?_
          have hl24100045 : ((-1) : Int32).toInt = -1 := by decide
          exact r_iret (i96, g97, g98, g99) C0 hr hlocks hS (Nat.le_refl _) (Nat.le_refl _) dX11_patch_46 ⟨⟨by omega, by omega⟩, (by omega), ⟨by decide, by decide⟩⟩ (hP.sub (ws' := [(a, .inr (11, OX z i1 i2 i3 i4 i5 i6 i7 i8 i30 i43 i45 i46 i47 i48 i49 i50 i51 i58 i59 i65 i68 i69 i72 i78 i80 i81 i82 i87 i92 i96 i100 i103 i104)), ((z 97), .inl (T 0, 12, .inl g97)), ((z 98), .inl (T 0, 12, .inl g98)), ((z 99), .inl (T 0, 12, .inl g99))]) [0, 1, 2, 3] rfl) (hD.sub (ws' := [(a, .inr (11, OX z i1 i2 i3 i4 i5 i6 i7 i8 i30 i43 i45 i46 i47 i48 i49 i50 i51 i58 i59 i65 i68 i69 i72 i78 i80 i81 i82 i87 i92 i96 i100 i103 i104)), ((z 97), .inl (T 0, 12, .inl g97)), ((z 98), .inl (T 0, 12, .inl g98)), ((z 99), .inl (T 0, 12, .inl g99))]) [0, 1, 2, 3] (by decide +kernel) rfl)
set_option maxHeartbeats 4000000 in
set_option maxRecDepth 100000 in
theorem h_X11_force_24200013 (l : Launch) (D : va_G) (T : Nat → ClassId) (sq sv sz : Nat) (a : Nat) (z : Nat → Nat) (i1 i2 i3 i4 i5 i6 i7 i8 i30 i43 i45 i46 i47 i48 i49 i50 i51 i58 i59 i65 i68 i69 i72 i78 i80 i81 i82 i87 i92 i96 i100 i103 i104 : Int32) (p1 : Int32) (p2 : Int32) (g101 : Nat → Int32) (g102 : Nat → Int32) (hi100 : 0 ≤ i100.toInt ∧ i100.toInt ≤ 8) : Met l yX11_force (.code yX11_force cX11_force 3 (some .int) :: TB) { frames := 1, cells := 0, slots := 0, locals := 25 } (PC2 D T sq sv [.ref a, .int p1, .int p2] [(a, .inr (11, OX z i1 i2 i3 i4 i5 i6 i7 i8 i30 i43 i45 i46 i47 i48 i49 i50 i51 i58 i59 i65 i68 i69 i72 i78 i80 i81 i82 i87 i92 i96 i100 i103 i104)), ((z 101), .inl (T 0, 8, .inl g101)), ((z 102), .inl (T 0, 8, .inl g102))] sz) (Qi (S := Int32 × (Nat → Int32) × (Nat → Int32)) (fun (r : Int32) (u : Int32 × (Nat → Int32) × (Nat → Int32)) => match u with | (ui100, ug101, ug102) => (0 ≤ ui100.toInt ∧ ui100.toInt ≤ 8) ∧ ((((0 ≤ p1.toInt ∧ p1.toInt ≤ 99) ∧ (1 ≤ p2.toInt ∧ p2.toInt ≤ 9999) ∧ i100.toInt < 8) ∧ ui100.toInt = i100.toInt + 1 ∧ r.toInt = i100.toInt + 1) ∨ (¬ ((0 ≤ p1.toInt ∧ p1.toInt ≤ 99) ∧ (1 ≤ p2.toInt ∧ p2.toInt ≤ 9999) ∧ i100.toInt < 8) ∧ ui100.toInt = i100.toInt ∧ r.toInt = -1)) ∧ (-1 ≤ r.toInt ∧ r.toInt ≤ 8)) (fun (u : Int32 × (Nat → Int32) × (Nat → Int32)) => match u with | (ui100, ug101, ug102) => [(a, .inr (11, OX z i1 i2 i3 i4 i5 i6 i7 i8 i30 i43 i45 i46 i47 i48 i49 i50 i51 i58 i59 i65 i68 i69 i72 i78 i80 i81 i82 i87 i92 i96 ui100 i103 i104)), ((z 101), .inl (T 0, 8, .inl ug101)), ((z 102), .inl (T 0, 8, .inl ug102))]) D (va_A [(a, .inr (11, OX z i1 i2 i3 i4 i5 i6 i7 i8 i30 i43 i45 i46 i47 i48 i49 i50 i51 i58 i59 i65 i68 i69 i72 i78 i80 i81 i82 i87 i92 i96 i100 i103 i104)), ((z 101), .inl (T 0, 8, .inl g101)), ((z 102), .inl (T 0, 8, .inl g102))] sz)) 0 0 (va_A [(a, .inr (11, OX z i1 i2 i3 i4 i5 i6 i7 i8 i30 i43 i45 i46 i47 i48 i49 i50 i51 i58 i59 i65 i68 i69 i72 i78 i80 i81 i82 i87 i92 i96 i100 i103 i104)), ((z 101), .inl (T 0, 8, .inl g101)), ((z 102), .inl (T 0, 8, .inl g102))] sz) := by
  refine ct_begin2 (Qc := Qi (S := Int32 × (Nat → Int32) × (Nat → Int32)) (fun (r : Int32) (u : Int32 × (Nat → Int32) × (Nat → Int32)) => match u with | (ui100, ug101, ug102) => (0 ≤ ui100.toInt ∧ ui100.toInt ≤ 8) ∧ ((((0 ≤ p1.toInt ∧ p1.toInt ≤ 99) ∧ (1 ≤ p2.toInt ∧ p2.toInt ≤ 9999) ∧ i100.toInt < 8) ∧ ui100.toInt = i100.toInt + 1 ∧ r.toInt = i100.toInt + 1) ∨ (¬ ((0 ≤ p1.toInt ∧ p1.toInt ≤ 99) ∧ (1 ≤ p2.toInt ∧ p2.toInt ≤ 9999) ∧ i100.toInt < 8) ∧ ui100.toInt = i100.toInt ∧ r.toInt = -1)) ∧ (-1 ≤ r.toInt ∧ r.toInt ≤ 8)) (fun (u : Int32 × (Nat → Int32) × (Nat → Int32)) => match u with | (ui100, ug101, ug102) => [(a, .inr (11, OX z i1 i2 i3 i4 i5 i6 i7 i8 i30 i43 i45 i46 i47 i48 i49 i50 i51 i58 i59 i65 i68 i69 i72 i78 i80 i81 i82 i87 i92 i96 ui100 i103 i104)), ((z 101), .inl (T 0, 8, .inl ug101)), ((z 102), .inl (T 0, 8, .inl ug102))]) D) (by decide +kernel) (Nat.le_of_ble_eq_true rfl) ?_
  intro p e s m below meth c A ls C0 hr hlocks hnm hE hStr hA hP hD hl
  generalize ([.ref a, .int p1, .int p2] : List Value).toArray = args at C0 ⊢
  have hx := C0.1
  have hb := C0.2.1
  have hml := C0.2.2.1
  have hown := C0.2.2.2.1
  have hT := C0.2.2.2.2
  have hK := hE.1
  generalize hH : s.heap = H at hP ⊢
  have hS : va_S A s.heap H [] := by rw [← hH]; exact va_S.rf
  have hP : va_P D vwCl [(a, .inr (11, OX z i1 i2 i3 i4 i5 i6 i7 i8 i30 i43 i45 i46 i47 i48 i49 i50 i51 i58 i59 i65 i68 i69 i72 i78 i80 i81 i82 i87 i92 i96 i100 i103 i104)), ((z 101), .inl (T 0, 8, .inl g101)), ((z 102), .inl (T 0, 8, .inl g102))] H := hP
  have hD : va_D A [(a, .inr (11, OX z i1 i2 i3 i4 i5 i6 i7 i8 i30 i43 i45 i46 i47 i48 i49 i50 i51 i58 i59 i65 i68 i69 i72 i78 i80 i81 i82 i87 i92 i96 i100 i103 i104)), ((z 101), .inl (T 0, 8, .inl g101)), ((z 102), .inl (T 0, 8, .inl g102))] := hD
  have hl : lv_has ls 3 [(0, .ref a), (1, .int p1), (2, .int p2)] := hl
  refine lv_iload_n hx hb dX11_force_0 rfl (lv_at hl 1 rfl) ?_
  refine lv_i2l hx hb dX11_force_1 rfl ?_
  refine lv_topl (fun x24200014 ex24200014 => ?_)
  have hx24200014 : x24200014.toInt = p1.toInt := by rw [ex24200014]; exact Int32.toInt_toInt64 _
  refine lv_lconst (v := 0) hx hb dX11_force_2 (by decide) ?_
  refine lv_ldc2 hx hb hown (hT _ mw_1029) dX11_force_3 ?_
  refine r_calli (wr := [(a, .inr (11, OX z i1 i2 i3 i4 i5 i6 i7 i8 i30 i43 i45 i46 i47 i48 i49 i50 i51 i58 i59 i65 i68 i69 i72 i78 i80 i81 i82 i87 i92 i96 i100 i103 i104)), ((z 101), .inl (T 0, 8, .inl g101)), ((z 102), .inl (T 0, 8, .inl g102))]) (r_runS2 (As := [.long x24200014, .long 0, .long 99]) (rest := []) (wc := []) C0 hE hStr hS (va_free (wc := []) hD hS hA [] rfl) (h_X11_isIn_20000007 l D T sq sv H.size x24200014 0 99) mw_910 mw_911 mw_14 mw_912 dn_1704 rfl rfl ⟨Nat.le_of_ble_eq_true rfl, Nat.le_of_ble_eq_true rfl⟩ (hP.sub (ws' := []) [] rfl) (hD.sub (ws' := []) [] (by decide +kernel) rfl) hl.1 rfl (Nat.le_of_ble_eq_true rfl) dX11_force_6 ⟨Nat.le_of_ble_eq_true rfl, Nat.le_of_ble_eq_true rfl⟩) hP hD hS hA [] [0, 1, 2] rfl rfl (by decide +kernel) (by decide +kernel) (fun x24200015 u H locs hq hP hD hS => ?_)
  obtain ⟨hp24200016, hx24200015⟩ := hq
  have hp24200016 : (x24200015.toInt = 0 ∧ (x24200014.toInt < 0 ∨ 99 < x24200014.toInt)) ∨ (x24200015.toInt = 1 ∧ 0 ≤ x24200014.toInt ∧ x24200014.toInt ≤ 99) := hp24200016
  have hx24200015 : 0 ≤ x24200015.toInt ∧ x24200015.toInt ≤ 1 := hx24200015
  have hl24200017 : (0 : Int64).toInt = 0 := by decide
  have hl24200018 : (99 : Int64).toInt = 99 := by decide
  have hP : va_P D vwCl [(a, .inr (11, OX z i1 i2 i3 i4 i5 i6 i7 i8 i30 i43 i45 i46 i47 i48 i49 i50 i51 i58 i59 i65 i68 i69 i72 i78 i80 i81 i82 i87 i92 i96 i100 i103 i104)), ((z 101), .inl (T 0, 8, .inl g101)), ((z 102), .inl (T 0, 8, .inl g102))] H := hP
  have hD : va_D A [(a, .inr (11, OX z i1 i2 i3 i4 i5 i6 i7 i8 i30 i43 i45 i46 i47 i48 i49 i50 i51 i58 i59 i65 i68 i69 i72 i78 i80 i81 i82 i87 i92 i96 i100 i103 i104)), ((z 101), .inl (T 0, 8, .inl g101)), ((z 102), .inl (T 0, 8, .inl g102))] := hD
  refine W.widen (k := 0) (n := 0) (Nat.le_refl _) (Nat.le_refl _) ?_
  refine lv_if_eq (tgt := 33) hx hb dX11_force_9 (by decide) (fun c24200019 => ?_) (fun c24200019 => ?_)
  · skip
    have kc24200019 : x24200015.toInt = 0 := eq_ti rfl (by decide) c24200019
    refine lv_iconst (v := (-1)) hx hb dX11_force_33 (by decide) ?_
    have hl24200020 : ((-1) : Int32).toInt = -1 := by decide
    exact r_iret (i100, g101, g102) C0 hr hlocks hS (Nat.le_refl _) (Nat.le_refl _) dX11_force_34 ⟨⟨by omega, by omega⟩, (by omega), ⟨by decide, by decide⟩⟩ (hP.sub (ws' := [(a, .inr (11, OX z i1 i2 i3 i4 i5 i6 i7 i8 i30 i43 i45 i46 i47 i48 i49 i50 i51 i58 i59 i65 i68 i69 i72 i78 i80 i81 i82 i87 i92 i96 i100 i103 i104)), ((z 101), .inl (T 0, 8, .inl g101)), ((z 102), .inl (T 0, 8, .inl g102))]) [0, 1, 2] rfl) (hD.sub (ws' := [(a, .inr (11, OX z i1 i2 i3 i4 i5 i6 i7 i8 i30 i43 i45 i46 i47 i48 i49 i50 i51 i58 i59 i65 i68 i69 i72 i78 i80 i81 i82 i87 i92 i96 i100 i103 i104)), ((z 101), .inl (T 0, 8, .inl g101)), ((z 102), .inl (T 0, 8, .inl g102))]) [0, 1, 2] (by decide +kernel) rfl)
  · skip
    have kc24200019 : x24200015.toInt ≠ 0 := ne_ti rfl (by decide) c24200019
    have nzx24200015 : ¬ x24200015 = 0 := c24200019
    refine lv_iload_n hx hb dX11_force_12 rfl (lv_at hl 2 rfl) ?_
    refine lv_i2l hx hb dX11_force_13 rfl ?_
    refine lv_topl (fun x24200021 ex24200021 => ?_)
    have hx24200021 : x24200021.toInt = p2.toInt := by rw [ex24200021]; exact Int32.toInt_toInt64 _
    refine lv_lconst (v := 1) hx hb dX11_force_14 (by decide) ?_
    refine lv_ldc2 hx hb hown (hT _ mw_1214) dX11_force_15 ?_
    refine r_calli (wr := [(a, .inr (11, OX z i1 i2 i3 i4 i5 i6 i7 i8 i30 i43 i45 i46 i47 i48 i49 i50 i51 i58 i59 i65 i68 i69 i72 i78 i80 i81 i82 i87 i92 i96 i100 i103 i104)), ((z 101), .inl (T 0, 8, .inl g101)), ((z 102), .inl (T 0, 8, .inl g102))]) (r_runS2 (As := [.long x24200021, .long 1, .long 9999]) (rest := []) (wc := []) C0 hE hStr hS (va_free (wc := []) hD hS hA [] rfl) (h_X11_isIn_20000007 l D T sq sv H.size x24200021 1 9999) mw_910 mw_911 mw_14 mw_912 dn_1704 rfl rfl ⟨Nat.le_of_ble_eq_true rfl, Nat.le_of_ble_eq_true rfl⟩ (hP.sub (ws' := []) [] rfl) (hD.sub (ws' := []) [] (by decide +kernel) rfl) hl.1 rfl (Nat.le_of_ble_eq_true rfl) dX11_force_18 ⟨Nat.le_of_ble_eq_true rfl, Nat.le_of_ble_eq_true rfl⟩) hP hD hS hA [] [0, 1, 2] rfl rfl (by decide +kernel) (by decide +kernel) (fun x24200022 u H locs hq hP hD hS => ?_)
    obtain ⟨hp24200023, hx24200022⟩ := hq
    have hp24200023 : (x24200022.toInt = 0 ∧ (x24200021.toInt < 1 ∨ 9999 < x24200021.toInt)) ∨ (x24200022.toInt = 1 ∧ 1 ≤ x24200021.toInt ∧ x24200021.toInt ≤ 9999) := hp24200023
    have hx24200022 : 0 ≤ x24200022.toInt ∧ x24200022.toInt ≤ 1 := hx24200022
    have hl24200024 : (1 : Int64).toInt = 1 := by decide
    have hl24200025 : (9999 : Int64).toInt = 9999 := by decide
    have hP : va_P D vwCl [(a, .inr (11, OX z i1 i2 i3 i4 i5 i6 i7 i8 i30 i43 i45 i46 i47 i48 i49 i50 i51 i58 i59 i65 i68 i69 i72 i78 i80 i81 i82 i87 i92 i96 i100 i103 i104)), ((z 101), .inl (T 0, 8, .inl g101)), ((z 102), .inl (T 0, 8, .inl g102))] H := hP
    have hD : va_D A [(a, .inr (11, OX z i1 i2 i3 i4 i5 i6 i7 i8 i30 i43 i45 i46 i47 i48 i49 i50 i51 i58 i59 i65 i68 i69 i72 i78 i80 i81 i82 i87 i92 i96 i100 i103 i104)), ((z 101), .inl (T 0, 8, .inl g101)), ((z 102), .inl (T 0, 8, .inl g102))] := hD
    refine W.widen (k := 0) (n := 0) (Nat.le_refl _) (Nat.le_refl _) ?_
    refine lv_if_eq (tgt := 33) hx hb dX11_force_21 (by decide) (fun c24200026 => ?_) (fun c24200026 => ?_)
    · skip
      have kc24200026 : x24200022.toInt = 0 := eq_ti rfl (by decide) c24200026
      refine lv_iconst (v := (-1)) hx hb dX11_force_33 (by decide) ?_
      have hl24200027 : ((-1) : Int32).toInt = -1 := by decide
      exact r_iret (i100, g101, g102) C0 hr hlocks hS (Nat.le_refl _) (Nat.le_refl _) dX11_force_34 ⟨⟨by omega, by omega⟩, (by omega), ⟨by decide, by decide⟩⟩ (hP.sub (ws' := [(a, .inr (11, OX z i1 i2 i3 i4 i5 i6 i7 i8 i30 i43 i45 i46 i47 i48 i49 i50 i51 i58 i59 i65 i68 i69 i72 i78 i80 i81 i82 i87 i92 i96 i100 i103 i104)), ((z 101), .inl (T 0, 8, .inl g101)), ((z 102), .inl (T 0, 8, .inl g102))]) [0, 1, 2] rfl) (hD.sub (ws' := [(a, .inr (11, OX z i1 i2 i3 i4 i5 i6 i7 i8 i30 i43 i45 i46 i47 i48 i49 i50 i51 i58 i59 i65 i68 i69 i72 i78 i80 i81 i82 i87 i92 i96 i100 i103 i104)), ((z 101), .inl (T 0, 8, .inl g101)), ((z 102), .inl (T 0, 8, .inl g102))]) [0, 1, 2] (by decide +kernel) rfl)
    · skip
      have kc24200026 : x24200022.toInt ≠ 0 := ne_ti rfl (by decide) c24200026
      have nzx24200022 : ¬ x24200022 = 0 := c24200026
      refine lv_aload_n hx hb dX11_force_24 rfl (lv_at hl 0 rfl) ?_
      refine r_get (v := .int i100) C0 hE ffX11_100 mw_890 hP 0 rfl ox_100 dX11_force_25 ?_
      refine lv_bipush (v := 8) hx hb dX11_force_28 (by decide) ?_
      refine lv_icmp_ne (tgt := 35) hx hb dX11_force_30 (by decide) (fun c24200028 => ?_) (fun c24200028 => ?_)
      · skip
        have kc24200028 : i100.toInt ≠ 8 := ne_ti rfl (by decide) c24200028
        refine lv_aload_n hx hb dX11_force_35 rfl (lv_at hl 0 rfl) ?_
        refine r_get (v := .ref (z 101)) C0 hE ffX11_101 mw_891 hP 0 rfl ox_101 dX11_force_36 ?_
        refine lv_aload_n hx hb dX11_force_39 rfl (lv_at hl 0 rfl) ?_
        refine r_get (v := .int i100) C0 hE ffX11_100 mw_890 hP 0 rfl ox_100 dX11_force_40 ?_
        refine lv_iload_n hx hb dX11_force_43 rfl (lv_at hl 1 rfl) ?_
        refine r_iastX hx hb hK hP hD hS 1 rfl (in_ti rfl (by omega) (by omega)) dX11_force_44 (fun f24200029 ef24200029 H locs hP hD hS => ?_)
        have hP : va_P D vwCl [(a, .inr (11, OX z i1 i2 i3 i4 i5 i6 i7 i8 i30 i43 i45 i46 i47 i48 i49 i50 i51 i58 i59 i65 i68 i69 i72 i78 i80 i81 i82 i87 i92 i96 i100 i103 i104)), ((z 101), .inl (T 0, 8, .inl f24200029)), ((z 102), .inl (T 0, 8, .inl g102))] H := hP
        have hD : va_D A [(a, .inr (11, OX z i1 i2 i3 i4 i5 i6 i7 i8 i30 i43 i45 i46 i47 i48 i49 i50 i51 i58 i59 i65 i68 i69 i72 i78 i80 i81 i82 i87 i92 i96 i100 i103 i104)), ((z 101), .inl (T 0, 8, .inl f24200029)), ((z 102), .inl (T 0, 8, .inl g102))] := hD
        refine lv_aload_n hx hb dX11_force_45 rfl (lv_at hl 0 rfl) ?_
        refine r_get (v := .ref (z 102)) C0 hE ffX11_102 mw_892 hP 0 rfl ox_102 dX11_force_46 ?_
        refine lv_aload_n hx hb dX11_force_49 rfl (lv_at hl 0 rfl) ?_
        refine r_get (v := .int i100) C0 hE ffX11_100 mw_890 hP 0 rfl ox_100 dX11_force_50 ?_
        refine lv_iload_n hx hb dX11_force_53 rfl (lv_at hl 2 rfl) ?_
        refine r_iastX hx hb hK hP hD hS 2 rfl (in_ti rfl (by omega) (by omega)) dX11_force_54 (fun f24200030 ef24200030 H locs hP hD hS => ?_)
        have hP : va_P D vwCl [(a, .inr (11, OX z i1 i2 i3 i4 i5 i6 i7 i8 i30 i43 i45 i46 i47 i48 i49 i50 i51 i58 i59 i65 i68 i69 i72 i78 i80 i81 i82 i87 i92 i96 i100 i103 i104)), ((z 101), .inl (T 0, 8, .inl f24200029)), ((z 102), .inl (T 0, 8, .inl f24200030))] H := hP
        have hD : va_D A [(a, .inr (11, OX z i1 i2 i3 i4 i5 i6 i7 i8 i30 i43 i45 i46 i47 i48 i49 i50 i51 i58 i59 i65 i68 i69 i72 i78 i80 i81 i82 i87 i92 i96 i100 i103 i104)), ((z 101), .inl (T 0, 8, .inl f24200029)), ((z 102), .inl (T 0, 8, .inl f24200030))] := hD
        refine lv_aload_n hx hb dX11_force_55 rfl (lv_at hl 0 rfl) ?_
        refine lv_dup hx hb dX11_force_56 rfl ?_
        refine r_get (v := .int i100) C0 hE ffX11_100 mw_890 hP 0 rfl ox_100 dX11_force_57 ?_
        refine lv_iconst (v := 1) hx hb dX11_force_60 (by decide) ?_
        refine lv_iadd hx hb dX11_force_61 ?_
        refine lv_topi (fun x24200031 ex24200031 => ?_)
        have hx24200031 : x24200031.toInt = i100.toInt + 1 := ti_add ex24200031 rfl (by decide) (by omega) (by omega)
        refine r_put (v := .int x24200031) (ty := .int) (ws1 := [(a, .inr (11, OX z i1 i2 i3 i4 i5 i6 i7 i8 i30 i43 i45 i46 i47 i48 i49 i50 i51 i58 i59 i65 i68 i69 i72 i78 i80 i81 i82 i87 i92 i96 x24200031 i103 i104)), ((z 101), .inl (T 0, 8, .inl f24200029)), ((z 102), .inl (T 0, 8, .inl f24200030))]) C0 hE ffX11_100 tyX11 tyX11_ok nmX11 mw_890 pf_1358 hP hD hS 0 rfl rfl rfl ol_100 os_100 rfl dX11_force_62 (fun H locs hP hD hS => ?_)
        refine lv_aload_n hx hb dX11_force_65 rfl (lv_at hl 0 rfl) ?_
        refine r_get (v := .int x24200031) C0 hE ffX11_100 mw_890 hP 0 rfl ox_100 dX11_force_66 ?_
        exact r_iret (x24200031, f24200029, f24200030) C0 hr hlocks hS (Nat.le_refl _) (Nat.le_refl _) dX11_force_69 ⟨⟨by omega, by omega⟩, (by omega), ⟨by omega, by omega⟩⟩ (hP.sub (ws' := [(a, .inr (11, OX z i1 i2 i3 i4 i5 i6 i7 i8 i30 i43 i45 i46 i47 i48 i49 i50 i51 i58 i59 i65 i68 i69 i72 i78 i80 i81 i82 i87 i92 i96 x24200031 i103 i104)), ((z 101), .inl (T 0, 8, .inl f24200029)), ((z 102), .inl (T 0, 8, .inl f24200030))]) [0, 1, 2] rfl) (hD.sub (ws' := [(a, .inr (11, OX z i1 i2 i3 i4 i5 i6 i7 i8 i30 i43 i45 i46 i47 i48 i49 i50 i51 i58 i59 i65 i68 i69 i72 i78 i80 i81 i82 i87 i92 i96 x24200031 i103 i104)), ((z 101), .inl (T 0, 8, .inl f24200029)), ((z 102), .inl (T 0, 8, .inl f24200030))]) [0, 1, 2] (by decide +kernel) rfl)
      · skip
        have kc24200028 : i100.toInt = 8 := eq_ti rfl (by decide) c24200028
        refine lv_iconst (v := (-1)) hx hb dX11_force_33 (by decide) ?_
        have hl24200032 : ((-1) : Int32).toInt = -1 := by decide
        exact r_iret (i100, g101, g102) C0 hr hlocks hS (Nat.le_refl _) (Nat.le_refl _) dX11_force_34 ⟨⟨by omega, by omega⟩, (by omega), ⟨by decide, by decide⟩⟩ (hP.sub (ws' := [(a, .inr (11, OX z i1 i2 i3 i4 i5 i6 i7 i8 i30 i43 i45 i46 i47 i48 i49 i50 i51 i58 i59 i65 i68 i69 i72 i78 i80 i81 i82 i87 i92 i96 i100 i103 i104)), ((z 101), .inl (T 0, 8, .inl g101)), ((z 102), .inl (T 0, 8, .inl g102))]) [0, 1, 2] rfl) (hD.sub (ws' := [(a, .inr (11, OX z i1 i2 i3 i4 i5 i6 i7 i8 i30 i43 i45 i46 i47 i48 i49 i50 i51 i58 i59 i65 i68 i69 i72 i78 i80 i81 i82 i87 i92 i96 i100 i103 i104)), ((z 101), .inl (T 0, 8, .inl g101)), ((z 102), .inl (T 0, 8, .inl g102))]) [0, 1, 2] (by decide +kernel) rfl)
