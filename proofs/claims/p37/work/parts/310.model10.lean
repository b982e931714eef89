set_option maxHeartbeats 4000000 in
set_option maxRecDepth 100000 in
theorem h_X11_chosen_24800009 (l : Launch) (D : va_G) (T : Nat → ClassId) (sq sv sz : Nat) (a : Nat) (z : Nat → Nat) (i1 i2 i3 i4 i5 i6 i7 i8 i30 i43 i45 i46 i47 i48 i49 i50 i51 i58 i59 i65 i68 i69 i72 i78 i80 i81 i82 i87 i92 i96 i100 i103 i104 : Int32) (p1 : Int32) : Met l yX11_chosen (.code yX11_chosen cX11_chosen 2 (some .int) :: TB) { frames := 0, cells := 0, slots := 0, locals := 0 } (PC2 D T sq sv [.ref a, .int p1] [(a, .inr (11, OX z i1 i2 i3 i4 i5 i6 i7 i8 i30 i43 i45 i46 i47 i48 i49 i50 i51 i58 i59 i65 i68 i69 i72 i78 i80 i81 i82 i87 i92 i96 i100 i103 i104))] sz) (Qi (S := Unit) (fun (r : Int32) (_ : Unit) => (-1 ≤ r.toInt ∧ r.toInt ≤ 1)) (fun (_ : Unit) => [(a, .inr (11, OX z i1 i2 i3 i4 i5 i6 i7 i8 i30 i43 i45 i46 i47 i48 i49 i50 i51 i58 i59 i65 i68 i69 i72 i78 i80 i81 i82 i87 i92 i96 i100 i103 i104))]) D (va_A [(a, .inr (11, OX z i1 i2 i3 i4 i5 i6 i7 i8 i30 i43 i45 i46 i47 i48 i49 i50 i51 i58 i59 i65 i68 i69 i72 i78 i80 i81 i82 i87 i92 i96 i100 i103 i104))] sz)) 0 0 (va_A [(a, .inr (11, OX z i1 i2 i3 i4 i5 i6 i7 i8 i30 i43 i45 i46 i47 i48 i49 i50 i51 i58 i59 i65 i68 i69 i72 i78 i80 i81 i82 i87 i92 i96 i100 i103 i104))] sz) := by
  refine ct_begin2 (Qc := Qi (S := Unit) (fun (r : Int32) (_ : Unit) => (-1 ≤ r.toInt ∧ r.toInt ≤ 1)) (fun (_ : Unit) => [(a, .inr (11, OX z i1 i2 i3 i4 i5 i6 i7 i8 i30 i43 i45 i46 i47 i48 i49 i50 i51 i58 i59 i65 i68 i69 i72 i78 i80 i81 i82 i87 i92 i96 i100 i103 i104))]) D) (by decide +kernel) (Nat.le_of_ble_eq_true rfl) ?_
  intro p e s m below meth c A ls C0 hr hlocks hnm hE hStr hA hP hD hl
  generalize ([.ref a, .int p1] : List Value).toArray = args at C0 ⊢
  have hx := C0.1
  have hb := C0.2.1
  have hml := C0.2.2.1
  have hown := C0.2.2.2.1
  have hT := C0.2.2.2.2
  have hK := hE.1
  generalize hH : s.heap = H at hP ⊢
  have hS : va_S A s.heap H [] := by rw [← hH]; exact va_S.rf
  have hP : va_P D vwCl [(a, .inr (11, OX z i1 i2 i3 i4 i5 i6 i7 i8 i30 i43 i45 i46 i47 i48 i49 i50 i51 i58 i59 i65 i68 i69 i72 i78 i80 i81 i82 i87 i92 i96 i100 i103 i104))] H := hP
  have hD : va_D A [(a, .inr (11, OX z i1 i2 i3 i4 i5 i6 i7 i8 i30 i43 i45 i46 i47 i48 i49 i50 i51 i58 i59 i65 i68 i69 i72 i78 i80 i81 i82 i87 i92 i96 i100 i103 i104))] := hD
  have hl : lv_has ls 2 [(0, .ref a), (1, .int p1)] := hl
  refine lv_aload_n hx hb dX11_chosen_0 rfl (lv_at hl 0 rfl) ?_
  refine r_get (v := .int i103) C0 hE ffX11_103 mw_893 hP 0 rfl ox_103 dX11_chosen_1 ?_
  refine lv_iconst (v := (-1)) hx hb dX11_chosen_4 (by decide) ?_
  have J24800018 : ∀ (x24800017 : Int32) (H : Heap) (locs : List Loc) (ls : Array Slot), (-1 ≤ x24800017.toInt ∧ x24800017.toInt ≤ 1) → va_P D vwCl [(a, .inr (11, OX z i1 i2 i3 i4 i5 i6 i7 i8 i30 i43 i45 i46 i47 i48 i49 i50 i51 i58 i59 i65 i68 i69 i72 i78 i80 i81 i82 i87 i92 i96 i100 i103 i104))] H → va_D A [(a, .inr (11, OX z i1 i2 i3 i4 i5 i6 i7 i8 i30 i43 i45 i46 i47 i48 i49 i50 i51 i58 i59 i65 i68 i69 i72 i78 i80 i81 i82 i87 i92 i96 i100 i103 i104))] → va_S A s.heap H locs → lv_has ls 2 [(0, .ref a), (1, .int p1)] → W p l e { frames := 0, cells := 0, slots := 0, locals := 0 } s m args below meth c H locs 0 0 (MQ below ((Qi (S := Unit) (fun (r : Int32) (_ : Unit) => (-1 ≤ r.toInt ∧ r.toInt ≤ 1)) (fun (_ : Unit) => [(a, .inr (11, OX z i1 i2 i3 i4 i5 i6 i7 i8 i30 i43 i45 i46 i47 i48 i49 i50 i51 i58 i59 i65 i68 i69 i72 i78 i80 i81 i82 i87 i92 i96 i100 i103 i104))]) D) A) args s 0 0 A) (F0 m 32 ls [.int x24800017]) := by
    intro x24800017 H locs ls hx24800017 hP hD hS hl
    exact r_iret () C0 hr hlocks hS (Nat.le_refl _) (Nat.le_refl _) dX11_chosen_32 ⟨by omega, by omega⟩ (hP.sub (ws' := [(a, .inr (11, OX z i1 i2 i3 i4 i5 i6 i7 i8 i30 i43 i45 i46 i47 i48 i49 i50 i51 i58 i59 i65 i68 i69 i72 i78 i80 i81 i82 i87 i92 i96 i100 i103 i104))]) [0] rfl) (hD.sub (ws' := [(a, .inr (11, OX z i1 i2 i3 i4 i5 i6 i7 i8 i30 i43 i45 i46 i47 i48 i49 i50 i51 i58 i59 i65 i68 i69 i72 i78 i80 i81 i82 i87 i92 i96 i100 i103 i104))]) [0] (by decide +kernel) rfl)
  refine lv_icmp_eq (tgt := 31) hx hb dX11_chosen_5 (by decide) (fun c24800010 => ?_) (fun c24800010 => ?_)
  · skip
    have kc24800010 : i103.toInt = (-1) := eq_ti rfl (by decide) c24800010
    refine lv_iconst (v := (-1)) hx hb dX11_chosen_31 (by decide) ?_
    exact J24800018 (-1) _ _ ls ⟨by decide, by decide⟩ (hP.sub (ws' := [(a, .inr (11, OX z i1 i2 i3 i4 i5 i6 i7 i8 i30 i43 i45 i46 i47 i48 i49 i50 i51 i58 i59 i65 i68 i69 i72 i78 i80 i81 i82 i87 i92 i96 i100 i103 i104))]) [0] rfl) (hD.sub (ws' := [(a, .inr (11, OX z i1 i2 i3 i4 i5 i6 i7 i8 i30 i43 i45 i46 i47 i48 i49 i50 i51 i58 i59 i65 i68 i69 i72 i78 i80 i81 i82 i87 i92 i96 i100 i103 i104))]) [0] (by decide +kernel) rfl) hS (lv_sub hl [0, 1] rfl)
  · skip
    have kc24800010 : i103.toInt ≠ (-1) := ne_ti rfl (by decide) c24800010
    refine lv_iload_n hx hb dX11_chosen_8 rfl (lv_at hl 1 rfl) ?_
    refine lv_if_lt (tgt := 31) hx hb dX11_chosen_9 (by decide) (fun c24800019 => ?_) (fun c24800019 => ?_)
    · skip
      have kc24800019 : p1.toInt < 0 := lt_ti rfl (by decide) c24800019
      have rg24800020 := i32_rng p1
      refine lv_iconst (v := (-1)) hx hb dX11_chosen_31 (by decide) ?_
      exact J24800018 (-1) _ _ ls ⟨by decide, by decide⟩ (hP.sub (ws' := [(a, .inr (11, OX z i1 i2 i3 i4 i5 i6 i7 i8 i30 i43 i45 i46 i47 i48 i49 i50 i51 i58 i59 i65 i68 i69 i72 i78 i80 i81 i82 i87 i92 i96 i100 i103 i104))]) [0] rfl) (hD.sub (ws' := [(a, .inr (11, OX z i1 i2 i3 i4 i5 i6 i7 i8 i30 i43 i45 i46 i47 i48 i49 i50 i51 i58 i59 i65 i68 i69 i72 i78 i80 i81 i82 i87 i92 i96 i100 i103 i104))]) [0] (by decide +kernel) rfl) hS (lv_sub hl [0, 1] rfl)
    · skip
      have kc24800019 : 0 ≤ p1.toInt := nlt_ti rfl (by decide) c24800019
      refine lv_iload_n hx hb dX11_chosen_12 rfl (lv_at hl 1 rfl) ?_
      refine lv_aload_n hx hb dX11_chosen_13 rfl (lv_at hl 0 rfl) ?_
      refine r_get (v := .int i104) C0 hE ffX11_104 mw_894 hP 0 rfl ox_104 dX11_chosen_14 ?_
      refine lv_icmp_ge (tgt := 31) hx hb dX11_chosen_17 (by decide) (fun c24800021 => ?_) (fun c24800021 => ?_)
      · skip
        have kc24800021 : i104.toInt ≤ p1.toInt := le_ti rfl rfl c24800021
        refine lv_iconst (v := (-1)) hx hb dX11_chosen_31 (by decide) ?_
        exact J24800018 (-1) _ _ ls ⟨by decide, by decide⟩ (hP.sub (ws' := [(a, .inr (11, OX z i1 i2 i3 i4 i5 i6 i7 i8 i30 i43 i45 i46 i47 i48 i49 i50 i51 i58 i59 i65 i68 i69 i72 i78 i80 i81 i82 i87 i92 i96 i100 i103 i104))]) [0] rfl) (hD.sub (ws' := [(a, .inr (11, OX z i1 i2 i3 i4 i5 i6 i7 i8 i30 i43 i45 i46 i47 i48 i49 i50 i51 i58 i59 i65 i68 i69 i72 i78 i80 i81 i82 i87 i92 i96 i100 i103 i104))]) [0] (by decide +kernel) rfl) hS (lv_sub hl [0, 1] rfl)
      · skip
        have kc24800021 : p1.toInt < i104.toInt := nle_ti rfl rfl c24800021
        have rg24800022 := i32_rng i104
        refine lv_aload_n hx hb dX11_chosen_20 rfl (lv_at hl 0 rfl) ?_
        refine r_get (v := .int i103) C0 hE ffX11_103 mw_893 hP 0 rfl ox_103 dX11_chosen_21 ?_
        refine lv_iload_n hx hb dX11_chosen_24 rfl (lv_at hl 1 rfl) ?_
        refine lv_ishr hx hb dX11_chosen_25 ?_
        refine lv_topi (fun x24800023 ex24800023 => ?_)
        refine lv_iconst (v := 1) hx hb dX11_chosen_26 (by decide) ?_
        refine lv_iand hx hb dX11_chosen_27 ?_
        refine lv_topi (fun x24800024 ex24800024 => ?_)
        have hx24800024 : 0 ≤ x24800024.toInt ∧ x24800024.toInt ≤ 1 := and_ti 1 1 (by decide) (by decide) (by decide) ex24800024
        refine lv_goto (tgt := 32) hx hb dX11_chosen_28 (by decide) ?_
        exact J24800018 x24800024 _ _ ls ⟨by omega, by omega⟩ (hP.sub (ws' := [(a, .inr (11, OX z i1 i2 i3 i4 i5 i6 i7 i8 i30 i43 i45 i46 i47 i48 i49 i50 i51 i58 i59 i65 i68 i69 i72 i78 i80 i81 i82 i87 i92 i96 i100 i103 i104))]) [0] rfl) (hD.sub (ws' := [(a, .inr (11, OX z i1 i2 i3 i4 i5 i6 i7 i8 i30 i43 i45 i46 i47 i48 i49 i50 i51 i58 i59 i65 i68 i69 i72 i78 i80 i81 i82 i87 i92 i96 i100 i103 i104))]) [0] (by decide +kernel) rfl) hS (lv_sub hl [0, 1] rfl)
set_option maxHeartbeats 4000000 in
set_option maxRecDepth 100000 in
theorem h_X11_over_24900227 (l : Launch) (D : va_G) (T : Nat → ClassId) (sq sv sz : Nat) (p0 : Int32) (p1 : Int32) (hp0 : -50 ≤ p0.toInt ∧ p0.toInt ≤ 50) (hp1 : -50 ≤ p1.toInt ∧ p1.toInt ≤ 50) : Met l yX11_over (.code yX11_over cX11_over 5 (some .long) :: TB) { frames := 0, cells := 0, slots := 0, locals := 0 } (PC2 D T sq sv [.int p0, .int p1] ([] : va_W) sz) (Ql (S := Unit) (fun (r : Int64) (_ : Unit) => True) (fun (_ : Unit) => ([] : va_W)) D (va_A ([] : va_W) sz)) 0 0 (va_A ([] : va_W) sz) := by
  refine ct_begin2 (Qc := Ql (S := Unit) (fun (r : Int64) (_ : Unit) => True) (fun (_ : Unit) => ([] : va_W)) D) (by decide +kernel) (Nat.le_of_ble_eq_true rfl) ?_
  intro p e s m below meth c A ls C0 hr hlocks hnm hE hStr hA hP hD hl
  generalize ([.int p0, .int p1] : List Value).toArray = args at C0 ⊢
  have hx := C0.1
  have hb := C0.2.1
  have hml := C0.2.2.1
  have hown := C0.2.2.2.1
  have hT := C0.2.2.2.2
  have hK := hE.1
  generalize hH : s.heap = H at hP ⊢
  have hS : va_S A s.heap H [] := by rw [← hH]; exact va_S.rf
  have hP : va_P D vwCl ([] : va_W) H := hP
  have hD : va_D A ([] : va_W) := hD
  have hl : lv_has ls 5 [(0, .int p0), (1, .int p1)] := hl
  refine lv_iload_n hx hb dX11_over_0 rfl (lv_at hl 1 rfl) ?_
  refine lv_if_lt (tgt := 9) hx hb dX11_over_1 (by decide) (fun c24900228 => ?_) (fun c24900228 => ?_)
  · skip
    have kc24900228 : p1.toInt < 0 := lt_ti rfl (by decide) c24900228
    refine lv_lconst (v := 0) hx hb dX11_over_9 (by decide) ?_
    exact r_lret () C0 hr hlocks hS (Nat.le_refl _) (Nat.le_refl _) dX11_over_10 trivial (hP.sub (ws' := []) [] rfl) (hD.sub (ws' := []) [] (by decide +kernel) rfl)
  · skip
    have kc24900228 : 0 ≤ p1.toInt := nlt_ti rfl (by decide) c24900228
    refine lv_iload_n hx hb dX11_over_4 rfl (lv_at hl 1 rfl) ?_
    refine lv_iload_n hx hb dX11_over_5 rfl (lv_at hl 0 rfl) ?_
    refine lv_icmp_le (tgt := 11) hx hb dX11_over_6 (by decide) (fun c24900229 => ?_) (fun c24900229 => ?_)
    · skip
      have kc24900229 : p1.toInt ≤ p0.toInt := le_ti rfl rfl c24900229
      refine lv_lconst (v := 1) hx hb dX11_over_11 (by decide) ?_
      refine lv_lstore_n (lv' := [(2, .long 1), (0, .int p0), (1, .int p1)]) hx hb dX11_over_12 rfl hl (by decide) rfl (fun ls hl => ?_)
      refine lv_iconst (v := 1) hx hb dX11_over_13 (by decide) ?_
      refine lv_istore (lv' := [(4, .int 1), (2, .long 1), (0, .int p0), (1, .int p1)]) hx hb dX11_over_14 hl (by decide) rfl (fun ls hl => ?_)
      have L24900446 : ∀ (n : Nat) (x24900436 : Int32) (x24900437 : Int64) (H : Heap) (locs : List Loc) (ls : Array Slot), (1 ≤ x24900436.toInt ∧ x24900436.toInt ≤ 63) → (64 - x24900436.toInt).toNat < n → va_P D vwCl [] H → va_D A [] → va_S A s.heap H locs → lv_has ls 5 [(4, .int x24900436), (2, .long x24900437), (0, .int p0), (1, .int p1)] → W p l e { frames := 0, cells := 0, slots := 0, locals := 0 } s m args below meth c H locs 0 0 (MQ below ((Ql (S := Unit) (fun (r : Int64) (_ : Unit) => True) (fun (_ : Unit) => ([] : va_W)) D) A) args s 0 0 A) (F0 m 16 ls []) := by
        intro n
        induction n with
        | zero =>
          intro x24900436 x24900437 H locs ls hx24900436 hms hP hD hS hl
          exact absurd hms (Nat.not_lt_zero _)
        | succ n ih24900447 =>
          intro x24900436 x24900437 H locs ls hx24900436 hms hP hD hS hl
          refine lv_iload hx hb dX11_over_16 (lv_at hl 0 rfl) ?_
          refine lv_iload_n hx hb dX11_over_18 rfl (lv_at hl 3 rfl) ?_
          refine lv_icmp_gt (tgt := 42) hx hb dX11_over_19 (by decide) (fun c24900448 => ?_) (fun c24900448 => ?_)
          · skip
            have kc24900448 : p1.toInt < x24900436.toInt := lt_ti rfl rfl c24900448
            refine lv_lload_n hx hb dX11_over_42 rfl (lv_at hl 1 rfl) ?_
            exact r_lret () C0 hr hlocks hS (Nat.le_refl _) (Nat.le_refl _) dX11_over_43 trivial (hP.sub (ws' := []) [] rfl) (hD.sub (ws' := []) [] (by decide +kernel) rfl)
          · skip
            have kc24900448 : x24900436.toInt ≤ p1.toInt := nlt_ti rfl rfl c24900448
            refine lv_lload_n hx hb dX11_over_22 rfl (lv_at hl 1 rfl) ?_
            refine lv_iload_n hx hb dX11_over_23 rfl (lv_at hl 2 rfl) ?_
            refine lv_iconst (v := 1) hx hb dX11_over_24 (by decide) ?_
            refine lv_iadd hx hb dX11_over_25 ?_
            refine lv_topi (fun x24900456 ex24900456 => ?_)
            have hx24900456 : x24900456.toInt = p0.toInt + 1 := ti_add ex24900456 rfl (by decide) (by omega) (by omega)
            refine lv_iload hx hb dX11_over_26 (lv_at hl 0 rfl) ?_
            refine lv_isub hx hb dX11_over_28 ?_
            refine lv_topi (fun x24900457 ex24900457 => ?_)
            have hx24900457 : x24900457.toInt = x24900456.toInt - x24900436.toInt := ti_sub ex24900457 rfl rfl (by omega) (by omega)
            refine lv_i2l hx hb dX11_over_29 rfl ?_
            refine lv_topl (fun x24900458 ex24900458 => ?_)
            have hx24900458 : x24900458.toInt = x24900457.toInt := by rw [ex24900458]; exact Int32.toInt_toInt64 _
            refine lv_lmul hx hb dX11_over_30 ?_
            refine lv_topl (fun x24900459 ex24900459 => ?_)
            refine lv_iload hx hb dX11_over_31 (lv_at hl 0 rfl) ?_
            refine lv_i2l hx hb dX11_over_33 rfl ?_
            refine lv_topl (fun x24900460 ex24900460 => ?_)
            have hx24900460 : x24900460.toInt = x24900436.toInt := by rw [ex24900460]; exact Int32.toInt_toInt64 _
            refine lv_ldiv hx hb dX11_over_34 (by rw [ex24900460]; exact nz_l rfl (by omega)) ?_
            refine lv_topl (fun x24900461 ex24900461 => ?_)
            refine lv_lstore_n (lv' := [(2, .long x24900461), (4, .int x24900436), (0, .int p0), (1, .int p1)]) hx hb dX11_over_35 rfl hl (by decide) rfl (fun ls hl => ?_)
            obtain ⟨x24900462, ex24900462⟩ : ∃ y : Int32, y = x24900436 + 1 := ⟨_, rfl⟩
            have hx24900462 : x24900462.toInt = x24900436.toInt + 1 := ti_add ex24900462 rfl (by decide) (by omega) (by omega)
            refine lv_iinc (v := x24900462) (lv' := [(4, .int x24900462), (2, .long x24900461), (0, .int p0), (1, .int p1)]) hx hb dX11_over_36 hl (k := 1) rfl (by rw [ex24900462]; rfl) (by decide) rfl (fun ls hl => ?_)
            refine lv_goto (tgt := 16) hx hb dX11_over_39 (by decide) ?_
            exact ih24900447 x24900462 x24900461 _ _ ls ⟨by omega, by omega⟩ (by omega) (hP.sub (ws' := []) [] rfl) (hD.sub (ws' := []) [] (by decide +kernel) rfl) hS (lv_sub hl [0, 1, 2, 3] rfl)
      exact L24900446 _ 1 1 _ _ ls ⟨by decide, by decide⟩ (Nat.lt_succ_self _) (hP.sub (ws' := []) [] rfl) (hD.sub (ws' := []) [] (by decide +kernel) rfl) hS (lv_sub hl [0, 1, 2, 3] rfl)
    · skip
      have kc24900229 : p0.toInt < p1.toInt := nle_ti rfl rfl c24900229
      refine lv_lconst (v := 0) hx hb dX11_over_9 (by decide) ?_
      exact r_lret () C0 hr hlocks hS (Nat.le_refl _) (Nat.le_refl _) dX11_over_10 trivial (hP.sub (ws' := []) [] rfl) (hD.sub (ws' := []) [] (by decide +kernel) rfl)
set_option maxHeartbeats 4000000 in
set_option maxRecDepth 100000 in
theorem h_X11_waysFrom_25000027 (l : Launch) (D : va_G) (T : Nat → ClassId) (sq sv sz : Nat) (p0 : Int32) (p1 : Int32) (p2 : Int32) (p3 : Int32) (hp0 : 1 ≤ p0.toInt ∧ p0.toInt ≤ 50) (hp1 : 0 ≤ p1.toInt ∧ p1.toInt ≤ 50) (hp2 : 0 ≤ p2.toInt ∧ p2.toInt ≤ 50) (hp3 : 0 ≤ p3.toInt ∧ p3.toInt ≤ 50) : Met l yX11_waysFrom (.code yX11_waysFrom cX11_waysFrom 7 (some .long) :: TB) { frames := 1, cells := 0, slots := 0, locals := 24 } (PC2 D T sq sv [.int p0, .int p1, .int p2, .int p3] ([] : va_W) sz) (Ql (S := Unit) (fun (r : Int64) (_ : Unit) => True) (fun (_ : Unit) => ([] : va_W)) D (va_A ([] : va_W) sz)) 0 0 (va_A ([] : va_W) sz) := by
  refine ct_begin2 (Qc := Ql (S := Unit) (fun (r : Int64) (_ : Unit) => True) (fun (_ : Unit) => ([] : va_W)) D) (by decide +kernel) (Nat.le_of_ble_eq_true rfl) ?_
  intro p e s m below meth c A ls C0 hr hlocks hnm hE hStr hA hP hD hl
  generalize ([.int p0, .int p1, .int p2, .int p3] : List Value).toArray = args at C0 ⊢
  have hx := C0.1
  have hb := C0.2.1
  have hml := C0.2.2.1
  have hown := C0.2.2.2.1
  have hT := C0.2.2.2.2
  have hK := hE.1
  generalize hH : s.heap = H at hP ⊢
  have hS : va_S A s.heap H [] := by rw [← hH]; exact va_S.rf
  have hP : va_P D vwCl ([] : va_W) H := hP
  have hD : va_D A ([] : va_W) := hD
  have hl : lv_has ls 7 [(0, .int p0), (1, .int p1), (2, .int p2), (3, .int p3)] := hl
  refine lv_lconst (v := 0) hx hb dX11_waysFrom_0 (by decide) ?_
  refine lv_lstore (lv' := [(4, .long 0), (0, .int p0), (1, .int p1), (2, .int p2), (3, .int p3)]) hx hb dX11_waysFrom_1 hl (by decide) rfl (fun ls hl => ?_)
  refine lv_iload_n hx hb dX11_waysFrom_3 rfl (lv_at hl 4 rfl) ?_
  refine lv_istore (lv' := [(6, .int p3), (4, .long 0), (0, .int p0), (1, .int p1), (2, .int p2), (3, .int p3)]) hx hb dX11_waysFrom_4 hl (by decide) rfl (fun ls hl => ?_)
  have L25000046 : ∀ (n : Nat) (x25000036 : Int32) (x25000037 : Int64) (H : Heap) (locs : List Loc) (ls : Array Slot), (0 ≤ x25000036.toInt ∧ x25000036.toInt ≤ 51) → (52 - x25000036.toInt).toNat < n → va_P D vwCl [] H → va_D A [] → va_S A s.heap H locs → lv_has ls 7 [(6, .int x25000036), (4, .long x25000037), (0, .int p0), (1, .int p1), (2, .int p2), (3, .int p3)] → W p l e { frames := 1, cells := 0, slots := 0, locals := 24 } s m args below meth c H locs 0 0 (MQ below ((Ql (S := Unit) (fun (r : Int64) (_ : Unit) => True) (fun (_ : Unit) => ([] : va_W)) D) A) args s 0 0 A) (F0 m 6 ls []) := by
    intro n
    induction n with
    | zero =>
      intro x25000036 x25000037 H locs ls hx25000036 hms hP hD hS hl
      exact absurd hms (Nat.not_lt_zero _)
    | succ n ih25000047 =>
      intro x25000036 x25000037 H locs ls hx25000036 hms hP hD hS hl
      refine lv_iload hx hb dX11_waysFrom_6 (lv_at hl 0 rfl) ?_
      refine lv_iload_n hx hb dX11_waysFrom_8 rfl (lv_at hl 4 rfl) ?_
      refine lv_icmp_gt (tgt := 40) hx hb dX11_waysFrom_9 (by decide) (fun c25000048 => ?_) (fun c25000048 => ?_)
      · skip
        have kc25000048 : p2.toInt < x25000036.toInt := lt_ti rfl rfl c25000048
        refine lv_lload hx hb dX11_waysFrom_40 (lv_at hl 1 rfl) ?_
        exact r_lret () C0 hr hlocks hS (Nat.le_refl _) (Nat.le_refl _) dX11_waysFrom_42 trivial (hP.sub (ws' := []) [] rfl) (hD.sub (ws' := []) [] (by decide +kernel) rfl)
      · skip
        have kc25000048 : x25000036.toInt ≤ p2.toInt := nlt_ti rfl rfl c25000048
        refine lv_lload hx hb dX11_waysFrom_12 (lv_at hl 1 rfl) ?_
        refine lv_iload_n hx hb dX11_waysFrom_14 rfl (lv_at hl 3 rfl) ?_
        refine lv_iload hx hb dX11_waysFrom_15 (lv_at hl 0 rfl) ?_
        refine r_calll (wr := []) (r_runS2 (As := [.int p1, .int x25000036]) (rest := [.long x25000037]) (wc := []) C0 hE hStr hS (va_free (wc := []) hD hS hA [] rfl) (h_X11_over_24900227 l D T sq sv H.size p1 x25000036 ⟨by omega, by omega⟩ ⟨by omega, by omega⟩) mw_1245 mw_1246 mw_14 mw_1247 dn_1799 rfl rfl ⟨Nat.le_of_ble_eq_true rfl, Nat.le_of_ble_eq_true rfl⟩ (hP.sub (ws' := []) [] rfl) (hD.sub (ws' := []) [] (by decide +kernel) rfl) hl.1 rfl (Nat.le_of_ble_eq_true rfl) dX11_waysFrom_17 ⟨Nat.le_of_ble_eq_true rfl, Nat.le_of_ble_eq_true rfl⟩) hP hD hS hA [] [] rfl rfl (by decide +kernel) (by decide +kernel) (fun x25000056 u H locs hq hP hD hS => ?_)
        have hP : va_P D vwCl [] H := hP
        have hD : va_D A [] := hD
        refine W.widen (k := 0) (n := 0) (Nat.le_refl _) (Nat.le_refl _) ?_
        refine lv_iload_n hx hb dX11_waysFrom_20 rfl (lv_at hl 2 rfl) ?_
        refine lv_iload_n hx hb dX11_waysFrom_21 rfl (lv_at hl 3 rfl) ?_
        refine lv_isub hx hb dX11_waysFrom_22 ?_
        refine lv_topi (fun x25000057 ex25000057 => ?_)
        have hx25000057 : x25000057.toInt = p0.toInt - p1.toInt := ti_sub ex25000057 rfl rfl (by omega) (by omega)
        refine lv_iload_n hx hb dX11_waysFrom_23 rfl (lv_at hl 4 rfl) ?_
        refine lv_iload hx hb dX11_waysFrom_24 (lv_at hl 0 rfl) ?_
        refine lv_isub hx hb dX11_waysFrom_26 ?_
        refine lv_topi (fun x25000058 ex25000058 => ?_)
        have hx25000058 : x25000058.toInt = p2.toInt - x25000036.toInt := ti_sub ex25000058 rfl rfl (by omega) (by omega)
        refine r_calll (wr := []) (r_runS2 (As := [.int x25000057, .int x25000058]) (rest := [.long x25000056, .long x25000037]) (wc := []) C0 hE hStr hS (va_free (wc := []) hD hS hA [] rfl) (h_X11_over_24900227 l D T sq sv H.size x25000057 x25000058 ⟨by omega, by omega⟩ ⟨by omega, by omega⟩) mw_1245 mw_1246 mw_14 mw_1247 dn_1799 rfl rfl ⟨Nat.le_of_ble_eq_true rfl, Nat.le_of_ble_eq_true rfl⟩ (hP.sub (ws' := []) [] rfl) (hD.sub (ws' := []) [] (by decide +kernel) rfl) hl.1 rfl (Nat.le_of_ble_eq_true rfl) dX11_waysFrom_27 ⟨Nat.le_of_ble_eq_true rfl, Nat.le_of_ble_eq_true rfl⟩) hP hD hS hA [] [] rfl rfl (by decide +kernel) (by decide +kernel) (fun x25000059 u H locs hq hP hD hS => ?_)
        have hP : va_P D vwCl [] H := hP
        have hD : va_D A [] := hD
        refine W.widen (k := 0) (n := 0) (Nat.le_refl _) (Nat.le_refl _) ?_
        refine lv_lmul hx hb dX11_waysFrom_30 ?_
        refine lv_topl (fun x25000060 ex25000060 => ?_)
        refine lv_ladd hx hb dX11_waysFrom_31 ?_
        refine lv_topl (fun x25000061 ex25000061 => ?_)
        refine lv_lstore (lv' := [(4, .long x25000061), (6, .int x25000036), (0, .int p0), (1, .int p1), (2, .int p2), (3, .int p3)]) hx hb dX11_waysFrom_32 hl (by decide) rfl (fun ls hl => ?_)
        obtain ⟨x25000062, ex25000062⟩ : ∃ y : Int32, y = x25000036 + 1 := ⟨_, rfl⟩
        have hx25000062 : x25000062.toInt = x25000036.toInt + 1 := ti_add ex25000062 rfl (by decide) (by omega) (by omega)
        refine lv_iinc (v := x25000062) (lv' := [(6, .int x25000062), (4, .long x25000061), (0, .int p0), (1, .int p1), (2, .int p2), (3, .int p3)]) hx hb dX11_waysFrom_34 hl (k := 1) rfl (by rw [ex25000062]; rfl) (by decide) rfl (fun ls hl => ?_)
        refine lv_goto (tgt := 6) hx hb dX11_waysFrom_37 (by decide) ?_
        exact ih25000047 x25000062 x25000061 _ _ ls ⟨by omega, by omega⟩ (by omega) (hP.sub (ws' := []) [] rfl) (hD.sub (ws' := []) [] (by decide +kernel) rfl) hS (lv_sub hl [0, 1, 2, 3, 4, 5] rfl)
  exact L25000046 _ p3 0 _ _ ls ⟨by omega, by omega⟩ (Nat.lt_succ_self _) (hP.sub (ws' := []) [] rfl) (hD.sub (ws' := []) [] (by decide +kernel) rfl) hS (lv_sub hl [0, 1, 2, 3, 4, 5] rfl)
set_option maxHeartbeats 4000000 in
set_option maxRecDepth 100000 in
theorem h_X11_found_25100024 (l : Launch) (D : va_G) (T : Nat → ClassId) (sq sv sz : Nat) (a : Nat) (z : Nat → Nat) (i1 i2 i3 i4 i5 i6 i7 i8 i30 i43 i45 i46 i47 i48 i49 i50 i51 i58 i59 i65 i68 i69 i72 i78 i80 i81 i82 i87 i92 i96 i100 i103 i104 : Int32) (p1 : Int32) (p2 : Int32) (p3 : Int32) (p4 : Int32) (p5 : Int32) : Met l yX11_found (.code yX11_found cX11_found 6 (some .long) :: TB) { frames := 2, cells := 0, slots := 0, locals := 50 } (PC2 D T sq sv [.ref a, .int p1, .int p2, .int p3, .int p4, .int p5] [(a, .inr (11, OX z i1 i2 i3 i4 i5 i6 i7 i8 i30 i43 i45 i46 i47 i48 i49 i50 i51 i58 i59 i65 i68 i69 i72 i78 i80 i81 i82 i87 i92 i96 i100 i103 i104))] sz) (Ql (S := Unit) (fun (r : Int64) (_ : Unit) => True) (fun (_ : Unit) => [(a, .inr (11, OX z i1 i2 i3 i4 i5 i6 i7 i8 i30 i43 i45 i46 i47 i48 i49 i50 i51 i58 i59 i65 i68 i69 i72 i78 i80 i81 i82 i87 i92 i96 i100 i103 i104))]) D (va_A [(a, .inr (11, OX z i1 i2 i3 i4 i5 i6 i7 i8 i30 i43 i45 i46 i47 i48 i49 i50 i51 i58 i59 i65 i68 i69 i72 i78 i80 i81 i82 i87 i92 i96 i100 i103 i104))] sz)) 0 0 (va_A [(a, .inr (11, OX z i1 i2 i3 i4 i5 i6 i7 i8 i30 i43 i45 i46 i47 i48 i49 i50 i51 i58 i59 i65 i68 i69 i72 i78 i80 i81 i82 i87 i92 i96 i100 i103 i104))] sz) := by
  refine ct_begin2 (Qc := Ql (S := Unit) (fun (r : Int64) (_ : Unit) => True) (fun (_ : Unit) => [(a, .inr (11, OX z i1 i2 i3 i4 i5 i6 i7 i8 i30 i43 i45 i46 i47 i48 i49 i50 i51 i58 i59 i65 i68 i69 i72 i78 i80 i81 i82 i87 i92 i96 i100 i103 i104))]) D) (by decide +kernel) (Nat.le_of_ble_eq_true rfl) ?_
  intro p e s m below meth c A ls C0 hr hlocks hnm hE hStr hA hP hD hl
  generalize ([.ref a, .int p1, .int p2, .int p3, .int p4, .int p5] : List Value).toArray = args at C0 ⊢
  have hx := C0.1
  have hb := C0.2.1
  have hml := C0.2.2.1
  have hown := C0.2.2.2.1
  have hT := C0.2.2.2.2
  have hK := hE.1
  generalize hH : s.heap = H at hP ⊢
  have hS : va_S A s.heap H [] := by rw [← hH]; exact va_S.rf
  have hP : va_P D vwCl [(a, .inr (11, OX z i1 i2 i3 i4 i5 i6 i7 i8 i30 i43 i45 i46 i47 i48 i49 i50 i51 i58 i59 i65 i68 i69 i72 i78 i80 i81 i82 i87 i92 i96 i100 i103 i104))] H := hP
  have hD : va_D A [(a, .inr (11, OX z i1 i2 i3 i4 i5 i6 i7 i8 i30 i43 i45 i46 i47 i48 i49 i50 i51 i58 i59 i65 i68 i69 i72 i78 i80 i81 i82 i87 i92 i96 i100 i103 i104))] := hD
  have hl : lv_has ls 6 [(0, .ref a), (1, .int p1), (2, .int p2), (3, .int p3), (4, .int p4), (5, .int p5)] := hl
  refine lv_iload_n hx hb dX11_found_0 rfl (lv_at hl 1 rfl) ?_
  refine lv_i2l hx hb dX11_found_1 rfl ?_
  refine lv_topl (fun x25100025 ex25100025 => ?_)
  have hx25100025 : x25100025.toInt = p1.toInt := by rw [ex25100025]; exact Int32.toInt_toInt64 _
  refine lv_lconst (v := 1) hx hb dX11_found_2 (by decide) ?_
  refine lv_ldc2 hx hb hown (hT _ mw_1241) dX11_found_3 ?_
  refine r_calli (wr := [(a, .inr (11, OX z i1 i2 i3 i4 i5 i6 i7 i8 i30 i43 i45 i46 i47 i48 i49 i50 i51 i58 i59 i65 i68 i69 i72 i78 i80 i81 i82 i87 i92 i96 i100 i103 i104))]) (r_runS2 (As := [.long x25100025, .long 1, .long 50]) (rest := []) (wc := []) C0 hE hStr hS (va_free (wc := []) hD hS hA [] rfl) (h_X11_isIn_20000007 l D T sq sv H.size x25100025 1 50) mw_910 mw_911 mw_14 mw_912 dn_1704 rfl rfl ⟨Nat.le_of_ble_eq_true rfl, Nat.le_of_ble_eq_true rfl⟩ (hP.sub (ws' := []) [] rfl) (hD.sub (ws' := []) [] (by decide +kernel) rfl) hl.1 rfl (Nat.le_of_ble_eq_true rfl) dX11_found_6 ⟨Nat.le_of_ble_eq_true rfl, Nat.le_of_ble_eq_true rfl⟩) hP hD hS hA [] [0] rfl rfl (by decide +kernel) (by decide +kernel) (fun x25100026 u H locs hq hP hD hS => ?_)
  obtain ⟨hp25100027, hx25100026⟩ := hq
  have hp25100027 : (x25100026.toInt = 0 ∧ (x25100025.toInt < 1 ∨ 50 < x25100025.toInt)) ∨ (x25100026.toInt = 1 ∧ 1 ≤ x25100025.toInt ∧ x25100025.toInt ≤ 50) := hp25100027
  have hx25100026 : 0 ≤ x25100026.toInt ∧ x25100026.toInt ≤ 1 := hx25100026
  have hl25100028 : (1 : Int64).toInt = 1 := by decide
  have hl25100029 : (50 : Int64).toInt = 50 := by decide
  have hP : va_P D vwCl [(a, .inr (11, OX z i1 i2 i3 i4 i5 i6 i7 i8 i30 i43 i45 i46 i47 i48 i49 i50 i51 i58 i59 i65 i68 i69 i72 i78 i80 i81 i82 i87 i92 i96 i100 i103 i104))] H := hP
  have hD : va_D A [(a, .inr (11, OX z i1 i2 i3 i4 i5 i6 i7 i8 i30 i43 i45 i46 i47 i48 i49 i50 i51 i58 i59 i65 i68 i69 i72 i78 i80 i81 i82 i87 i92 i96 i100 i103 i104))] := hD
  refine W.widen (k := 0) (n := 0) (Nat.le_refl _) (Nat.le_refl _) ?_
  refine lv_if_eq (tgt := 46) hx hb dX11_found_9 (by decide) (fun c25100030 => ?_) (fun c25100030 => ?_)
  · skip
    have kc25100030 : x25100026.toInt = 0 := eq_ti rfl (by decide) c25100030
    refine lv_ldc2 hx hb hown (hT _ mw_1058) dX11_found_46 ?_
    exact r_lret () C0 hr hlocks hS (Nat.le_refl _) (Nat.le_refl _) dX11_found_49 trivial (hP.sub (ws' := [(a, .inr (11, OX z i1 i2 i3 i4 i5 i6 i7 i8 i30 i43 i45 i46 i47 i48 i49 i50 i51 i58 i59 i65 i68 i69 i72 i78 i80 i81 i82 i87 i92 i96 i100 i103 i104))]) [0] rfl) (hD.sub (ws' := [(a, .inr (11, OX z i1 i2 i3 i4 i5 i6 i7 i8 i30 i43 i45 i46 i47 i48 i49 i50 i51 i58 i59 i65 i68 i69 i72 i78 i80 i81 i82 i87 i92 i96 i100 i103 i104))]) [0] (by decide +kernel) rfl)
  · skip
    have kc25100030 : x25100026.toInt ≠ 0 := ne_ti rfl (by decide) c25100030
    have nzx25100026 : ¬ x25100026 = 0 := c25100030
    refine lv_iload_n hx hb dX11_found_12 rfl (lv_at hl 2 rfl) ?_
    refine lv_i2l hx hb dX11_found_13 rfl ?_
    refine lv_topl (fun x25100031 ex25100031 => ?_)
    have hx25100031 : x25100031.toInt = p2.toInt := by rw [ex25100031]; exact Int32.toInt_toInt64 _
    refine lv_lconst (v := 0) hx hb dX11_found_14 (by decide) ?_
    refine lv_iload_n hx hb dX11_found_15 rfl (lv_at hl 1 rfl) ?_
    refine lv_i2l hx hb dX11_found_16 rfl ?_
    refine lv_topl (fun x25100032 ex25100032 => ?_)
    have hx25100032 : x25100032.toInt = p1.toInt := by rw [ex25100032]; exact Int32.toInt_toInt64 _
    refine r_calli (wr := [(a, .inr (11, OX z i1 i2 i3 i4 i5 i6 i7 i8 i30 i43 i45 i46 i47 i48 i49 i50 i51 i58 i59 i65 i68 i69 i72 i78 i80 i81 i82 i87 i92 i96 i100 i103 i104))]) (r_runS2 (As := [.long x25100031, .long 0, .long x25100032]) (rest := []) (wc := []) C0 hE hStr hS (va_free (wc := []) hD hS hA [] rfl) (h_X11_isIn_20000007 l D T sq sv H.size x25100031 0 x25100032) mw_910 mw_911 mw_14 mw_912 dn_1704 rfl rfl ⟨Nat.le_of_ble_eq_true rfl, Nat.le_of_ble_eq_true rfl⟩ (hP.sub (ws' := []) [] rfl) (hD.sub (ws' := []) [] (by decide +kernel) rfl) hl.1 rfl (Nat.le_of_ble_eq_true rfl) dX11_found_17 ⟨Nat.le_of_ble_eq_true rfl, Nat.le_of_ble_eq_true rfl⟩) hP hD hS hA [] [0] rfl rfl (by decide +kernel) (by decide +kernel) (fun x25100033 u H locs hq hP hD hS => ?_)
    obtain ⟨hp25100034, hx25100033⟩ := hq
    have hp25100034 : (x25100033.toInt = 0 ∧ (x25100031.toInt < 0 ∨ x25100032.toInt < x25100031.toInt)) ∨ (x25100033.toInt = 1 ∧ 0 ≤ x25100031.toInt ∧ x25100031.toInt ≤ x25100032.toInt) := hp25100034
    have hx25100033 : 0 ≤ x25100033.toInt ∧ x25100033.toInt ≤ 1 := hx25100033
    have hl25100035 : (0 : Int64).toInt = 0 := by decide
    have hP : va_P D vwCl [(a, .inr (11, OX z i1 i2 i3 i4 i5 i6 i7 i8 i30 i43 i45 i46 i47 i48 i49 i50 i51 i58 i59 i65 i68 i69 i72 i78 i80 i81 i82 i87 i92 i96 i100 i103 i104))] H := hP
    have hD : va_D A [(a, .inr (11, OX z i1 i2 i3 i4 i5 i6 i7 i8 i30 i43 i45 i46 i47 i48 i49 i50 i51 i58 i59 i65 i68 i69 i72 i78 i80 i81 i82 i87 i92 i96 i100 i103 i104))] := hD
    refine W.widen (k := 0) (n := 0) (Nat.le_refl _) (Nat.le_refl _) ?_
    refine lv_if_eq (tgt := 46) hx hb dX11_found_20 (by decide) (fun c25100036 => ?_) (fun c25100036 => ?_)
    · skip
      have kc25100036 : x25100033.toInt = 0 := eq_ti rfl (by decide) c25100036
      refine lv_ldc2 hx hb hown (hT _ mw_1058) dX11_found_46 ?_
      exact r_lret () C0 hr hlocks hS (Nat.le_refl _) (Nat.le_refl _) dX11_found_49 trivial (hP.sub (ws' := [(a, .inr (11, OX z i1 i2 i3 i4 i5 i6 i7 i8 i30 i43 i45 i46 i47 i48 i49 i50 i51 i58 i59 i65 i68 i69 i72 i78 i80 i81 i82 i87 i92 i96 i100 i103 i104))]) [0] rfl) (hD.sub (ws' := [(a, .inr (11, OX z i1 i2 i3 i4 i5 i6 i7 i8 i30 i43 i45 i46 i47 i48 i49 i50 i51 i58 i59 i65 i68 i69 i72 i78 i80 i81 i82 i87 i92 i96 i100 i103 i104))]) [0] (by decide +kernel) rfl)
    · skip
      have kc25100036 : x25100033.toInt ≠ 0 := ne_ti rfl (by decide) c25100036
      have nzx25100033 : ¬ x25100033 = 0 := c25100036
      refine lv_iload_n hx hb dX11_found_23 rfl (lv_at hl 3 rfl) ?_
      refine lv_i2l hx hb dX11_found_24 rfl ?_
      refine lv_topl (fun x25100037 ex25100037 => ?_)
      have hx25100037 : x25100037.toInt = p3.toInt := by rw [ex25100037]; exact Int32.toInt_toInt64 _
      refine lv_lconst (v := 0) hx hb dX11_found_25 (by decide) ?_
      refine lv_iload_n hx hb dX11_found_26 rfl (lv_at hl 1 rfl) ?_
      refine lv_i2l hx hb dX11_found_27 rfl ?_
      refine lv_topl (fun x25100038 ex25100038 => ?_)
      have hx25100038 : x25100038.toInt = p1.toInt := by rw [ex25100038]; exact Int32.toInt_toInt64 _
      refine r_calli (wr := [(a, .inr (11, OX z i1 i2 i3 i4 i5 i6 i7 i8 i30 i43 i45 i46 i47 i48 i49 i50 i51 i58 i59 i65 i68 i69 i72 i78 i80 i81 i82 i87 i92 i96 i100 i103 i104))]) (r_runS2 (As := [.long x25100037, .long 0, .long x25100038]) (rest := []) (wc := []) C0 hE hStr hS (va_free (wc := []) hD hS hA [] rfl) (h_X11_isIn_20000007 l D T sq sv H.size x25100037 0 x25100038) mw_910 mw_911 mw_14 mw_912 dn_1704 rfl rfl ⟨Nat.le_of_ble_eq_true rfl, Nat.le_of_ble_eq_true rfl⟩ (hP.sub (ws' := []) [] rfl) (hD.sub (ws' := []) [] (by decide +kernel) rfl) hl.1 rfl (Nat.le_of_ble_eq_true rfl) dX11_found_28 ⟨Nat.le_of_ble_eq_true rfl, Nat.le_of_ble_eq_true rfl⟩) hP hD hS hA [] [0] rfl rfl (by decide +kernel) (by decide +kernel) (fun x25100039 u H locs hq hP hD hS => ?_)
      obtain ⟨hp25100040, hx25100039⟩ := hq
      have hp25100040 : (x25100039.toInt = 0 ∧ (x25100037.toInt < 0 ∨ x25100038.toInt < x25100037.toInt)) ∨ (x25100039.toInt = 1 ∧ 0 ≤ x25100037.toInt ∧ x25100037.toInt ≤ x25100038.toInt) := hp25100040
      have hx25100039 : 0 ≤ x25100039.toInt ∧ x25100039.toInt ≤ 1 := hx25100039
      have hl25100041 : (0 : Int64).toInt = 0 := by decide
      have hP : va_P D vwCl [(a, .inr (11, OX z i1 i2 i3 i4 i5 i6 i7 i8 i30 i43 i45 i46 i47 i48 i49 i50 i51 i58 i59 i65 i68 i69 i72 i78 i80 i81 i82 i87 i92 i96 i100 i103 i104))] H := hP
      have hD : va_D A [(a, .inr (11, OX z i1 i2 i3 i4 i5 i6 i7 i8 i30 i43 i45 i46 i47 i48 i49 i50 i51 i58 i59 i65 i68 i69 i72 i78 i80 i81 i82 i87 i92 i96 i100 i103 i104))] := hD
      refine W.widen (k := 0) (n := 0) (Nat.le_refl _) (Nat.le_refl _) ?_
      refine lv_if_eq (tgt := 46) hx hb dX11_found_31 (by decide) (fun c25100042 => ?_) (fun c25100042 => ?_)
      · skip
        have kc25100042 : x25100039.toInt = 0 := eq_ti rfl (by decide) c25100042
        refine lv_ldc2 hx hb hown (hT _ mw_1058) dX11_found_46 ?_
        exact r_lret () C0 hr hlocks hS (Nat.le_refl _) (Nat.le_refl _) dX11_found_49 trivial (hP.sub (ws' := [(a, .inr (11, OX z i1 i2 i3 i4 i5 i6 i7 i8 i30 i43 i45 i46 i47 i48 i49 i50 i51 i58 i59 i65 i68 i69 i72 i78 i80 i81 i82 i87 i92 i96 i100 i103 i104))]) [0] rfl) (hD.sub (ws' := [(a, .inr (11, OX z i1 i2 i3 i4 i5 i6 i7 i8 i30 i43 i45 i46 i47 i48 i49 i50 i51 i58 i59 i65 i68 i69 i72 i78 i80 i81 i82 i87 i92 i96 i100 i103 i104))]) [0] (by decide +kernel) rfl)
      · skip
        have kc25100042 : x25100039.toInt ≠ 0 := ne_ti rfl (by decide) c25100042
        have nzx25100039 : ¬ x25100039 = 0 := c25100042
        refine lv_iload hx hb dX11_found_34 (lv_at hl 4 rfl) ?_
        refine lv_i2l hx hb dX11_found_36 rfl ?_
        refine lv_topl (fun x25100043 ex25100043 => ?_)
        have hx25100043 : x25100043.toInt = p4.toInt := by rw [ex25100043]; exact Int32.toInt_toInt64 _
        refine lv_lconst (v := 0) hx hb dX11_found_37 (by decide) ?_
        refine lv_iload_n hx hb dX11_found_38 rfl (lv_at hl 3 rfl) ?_
        refine lv_i2l hx hb dX11_found_39 rfl ?_
        refine lv_topl (fun x25100044 ex25100044 => ?_)
        have hx25100044 : x25100044.toInt = p3.toInt := by rw [ex25100044]; exact Int32.toInt_toInt64 _
        refine r_calli (wr := [(a, .inr (11, OX z i1 i2 i3 i4 i5 i6 i7 i8 i30 i43 i45 i46 i47 i48 i49 i50 i51 i58 i59 i65 i68 i69 i72 i78 i80 i81 i82 i87 i92 i96 i100 i103 i104))]) (r_runS2 (As := [.long x25100043, .long 0, .long x25100044]) (rest := []) (wc := []) C0 hE hStr hS (va_free (wc := []) hD hS hA [] rfl) (h_X11_isIn_20000007 l D T sq sv H.size x25100043 0 x25100044) mw_910 mw_911 mw_14 mw_912 dn_1704 rfl rfl ⟨Nat.le_of_ble_eq_true rfl, Nat.le_of_ble_eq_true rfl⟩ (hP.sub (ws' := []) [] rfl) (hD.sub (ws' := []) [] (by decide +kernel) rfl) hl.1 rfl (Nat.le_of_ble_eq_true rfl) dX11_found_40 ⟨Nat.le_of_ble_eq_true rfl, Nat.le_of_ble_eq_true rfl⟩) hP hD hS hA [] [0] rfl rfl (by decide +kernel) (by decide +kernel) (fun x25100045 u H locs hq hP hD hS => ?_)
        obtain ⟨hp25100046, hx25100045⟩ := hq
        have hp25100046 : (x25100045.toInt = 0 ∧ (x25100043.toInt < 0 ∨ x25100044.toInt < x25100043.toInt)) ∨ (x25100045.toInt = 1 ∧ 0 ≤ x25100043.toInt ∧ x25100043.toInt ≤ x25100044.toInt) := hp25100046
        have hx25100045 : 0 ≤ x25100045.toInt ∧ x25100045.toInt ≤ 1 := hx25100045
        have hl25100047 : (0 : Int64).toInt = 0 := by decide
        have hP : va_P D vwCl [(a, .inr (11, OX z i1 i2 i3 i4 i5 i6 i7 i8 i30 i43 i45 i46 i47 i48 i49 i50 i51 i58 i59 i65 i68 i69 i72 i78 i80 i81 i82 i87 i92 i96 i100 i103 i104))] H := hP
        have hD : va_D A [(a, .inr (11, OX z i1 i2 i3 i4 i5 i6 i7 i8 i30 i43 i45 i46 i47 i48 i49 i50 i51 i58 i59 i65 i68 i69 i72 i78 i80 i81 i82 i87 i92 i96 i100 i103 i104))] := hD
        refine W.widen (k := 0) (n := 0) (Nat.le_refl _) (Nat.le_refl _) ?_
        refine lv_if_ne (tgt := 50) hx hb dX11_found_43 (by decide) (fun c25100048 => ?_) (fun c25100048 => ?_)
        · skip
          have kc25100048 : x25100045.toInt ≠ 0 := ne_ti rfl (by decide) c25100048
          have nzx25100045 : ¬ x25100045 = 0 := c25100048
          refine lv_iload hx hb dX11_found_50 (lv_at hl 5 rfl) ?_
          have J25100053 : ∀ (x25100052 : Int64) (H : Heap) (locs : List Loc) (ls : Array Slot), va_P D vwCl [(a, .inr (11, OX z i1 i2 i3 i4 i5 i6 i7 i8 i30 i43 i45 i46 i47 i48 i49 i50 i51 i58 i59 i65 i68 i69 i72 i78 i80 i81 i82 i87 i92 i96 i100 i103 i104))] H → va_D A [(a, .inr (11, OX z i1 i2 i3 i4 i5 i6 i7 i8 i30 i43 i45 i46 i47 i48 i49 i50 i51 i58 i59 i65 i68 i69 i72 i78 i80 i81 i82 i87 i92 i96 i100 i103 i104))] → va_S A s.heap H locs → lv_has ls 6 [(0, .ref a), (1, .int p1), (2, .int p2), (3, .int p3), (4, .int p4), (5, .int p5)] → W p l e { frames := 2, cells := 0, slots := 0, locals := 50 } s m args below meth c H locs 0 0 (MQ below ((Ql (S := Unit) (fun (r : Int64) (_ : Unit) => True) (fun (_ : Unit) => [(a, .inr (11, OX z i1 i2 i3 i4 i5 i6 i7 i8 i30 i43 i45 i46 i47 i48 i49 i50 i51 i58 i59 i65 i68 i69 i72 i78 i80 i81 i82 i87 i92 i96 i100 i103 i104))]) D) A) args s 0 0 A) (F0 m 71 ls [.long x25100052]) := by
            intro x25100052 H locs ls hP hD hS hl
            exact r_lret () C0 hr hlocks hS (Nat.le_refl _) (Nat.le_refl _) dX11_found_71 trivial (hP.sub (ws' := [(a, .inr (11, OX z i1 i2 i3 i4 i5 i6 i7 i8 i30 i43 i45 i46 i47 i48 i49 i50 i51 i58 i59 i65 i68 i69 i72 i78 i80 i81 i82 i87 i92 i96 i100 i103 i104))]) [0] rfl) (hD.sub (ws' := [(a, .inr (11, OX z i1 i2 i3 i4 i5 i6 i7 i8 i30 i43 i45 i46 i47 i48 i49 i50 i51 i58 i59 i65 i68 i69 i72 i78 i80 i81 i82 i87 i92 i96 i100 i103 i104))]) [0] (by decide +kernel) rfl)
          refine lv_if_eq (tgt := 66) hx hb dX11_found_52 (by decide) (fun c25100049 => ?_) (fun c25100049 => ?_)
          · skip
            have kc25100049 : p5.toInt = 0 := eq_ti rfl (by decide) c25100049
            refine lv_iload_n hx hb dX11_found_66 rfl (lv_at hl 1 rfl) ?_
            refine lv_iload_n hx hb dX11_found_67 rfl (lv_at hl 3 rfl) ?_
            refine r_calll (wr := [(a, .inr (11, OX z i1 i2 i3 i4 i5 i6 i7 i8 i30 i43 i45 i46 i47 i48 i49 i50 i51 i58 i59 i65 i68 i69 i72 i78 i80 i81 i82 i87 i92 i96 i100 i103 i104))]) (r_runS2 (As := [.int p1, .int p3]) (rest := []) (wc := []) C0 hE hStr hS (va_free (wc := []) hD hS hA [] rfl) (h_X11_over_24900227 l D T sq sv H.size p1 p3 ⟨by omega, by omega⟩ ⟨by omega, by omega⟩) mw_1245 mw_1246 mw_14 mw_1247 dn_1799 rfl rfl ⟨Nat.le_of_ble_eq_true rfl, Nat.le_of_ble_eq_true rfl⟩ (hP.sub (ws' := []) [] rfl) (hD.sub (ws' := []) [] (by decide +kernel) rfl) hl.1 rfl (Nat.le_of_ble_eq_true rfl) dX11_found_68 ⟨Nat.le_of_ble_eq_true rfl, Nat.le_of_ble_eq_true rfl⟩) hP hD hS hA [] [0] rfl rfl (by decide +kernel) (by decide +kernel) (fun x25100054 u H locs hq hP hD hS => ?_)
            have hP : va_P D vwCl [(a, .inr (11, OX z i1 i2 i3 i4 i5 i6 i7 i8 i30 i43 i45 i46 i47 i48 i49 i50 i51 i58 i59 i65 i68 i69 i72 i78 i80 i81 i82 i87 i92 i96 i100 i103 i104))] H := hP
            have hD : va_D A [(a, .inr (11, OX z i1 i2 i3 i4 i5 i6 i7 i8 i30 i43 i45 i46 i47 i48 i49 i50 i51 i58 i59 i65 i68 i69 i72 i78 i80 i81 i82 i87 i92 i96 i100 i103 i104))] := hD
            refine W.widen (k := 0) (n := 0) (Nat.le_refl _) (Nat.le_refl _) ?_
            exact J25100053 x25100054 _ _ ls (hP.sub (ws' := [(a, .inr (11, OX z i1 i2 i3 i4 i5 i6 i7 i8 i30 i43 i45 i46 i47 i48 i49 i50 i51 i58 i59 i65 i68 i69 i72 i78 i80 i81 i82 i87 i92 i96 i100 i103 i104))]) [0] rfl) (hD.sub (ws' := [(a, .inr (11, OX z i1 i2 i3 i4 i5 i6 i7 i8 i30 i43 i45 i46 i47 i48 i49 i50 i51 i58 i59 i65 i68 i69 i72 i78 i80 i81 i82 i87 i92 i96 i100 i103 i104))]) [0] (by decide +kernel) rfl) hS (lv_sub hl [0, 1, 2, 3, 4, 5] rfl)
          · skip
            have kc25100049 : p5.toInt ≠ 0 := ne_ti rfl (by decide) c25100049
            have nzp5 : ¬ p5 = 0 := c25100049
            refine lv_iload_n hx hb dX11_found_55 rfl (lv_at hl 1 rfl) ?_
            refine lv_iload_n hx hb dX11_found_56 rfl (lv_at hl 2 rfl) ?_
            refine lv_iload_n hx hb dX11_found_57 rfl (lv_at hl 3 rfl) ?_
            refine lv_iload hx hb dX11_found_58 (lv_at hl 4 rfl) ?_
            refine r_calll (wr := [(a, .inr (11, OX z i1 i2 i3 i4 i5 i6 i7 i8 i30 i43 i45 i46 i47 i48 i49 i50 i51 i58 i59 i65 i68 i69 i72 i78 i80 i81 i82 i87 i92 i96 i100 i103 i104))]) (r_runS2 (As := [.int p1, .int p2, .int p3, .int p4]) (rest := []) (wc := []) C0 hE hStr hS (va_free (wc := []) hD hS hA [] rfl) (h_X11_waysFrom_25000027 l D T sq sv H.size p1 p2 p3 p4 ⟨by omega, by omega⟩ ⟨by omega, by omega⟩ ⟨by omega, by omega⟩ ⟨by omega, by omega⟩) mw_1242 mw_1243 mw_14 mw_1244 dn_1800 rfl rfl ⟨Nat.le_of_ble_eq_true rfl, Nat.le_of_ble_eq_true rfl⟩ (hP.sub (ws' := []) [] rfl) (hD.sub (ws' := []) [] (by decide +kernel) rfl) hl.1 rfl (Nat.le_of_ble_eq_true rfl) dX11_found_60 ⟨Nat.le_of_ble_eq_true rfl, Nat.le_of_ble_eq_true rfl⟩) hP hD hS hA [] [0] rfl rfl (by decide +kernel) (by decide +kernel) (fun x25100055 u H locs hq hP hD hS => ?_)
            have hP : va_P D vwCl [(a, .inr (11, OX z i1 i2 i3 i4 i5 i6 i7 i8 i30 i43 i45 i46 i47 i48 i49 i50 i51 i58 i59 i65 i68 i69 i72 i78 i80 i81 i82 i87 i92 i96 i100 i103 i104))] H := hP
            have hD : va_D A [(a, .inr (11, OX z i1 i2 i3 i4 i5 i6 i7 i8 i30 i43 i45 i46 i47 i48 i49 i50 i51 i58 i59 i65 i68 i69 i72 i78 i80 i81 i82 i87 i92 i96 i100 i103 i104))] := hD
            refine W.widen (k := 0) (n := 0) (Nat.le_refl _) (Nat.le_refl _) ?_
            refine lv_goto (tgt := 71) hx hb dX11_found_63 (by decide) ?_
            exact J25100053 x25100055 _ _ ls (hP.sub (ws' := [(a, .inr (11, OX z i1 i2 i3 i4 i5 i6 i7 i8 i30 i43 i45 i46 i47 i48 i49 i50 i51 i58 i59 i65 i68 i69 i72 i78 i80 i81 i82 i87 i92 i96 i100 i103 i104))]) [0] rfl) (hD.sub (ws' := [(a, .inr (11, OX z i1 i2 i3 i4 i5 i6 i7 i8 i30 i43 i45 i46 i47 i48 i49 i50 i51 i58 i59 i65 i68 i69 i72 i78 i80 i81 i82 i87 i92 i96 i100 i103 i104))]) [0] (by decide +kernel) rfl) hS (lv_sub hl [0, 1, 2, 3, 4, 5] rfl)
        · skip
          have kc25100048 : x25100045.toInt = 0 := eq_ti rfl (by decide) c25100048
          refine lv_ldc2 hx hb hown (hT _ mw_1058) dX11_found_46 ?_
          exact r_lret () C0 hr hlocks hS (Nat.le_refl _) (Nat.le_refl _) dX11_found_49 trivial (hP.sub (ws' := [(a, .inr (11, OX z i1 i2 i3 i4 i5 i6 i7 i8 i30 i43 i45 i46 i47 i48 i49 i50 i51 i58 i59 i65 i68 i69 i72 i78 i80 i81 i82 i87 i92 i96 i100 i103 i104))]) [0] rfl) (hD.sub (ws' := [(a, .inr (11, OX z i1 i2 i3 i4 i5 i6 i7 i8 i30 i43 i45 i46 i47 i48 i49 i50 i51 i58 i59 i65 i68 i69 i72 i78 i80 i81 i82 i87 i92 i96 i100 i103 i104))]) [0] (by decide +kernel) rfl)
set_option maxHeartbeats 4000000 in
set_option maxRecDepth 100000 in
theorem h_X11_tests_25200275 (l : Launch) (D : va_G) (T : Nat → ClassId) (sq sv sz : Nat) (a : Nat) (z : Nat → Nat) (i1 i2 i3 i4 i5 i6 i7 i8 i30 i43 i45 i46 i47 i48 i49 i50 i51 i58 i59 i65 i68 i69 i72 i78 i80 i81 i82 i87 i92 i96 i100 i103 i104 : Int32) (p1 : Int32) (p2 : Int32) (p3 : Int32) : Met l yX11_tests (.code yX11_tests cX11_tests 5 (some .int) :: TB) { frames := 2, cells := 0, slots := 0, locals := 50 } (PC2 D T sq sv [.ref a, .int p1, .int p2, .int p3] [(a, .inr (11, OX z i1 i2 i3 i4 i5 i6 i7 i8 i30 i43 i45 i46 i47 i48 i49 i50 i51 i58 i59 i65 i68 i69 i72 i78 i80 i81 i82 i87 i92 i96 i100 i103 i104))] sz) (Qi (S := Unit) (fun (r : Int32) (_ : Unit) => (-1 ≤ r.toInt ∧ r.toInt ≤ 50)) (fun (_ : Unit) => [(a, .inr (11, OX z i1 i2 i3 i4 i5 i6 i7 i8 i30 i43 i45 i46 i47 i48 i49 i50 i51 i58 i59 i65 i68 i69 i72 i78 i80 i81 i82 i87 i92 i96 i100 i103 i104))]) D (va_A [(a, .inr (11, OX z i1 i2 i3 i4 i5 i6 i7 i8 i30 i43 i45 i46 i47 i48 i49 i50 i51 i58 i59 i65 i68 i69 i72 i78 i80 i81 i82 i87 i92 i96 i100 i103 i104))] sz)) 0 0 (va_A [(a, .inr (11, OX z i1 i2 i3 i4 i5 i6 i7 i8 i30 i43 i45 i46 i47 i48 i49 i50 i51 i58 i59 i65 i68 i69 i72 i78 i80 i81 i82 i87 i92 i96 i100 i103 i104))] sz) := by
  refine ct_begin2 (Qc := Qi (S := Unit) (fun (r : Int32) (_ : Unit) => (-1 ≤ r.toInt ∧ r.toInt ≤ 50)) (fun (_ : Unit) => [(a, .inr (11, OX z i1 i2 i3 i4 i5 i6 i7 i8 i30 i43 i45 i46 i47 i48 i49 i50 i51 i58 i59 i65 i68 i69 i72 i78 i80 i81 i82 i87 i92 i96 i100 i103 i104))]) D) (by decide +kernel) (Nat.le_of_ble_eq_true rfl) ?_
  intro p e s m below meth c A ls C0 hr hlocks hnm hE hStr hA hP hD hl
  generalize ([.ref a, .int p1, .int p2, .int p3] : List Value).toArray = args at C0 ⊢
  have hx := C0.1
  have hb := C0.2.1
  have hml := C0.2.2.1
  have hown := C0.2.2.2.1
  have hT := C0.2.2.2.2
  have hK := hE.1
  generalize hH : s.heap = H at hP ⊢
  have hS : va_S A s.heap H [] := by rw [← hH]; exact va_S.rf
  have hP : va_P D vwCl [(a, .inr (11, OX z i1 i2 i3 i4 i5 i6 i7 i8 i30 i43 i45 i46 i47 i48 i49 i50 i51 i58 i59 i65 i68 i69 i72 i78 i80 i81 i82 i87 i92 i96 i100 i103 i104))] H := hP
  have hD : va_D A [(a, .inr (11, OX z i1 i2 i3 i4 i5 i6 i7 i8 i30 i43 i45 i46 i47 i48 i49 i50 i51 i58 i59 i65 i68 i69 i72 i78 i80 i81 i82 i87 i92 i96 i100 i103 i104))] := hD
  have hl : lv_has ls 5 [(0, .ref a), (1, .int p1), (2, .int p2), (3, .int p3)] := hl
  refine lv_iload_n hx hb dX11_tests_0 rfl (lv_at hl 1 rfl) ?_
  refine lv_i2l hx hb dX11_tests_1 rfl ?_
  refine lv_topl (fun x25200276 ex25200276 => ?_)
  have hx25200276 : x25200276.toInt = p1.toInt := by rw [ex25200276]; exact Int32.toInt_toInt64 _
  refine lv_lconst (v := 1) hx hb dX11_tests_2 (by decide) ?_
  refine lv_ldc2 hx hb hown (hT _ mw_1241) dX11_tests_3 ?_
  refine r_calli (wr := [(a, .inr (11, OX z i1 i2 i3 i4 i5 i6 i7 i8 i30 i43 i45 i46 i47 i48 i49 i50 i51 i58 i59 i65 i68 i69 i72 i78 i80 i81 i82 i87 i92 i96 i100 i103 i104))]) (r_runS2 (As := [.long x25200276, .long 1, .long 50]) (rest := []) (wc := []) C0 hE hStr hS (va_free (wc := []) hD hS hA [] rfl) (h_X11_isIn_20000007 l D T sq sv H.size x25200276 1 50) mw_910 mw_911 mw_14 mw_912 dn_1704 rfl rfl ⟨Nat.le_of_ble_eq_true rfl, Nat.le_of_ble_eq_true rfl⟩ (hP.sub (ws' := []) [] rfl) (hD.sub (ws' := []) [] (by decide +kernel) rfl) hl.1 rfl (Nat.le_of_ble_eq_true rfl) dX11_tests_6 ⟨Nat.le_of_ble_eq_true rfl, Nat.le_of_ble_eq_true rfl⟩) hP hD hS hA [] [0] rfl rfl (by decide +kernel) (by decide +kernel) (fun x25200277 u H locs hq hP hD hS => ?_)
  obtain ⟨hp25200278, hx25200277⟩ := hq
  have hp25200278 : (x25200277.toInt = 0 ∧ (x25200276.toInt < 1 ∨ 50 < x25200276.toInt)) ∨ (x25200277.toInt = 1 ∧ 1 ≤ x25200276.toInt ∧ x25200276.toInt ≤ 50) := hp25200278
  have hx25200277 : 0 ≤ x25200277.toInt ∧ x25200277.toInt ≤ 1 := hx25200277
  have hl25200279 : (1 : Int64).toInt = 1 := by decide
  have hl25200280 : (50 : Int64).toInt = 50 := by decide
  have hP : va_P D vwCl [(a, .inr (11, OX z i1 i2 i3 i4 i5 i6 i7 i8 i30 i43 i45 i46 i47 i48 i49 i50 i51 i58 i59 i65 i68 i69 i72 i78 i80 i81 i82 i87 i92 i96 i100 i103 i104))] H := hP
  have hD : va_D A [(a, .inr (11, OX z i1 i2 i3 i4 i5 i6 i7 i8 i30 i43 i45 i46 i47 i48 i49 i50 i51 i58 i59 i65 i68 i69 i72 i78 i80 i81 i82 i87 i92 i96 i100 i103 i104))] := hD
  refine W.widen (k := 0) (n := 0) (Nat.le_refl _) (Nat.le_refl _) ?_
  refine lv_if_eq (tgt := 35) hx hb dX11_tests_9 (by decide) (fun c25200281 => ?_) (fun c25200281 => ?_)
  · skip
    have kc25200281 : x25200277.toInt = 0 := eq_ti rfl (by decide) c25200281
    refine lv_iconst (v := (-1)) hx hb dX11_tests_35 (by decide) ?_
    exact r_iret () C0 hr hlocks hS (Nat.le_refl _) (Nat.le_refl _) dX11_tests_36 ⟨by decide, by decide⟩ (hP.sub (ws' := [(a, .inr (11, OX z i1 i2 i3 i4 i5 i6 i7 i8 i30 i43 i45 i46 i47 i48 i49 i50 i51 i58 i59 i65 i68 i69 i72 i78 i80 i81 i82 i87 i92 i96 i100 i103 i104))]) [0] rfl) (hD.sub (ws' := [(a, .inr (11, OX z i1 i2 i3 i4 i5 i6 i7 i8 i30 i43 i45 i46 i47 i48 i49 i50 i51 i58 i59 i65 i68 i69 i72 i78 i80 i81 i82 i87 i92 i96 i100 i103 i104))]) [0] (by decide +kernel) rfl)
  · skip
    have kc25200281 : x25200277.toInt ≠ 0 := ne_ti rfl (by decide) c25200281
    have nzx25200277 : ¬ x25200277 = 0 := c25200281
    refine lv_iload_n hx hb dX11_tests_12 rfl (lv_at hl 2 rfl) ?_
    refine lv_i2l hx hb dX11_tests_13 rfl ?_
    refine lv_topl (fun x25200282 ex25200282 => ?_)
    have hx25200282 : x25200282.toInt = p2.toInt := by rw [ex25200282]; exact Int32.toInt_toInt64 _
    refine lv_lconst (v := 0) hx hb dX11_tests_14 (by decide) ?_
    refine lv_iload_n hx hb dX11_tests_15 rfl (lv_at hl 1 rfl) ?_
    refine lv_i2l hx hb dX11_tests_16 rfl ?_
    refine lv_topl (fun x25200283 ex25200283 => ?_)
    have hx25200283 : x25200283.toInt = p1.toInt := by rw [ex25200283]; exact Int32.toInt_toInt64 _
    refine r_calli (wr := [(a, .inr (11, OX z i1 i2 i3 i4 i5 i6 i7 i8 i30 i43 i45 i46 i47 i48 i49 i50 i51 i58 i59 i65 i68 i69 i72 i78 i80 i81 i82 i87 i92 i96 i100 i103 i104))]) (r_runS2 (As := [.long x25200282, .long 0, .long x25200283]) (rest := []) (wc := []) C0 hE hStr hS (va_free (wc := []) hD hS hA [] rfl) (h_X11_isIn_20000007 l D T sq sv H.size x25200282 0 x25200283) mw_910 mw_911 mw_14 mw_912 dn_1704 rfl rfl ⟨Nat.le_of_ble_eq_true rfl, Nat.le_of_ble_eq_true rfl⟩ (hP.sub (ws' := []) [] rfl) (hD.sub (ws' := []) [] (by decide +kernel) rfl) hl.1 rfl (Nat.le_of_ble_eq_true rfl) dX11_tests_17 ⟨Nat.le_of_ble_eq_true rfl, Nat.le_of_ble_eq_true rfl⟩) hP hD hS hA [] [0] rfl rfl (by decide +kernel) (by decide +kernel) (fun x25200284 u H locs hq hP hD hS => ?_)
    obtain ⟨hp25200285, hx25200284⟩ := hq
    have hp25200285 : (x25200284.toInt = 0 ∧ (x25200282.toInt < 0 ∨ x25200283.toInt < x25200282.toInt)) ∨ (x25200284.toInt = 1 ∧ 0 ≤ x25200282.toInt ∧ x25200282.toInt ≤ x25200283.toInt) := hp25200285
    have hx25200284 : 0 ≤ x25200284.toInt ∧ x25200284.toInt ≤ 1 := hx25200284
    have hl25200286 : (0 : Int64).toInt = 0 := by decide
    have hP : va_P D vwCl [(a, .inr (11, OX z i1 i2 i3 i4 i5 i6 i7 i8 i30 i43 i45 i46 i47 i48 i49 i50 i51 i58 i59 i65 i68 i69 i72 i78 i80 i81 i82 i87 i92 i96 i100 i103 i104))] H := hP
    have hD : va_D A [(a, .inr (11, OX z i1 i2 i3 i4 i5 i6 i7 i8 i30 i43 i45 i46 i47 i48 i49 i50 i51 i58 i59 i65 i68 i69 i72 i78 i80 i81 i82 i87 i92 i96 i100 i103 i104))] := hD
    refine W.widen (k := 0) (n := 0) (Nat.le_refl _) (Nat.le_refl _) ?_
    refine lv_if_eq (tgt := 35) hx hb dX11_tests_20 (by decide) (fun c25200287 => ?_) (fun c25200287 => ?_)
    · skip
      have kc25200287 : x25200284.toInt = 0 := eq_ti rfl (by decide) c25200287
      refine lv_iconst (v := (-1)) hx hb dX11_tests_35 (by decide) ?_
      exact r_iret () C0 hr hlocks hS (Nat.le_refl _) (Nat.le_refl _) dX11_tests_36 ⟨by decide, by decide⟩ (hP.sub (ws' := [(a, .inr (11, OX z i1 i2 i3 i4 i5 i6 i7 i8 i30 i43 i45 i46 i47 i48 i49 i50 i51 i58 i59 i65 i68 i69 i72 i78 i80 i81 i82 i87 i92 i96 i100 i103 i104))]) [0] rfl) (hD.sub (ws' := [(a, .inr (11, OX z i1 i2 i3 i4 i5 i6 i7 i8 i30 i43 i45 i46 i47 i48 i49 i50 i51 i58 i59 i65 i68 i69 i72 i78 i80 i81 i82 i87 i92 i96 i100 i103 i104))]) [0] (by decide +kernel) rfl)
    · skip
      have kc25200287 : x25200284.toInt ≠ 0 := ne_ti rfl (by decide) c25200287
      have nzx25200284 : ¬ x25200284 = 0 := c25200287
      refine lv_iload_n hx hb dX11_tests_23 rfl (lv_at hl 3 rfl) ?_
      refine lv_i2l hx hb dX11_tests_24 rfl ?_
      refine lv_topl (fun x25200288 ex25200288 => ?_)
      have hx25200288 : x25200288.toInt = p3.toInt := by rw [ex25200288]; exact Int32.toInt_toInt64 _
      refine lv_lconst (v := 1) hx hb dX11_tests_25 (by decide) ?_
      refine lv_ldc2 hx hb hown (hT _ mw_1085) dX11_tests_26 ?_
      refine r_calli (wr := [(a, .inr (11, OX z i1 i2 i3 i4 i5 i6 i7 i8 i30 i43 i45 i46 i47 i48 i49 i50 i51 i58 i59 i65 i68 i69 i72 i78 i80 i81 i82 i87 i92 i96 i100 i103 i104))]) (r_runS2 (As := [.long x25200288, .long 1, .long 1000]) (rest := []) (wc := []) C0 hE hStr hS (va_free (wc := []) hD hS hA [] rfl) (h_X11_isIn_20000007 l D T sq sv H.size x25200288 1 1000) mw_910 mw_911 mw_14 mw_912 dn_1704 rfl rfl ⟨Nat.le_of_ble_eq_true rfl, Nat.le_of_ble_eq_true rfl⟩ (hP.sub (ws' := []) [] rfl) (hD.sub (ws' := []) [] (by decide +kernel) rfl) hl.1 rfl (Nat.le_of_ble_eq_true rfl) dX11_tests_29 ⟨Nat.le_of_ble_eq_true rfl, Nat.le_of_ble_eq_true rfl⟩) hP hD hS hA [] [0] rfl rfl (by decide +kernel) (by decide +kernel) (fun x25200289 u H locs hq hP hD hS => ?_)
      obtain ⟨hp25200290, hx25200289⟩ := hq
      have hp25200290 : (x25200289.toInt = 0 ∧ (x25200288.toInt < 1 ∨ 1000 < x25200288.toInt)) ∨ (x25200289.toInt = 1 ∧ 1 ≤ x25200288.toInt ∧ x25200288.toInt ≤ 1000) := hp25200290
      have hx25200289 : 0 ≤ x25200289.toInt ∧ x25200289.toInt ≤ 1 := hx25200289
      have hl25200291 : (1 : Int64).toInt = 1 := by decide
      have hl25200292 : (1000 : Int64).toInt = 1000 := by decide
      have hP : va_P D vwCl [(a, .inr (11, OX z i1 i2 i3 i4 i5 i6 i7 i8 i30 i43 i45 i46 i47 i48 i49 i50 i51 i58 i59 i65 i68 i69 i72 i78 i80 i81 i82 i87 i92 i96 i100 i103 i104))] H := hP
      have hD : va_D A [(a, .inr (11, OX z i1 i2 i3 i4 i5 i6 i7 i8 i30 i43 i45 i46 i47 i48 i49 i50 i51 i58 i59 i65 i68 i69 i72 i78 i80 i81 i82 i87 i92 i96 i100 i103 i104))] := hD
      refine W.widen (k := 0) (n := 0) (Nat.le_refl _) (Nat.le_refl _) ?_
      refine lv_if_ne (tgt := 37) hx hb dX11_tests_32 (by decide) (fun c25200293 => ?_) (fun c25200293 => ?_)
      · skip
        have kc25200293 : x25200289.toInt ≠ 0 := ne_ti rfl (by decide) c25200293
        have nzx25200289 : ¬ x25200289 = 0 := c25200293
        refine lv_iconst (v := 0) hx hb dX11_tests_37 (by decide) ?_
        refine lv_istore (lv' := [(4, .int 0), (0, .ref a), (1, .int p1), (2, .int p2), (3, .int p3)]) hx hb dX11_tests_38 hl (by decide) rfl (fun ls hl => ?_)
        have L25200545 : ∀ (n : Nat) (x25200534 : Int32) (H : Heap) (locs : List Loc) (ls : Array Slot), (0 ≤ x25200534.toInt ∧ x25200534.toInt ≤ 63) → (64 - x25200534.toInt).toNat < n → va_P D vwCl [(a, .inr (11, OX z i1 i2 i3 i4 i5 i6 i7 i8 i30 i43 i45 i46 i47 i48 i49 i50 i51 i58 i59 i65 i68 i69 i72 i78 i80 i81 i82 i87 i92 i96 i100 i103 i104))] H → va_D A [(a, .inr (11, OX z i1 i2 i3 i4 i5 i6 i7 i8 i30 i43 i45 i46 i47 i48 i49 i50 i51 i58 i59 i65 i68 i69 i72 i78 i80 i81 i82 i87 i92 i96 i100 i103 i104))] → va_S A s.heap H locs → lv_has ls 5 [(4, .int x25200534), (0, .ref a), (1, .int p1), (2, .int p2), (3, .int p3)] → W p l e { frames := 2, cells := 0, slots := 0, locals := 50 } s m args below meth c H locs 0 0 (MQ below ((Qi (S := Unit) (fun (r : Int32) (_ : Unit) => (-1 ≤ r.toInt ∧ r.toInt ≤ 50)) (fun (_ : Unit) => [(a, .inr (11, OX z i1 i2 i3 i4 i5 i6 i7 i8 i30 i43 i45 i46 i47 i48 i49 i50 i51 i58 i59 i65 i68 i69 i72 i78 i80 i81 i82 i87 i92 i96 i100 i103 i104))]) D) A) args s 0 0 A) (F0 m 40 ls []) := by
          intro n
          induction n with
          | zero =>
            intro x25200534 H locs ls hx25200534 hms hP hD hS hl
            exact absurd hms (Nat.not_lt_zero _)
          | succ n ih25200546 =>
            intro x25200534 H locs ls hx25200534 hms hP hD hS hl
            refine lv_iload hx hb dX11_tests_40 (lv_at hl 0 rfl) ?_
            refine lv_iload_n hx hb dX11_tests_42 rfl (lv_at hl 2 rfl) ?_
            refine lv_icmp_gt (tgt := 80) hx hb dX11_tests_43 (by decide) (fun c25200547 => ?_) (fun c25200547 => ?_)
            · skip
              have kc25200547 : p1.toInt < x25200534.toInt := lt_ti rfl rfl c25200547
              refine lv_iconst (v := (-1)) hx hb dX11_tests_80 (by decide) ?_
              exact r_iret () C0 hr hlocks hS (Nat.le_refl _) (Nat.le_refl _) dX11_tests_81 ⟨by decide, by decide⟩ (hP.sub (ws' := [(a, .inr (11, OX z i1 i2 i3 i4 i5 i6 i7 i8 i30 i43 i45 i46 i47 i48 i49 i50 i51 i58 i59 i65 i68 i69 i72 i78 i80 i81 i82 i87 i92 i96 i100 i103 i104))]) [0] rfl) (hD.sub (ws' := [(a, .inr (11, OX z i1 i2 i3 i4 i5 i6 i7 i8 i30 i43 i45 i46 i47 i48 i49 i50 i51 i58 i59 i65 i68 i69 i72 i78 i80 i81 i82 i87 i92 i96 i100 i103 i104))]) [0] (by decide +kernel) rfl)
            · skip
              have kc25200547 : x25200534.toInt ≤ p1.toInt := nlt_ti rfl rfl c25200547
              refine lv_iload_n hx hb dX11_tests_46 rfl (lv_at hl 2 rfl) ?_
              refine lv_iload_n hx hb dX11_tests_47 rfl (lv_at hl 3 rfl) ?_
              refine lv_iload hx hb dX11_tests_48 (lv_at hl 0 rfl) ?_
              refine lv_iconst (v := 1) hx hb dX11_tests_50 (by decide) ?_
              refine r_calll (wr := [(a, .inr (11, OX z i1 i2 i3 i4 i5 i6 i7 i8 i30 i43 i45 i46 i47 i48 i49 i50 i51 i58 i59 i65 i68 i69 i72 i78 i80 i81 i82 i87 i92 i96 i100 i103 i104))]) (r_runS2 (As := [.int p1, .int p2, .int x25200534, .int 1]) (rest := []) (wc := []) C0 hE hStr hS (va_free (wc := []) hD hS hA [] rfl) (h_X11_waysFrom_25000027 l D T sq sv H.size p1 p2 x25200534 1 ⟨by omega, by omega⟩ ⟨by omega, by omega⟩ ⟨by omega, by omega⟩ ⟨by decide, by decide⟩) mw_1242 mw_1243 mw_14 mw_1244 dn_1800 rfl rfl ⟨Nat.le_of_ble_eq_true rfl, Nat.le_of_ble_eq_true rfl⟩ (hP.sub (ws' := []) [] rfl) (hD.sub (ws' := []) [] (by decide +kernel) rfl) hl.1 rfl (Nat.le_of_ble_eq_true rfl) dX11_tests_51 ⟨Nat.le_of_ble_eq_true rfl, Nat.le_of_ble_eq_true rfl⟩) hP hD hS hA [] [0] rfl rfl (by decide +kernel) (by decide +kernel) (fun x25200548 u H locs hq hP hD hS => ?_)
              have hP : va_P D vwCl [(a, .inr (11, OX z i1 i2 i3 i4 i5 i6 i7 i8 i30 i43 i45 i46 i47 i48 i49 i50 i51 i58 i59 i65 i68 i69 i72 i78 i80 i81 i82 i87 i92 i96 i100 i103 i104))] H := hP
              have hD : va_D A [(a, .inr (11, OX z i1 i2 i3 i4 i5 i6 i7 i8 i30 i43 i45 i46 i47 i48 i49 i50 i51 i58 i59 i65 i68 i69 i72 i78 i80 i81 i82 i87 i92 i96 i100 i103 i104))] := hD
              refine W.widen (k := 0) (n := 0) (Nat.le_refl _) (Nat.le_refl _) ?_
              refine lv_ldc2 hx hb hown (hT _ mw_1085) dX11_tests_54 ?_
              refine lv_lmul hx hb dX11_tests_57 ?_
              refine lv_topl (fun x25200549 ex25200549 => ?_)
              refine lv_iload_n hx hb dX11_tests_58 rfl (lv_at hl 4 rfl) ?_
              refine lv_i2l hx hb dX11_tests_59 rfl ?_
              refine lv_topl (fun x25200550 ex25200550 => ?_)
              have hx25200550 : x25200550.toInt = p3.toInt := by rw [ex25200550]; exact Int32.toInt_toInt64 _
              refine lv_iload_n hx hb dX11_tests_60 rfl (lv_at hl 2 rfl) ?_
              refine lv_iload hx hb dX11_tests_61 (lv_at hl 0 rfl) ?_
              refine r_calll (wr := [(a, .inr (11, OX z i1 i2 i3 i4 i5 i6 i7 i8 i30 i43 i45 i46 i47 i48 i49 i50 i51 i58 i59 i65 i68 i69 i72 i78 i80 i81 i82 i87 i92 i96 i100 i103 i104))]) (r_runS2 (As := [.int p1, .int x25200534]) (rest := [.long x25200550, .long x25200549]) (wc := []) C0 hE hStr hS (va_free (wc := []) hD hS hA [] rfl) (h_X11_over_24900227 l D T sq sv H.size p1 x25200534 ⟨by omega, by omega⟩ ⟨by omega, by omega⟩) mw_1245 mw_1246 mw_14 mw_1247 dn_1799 rfl rfl ⟨Nat.le_of_ble_eq_true rfl, Nat.le_of_ble_eq_true rfl⟩ (hP.sub (ws' := []) [] rfl) (hD.sub (ws' := []) [] (by decide +kernel) rfl) hl.1 rfl (Nat.le_of_ble_eq_true rfl) dX11_tests_63 ⟨Nat.le_of_ble_eq_true rfl, Nat.le_of_ble_eq_true rfl⟩) hP hD hS hA [] [0] rfl rfl (by decide +kernel) (by decide +kernel) (fun x25200551 u H locs hq hP hD hS => ?_)
              have hP : va_P D vwCl [(a, .inr (11, OX z i1 i2 i3 i4 i5 i6 i7 i8 i30 i43 i45 i46 i47 i48 i49 i50 i51 i58 i59 i65 i68 i69 i72 i78 i80 i81 i82 i87 i92 i96 i100 i103 i104))] H := hP
              have hD : va_D A [(a, .inr (11, OX z i1 i2 i3 i4 i5 i6 i7 i8 i30 i43 i45 i46 i47 i48 i49 i50 i51 i58 i59 i65 i68 i69 i72 i78 i80 i81 i82 i87 i92 i96 i100 i103 i104))] := hD
              refine W.widen (k := 0) (n := 0) (Nat.le_refl _) (Nat.le_refl _) ?_
              refine lv_lmul hx hb dX11_tests_66 ?_
              refine lv_topl (fun x25200552 ex25200552 => ?_)
              refine W.lcmp hx hb dX11_tests_67 ?_
              refine lv_topi (fun x25200553 ex25200553 => ?_)
              refine lv_if_lt (tgt := 74) hx hb dX11_tests_68 (by decide) (fun c25200554 => ?_) (fun c25200554 => ?_)
              · skip
                have kc25200554 : x25200553.toInt < 0 := lt_ti rfl (by decide) c25200554
                have qc25200554 : x25200549.toInt < x25200552.toInt := lc_lt ex25200553 rfl rfl kc25200554
                have rg25200555 := i32_rng x25200553
                obtain ⟨x25200556, ex25200556⟩ : ∃ y : Int32, y = x25200534 + 1 := ⟨_, rfl⟩
                have hx25200556 : x25200556.toInt = x25200534.toInt + 1 := ti_add ex25200556 rfl (by decide) (by omega) (by omega)
                refine lv_iinc (v := x25200556) (lv' := [(4, .int x25200556), (0, .ref a), (1, .int p1), (2, .int p2), (3, .int p3)]) hx hb dX11_tests_74 hl (k := 0) rfl (by rw [ex25200556]; rfl) (by decide) rfl (fun ls hl => ?_)
                refine lv_goto (tgt := 40) hx hb dX11_tests_77 (by decide) ?_
                exact ih25200546 x25200556 _ _ ls ⟨by omega, by omega⟩ (by omega) (hP.sub (ws' := [(a, .inr (11, OX z i1 i2 i3 i4 i5 i6 i7 i8 i30 i43 i45 i46 i47 i48 i49 i50 i51 i58 i59 i65 i68 i69 i72 i78 i80 i81 i82 i87 i92 i96 i100 i103 i104))]) [0] rfl) (hD.sub (ws' := [(a, .inr (11, OX z i1 i2 i3 i4 i5 i6 i7 i8 i30 i43 i45 i46 i47 i48 i49 i50 i51 i58 i59 i65 i68 i69 i72 i78 i80 i81 i82 i87 i92 i96 i100 i103 i104))]) [0] (by decide +kernel) rfl) hS (lv_sub hl [0, 1, 2, 3, 4] rfl)
              · skip
                have kc25200554 : 0 ≤ x25200553.toInt := nlt_ti rfl (by decide) c25200554
                have qc25200554 : x25200552.toInt ≤ x25200549.toInt := lc_ge ex25200553 rfl rfl kc25200554
                refine lv_iload hx hb dX11_tests_71 (lv_at hl 0 rfl) ?_
                exact r_iret () C0 hr hlocks hS (Nat.le_refl _) (Nat.le_refl _) dX11_tests_73 ⟨by omega, by omega⟩ (hP.sub (ws' := [(a, .inr (11, OX z i1 i2 i3 i4 i5 i6 i7 i8 i30 i43 i45 i46 i47 i48 i49 i50 i51 i58 i59 i65 i68 i69 i72 i78 i80 i81 i82 i87 i92 i96 i100 i103 i104))]) [0] rfl) (hD.sub (ws' := [(a, .inr (11, OX z i1 i2 i3 i4 i5 i6 i7 i8 i30 i43 i45 i46 i47 i48 i49 i50 i51 i58 i59 i65 i68 i69 i72 i78 i80 i81 i82 i87 i92 i96 i100 i103 i104))]) [0] (by decide +kernel) rfl)
        exact L25200545 _ 0 _ _ ls ⟨by decide, by decide⟩ (Nat.lt_succ_self _) (hP.sub (ws' := [(a, .inr (11, OX z i1 i2 i3 i4 i5 i6 i7 i8 i30 i43 i45 i46 i47 i48 i49 i50 i51 i58 i59 i65 i68 i69 i72 i78 i80 i81 i82 i87 i92 i96 i100 i103 i104))]) [0] rfl) (hD.sub (ws' := [(a, .inr (11, OX z i1 i2 i3 i4 i5 i6 i7 i8 i30 i43 i45 i46 i47 i48 i49 i50 i51 i58 i59 i65 i68 i69 i72 i78 i80 i81 i82 i87 i92 i96 i100 i103 i104))]) [0] (by decide +kernel) rfl) hS (lv_sub hl [0, 1, 2, 3, 4] rfl)
      · skip
        have kc25200293 : x25200289.toInt = 0 := eq_ti rfl (by decide) c25200293
        refine lv_iconst (v := (-1)) hx hb dX11_tests_35 (by decide) ?_
        exact r_iret () C0 hr hlocks hS (Nat.le_refl _) (Nat.le_refl _) dX11_tests_36 ⟨by decide, by decide⟩ (hP.sub (ws' := [(a, .inr (11, OX z i1 i2 i3 i4 i5 i6 i7 i8 i30 i43 i45 i46 i47 i48 i49 i50 i51 i58 i59 i65 i68 i69 i72 i78 i80 i81 i82 i87 i92 i96 i100 i103 i104))]) [0] rfl) (hD.sub (ws' := [(a, .inr (11, OX z i1 i2 i3 i4 i5 i6 i7 i8 i30 i43 i45 i46 i47 i48 i49 i50 i51 i58 i59 i65 i68 i69 i72 i78 i80 i81 i82 i87 i92 i96 i100 i103 i104))]) [0] (by decide +kernel) rfl)
