set_option maxHeartbeats 4000000 in
set_option maxRecDepth 100000 in
theorem h_X11_takesSign_27800010 (l : Launch) (D : va_G) (T : Nat → ClassId) (sq sv sz : Nat) (a : Nat) (z : Nat → Nat) (i1 i2 i3 i4 i5 i6 i7 i8 i30 i43 i45 i46 i47 i48 i49 i50 i51 i58 i59 i65 i68 i69 i72 i78 i80 i81 i82 i87 i92 i96 i100 i103 i104 : Int32) (p1 : Int32) (g0 : Nat → Int32) (hi2 : 0 ≤ i2.toInt ∧ i2.toInt ≤ 700) (hi3 : 0 ≤ i3.toInt ∧ i3.toInt ≤ 700) (hp1 : 0 ≤ p1.toInt ∧ p1.toInt ≤ 255) : Met l yX11_takesSign (.code yX11_takesSign cX11_takesSign 2 (some .boolean) :: TB) { frames := 1, cells := 0, slots := 0, locals := 20 } (PC2 D T sq sv [.ref a, .int p1] [(a, .inr (11, OX z i1 i2 i3 i4 i5 i6 i7 i8 i30 i43 i45 i46 i47 i48 i49 i50 i51 i58 i59 i65 i68 i69 i72 i78 i80 i81 i82 i87 i92 i96 i100 i103 i104)), ((z 0), .inl (T 0, 700, .inl g0))] sz) (Qi (S := Int32) (fun (r : Int32) (ui2 : Int32) => (0 ≤ ui2.toInt ∧ ui2.toInt ≤ 700) ∧ (i2.toInt ≤ ui2.toInt) ∧ (((r.toInt = 0 ∧ i2.toInt ≤ ui2.toInt)) ∨ ((r.toInt = 1 ∧ i2.toInt + 1 ≤ ui2.toInt ∧ i5.toInt = 0))) ∧ (0 ≤ r.toInt ∧ r.toInt ≤ 1)) (fun (ui2 : Int32) => [(a, .inr (11, OX z i1 ui2 i3 i4 i5 i6 i7 i8 i30 i43 i45 i46 i47 i48 i49 i50 i51 i58 i59 i65 i68 i69 i72 i78 i80 i81 i82 i87 i92 i96 i100 i103 i104)), ((z 0), .inl (T 0, 700, .inl g0))]) D (va_A [(a, .inr (11, OX z i1 i2 i3 i4 i5 i6 i7 i8 i30 i43 i45 i46 i47 i48 i49 i50 i51 i58 i59 i65 i68 i69 i72 i78 i80 i81 i82 i87 i92 i96 i100 i103 i104)), ((z 0), .inl (T 0, 700, .inl g0))] sz)) 0 0 (va_A [(a, .inr (11, OX z i1 i2 i3 i4 i5 i6 i7 i8 i30 i43 i45 i46 i47 i48 i49 i50 i51 i58 i59 i65 i68 i69 i72 i78 i80 i81 i82 i87 i92 i96 i100 i103 i104)), ((z 0), .inl (T 0, 700, .inl g0))] sz) := by
  refine ct_begin2 (Qc := Qi (S := Int32) (fun (r : Int32) (ui2 : Int32) => (0 ≤ ui2.toInt ∧ ui2.toInt ≤ 700) ∧ (i2.toInt ≤ ui2.toInt) ∧ (((r.toInt = 0 ∧ i2.toInt ≤ ui2.toInt)) ∨ ((r.toInt = 1 ∧ i2.toInt + 1 ≤ ui2.toInt ∧ i5.toInt = 0))) ∧ (0 ≤ r.toInt ∧ r.toInt ≤ 1)) (fun (ui2 : Int32) => [(a, .inr (11, OX z i1 ui2 i3 i4 i5 i6 i7 i8 i30 i43 i45 i46 i47 i48 i49 i50 i51 i58 i59 i65 i68 i69 i72 i78 i80 i81 i82 i87 i92 i96 i100 i103 i104)), ((z 0), .inl (T 0, 700, .inl g0))]) D) (by decide +kernel) (Nat.le_of_ble_eq_true rfl) ?_
  intro p e s m below meth c A ls C0 hr hlocks hnm hE hStr hA hP hD hl
  generalize ([.ref a, .int p1] : List Value).toArray = args at C0 ⊢
  have hx := C0.1
  have hb := C0.2.1
  have hml := C0.2.2.1
  have hown := C0.2.2.2.1
  have hT := C0.2.2.2.2
  have hK := hE.1
  generalize hH : s.heap = H at hP ⊢
  have hS : va_S A s.heap H [] := by rw [← hH]; exact va_S.rf
  have hP : va_P D vwCl [(a, .inr (11, OX z i1 i2 i3 i4 i5 i6 i7 i8 i30 i43 i45 i46 i47 i48 i49 i50 i51 i58 i59 i65 i68 i69 i72 i78 i80 i81 i82 i87 i92 i96 i100 i103 i104)), ((z 0), .inl (T 0, 700, .inl g0))] H := hP
  have hD : va_D A [(a, .inr (11, OX z i1 i2 i3 i4 i5 i6 i7 i8 i30 i43 i45 i46 i47 i48 i49 i50 i51 i58 i59 i65 i68 i69 i72 i78 i80 i81 i82 i87 i92 i96 i100 i103 i104)), ((z 0), .inl (T 0, 700, .inl g0))] := hD
  have hl : lv_has ls 2 [(0, .ref a), (1, .int p1)] := hl
  refine lv_aload_n hx hb dX11_takesSign_0 rfl (lv_at hl 0 rfl) ?_
  refine r_get (v := .int i5) C0 hE ffX11_5 mw_795 hP 0 rfl ox_5 dX11_takesSign_1 ?_
  refine lv_if_ne (tgt := 15) hx hb dX11_takesSign_4 (by decide) (fun c27800011 => ?_) (fun c27800011 => ?_)
  · skip
    have kc27800011 : i5.toInt ≠ 0 := ne_ti rfl (by decide) c27800011
    have nzi5 : ¬ i5 = 0 := c27800011
    refine lv_iconst (v := 0) hx hb dX11_takesSign_15 (by decide) ?_
    have hl27800012 : (0 : Int32).toInt = 0 := by decide
    have hl27800013 : (0 : Int32).toInt = 0 := by decide
    exact r_zret (i2 : Int32) C0 hr (by decide +kernel) hlocks hS (Nat.le_refl _) (Nat.le_refl _) dX11_takesSign_16 ⟨⟨by omega, by omega⟩, (by omega), (Or.inl (by omega)), ⟨by decide, by decide⟩⟩ (hP.sub (ws' := [(a, .inr (11, OX z i1 i2 i3 i4 i5 i6 i7 i8 i30 i43 i45 i46 i47 i48 i49 i50 i51 i58 i59 i65 i68 i69 i72 i78 i80 i81 i82 i87 i92 i96 i100 i103 i104)), ((z 0), .inl (T 0, 700, .inl g0))]) [0, 1] rfl) (hD.sub (ws' := [(a, .inr (11, OX z i1 i2 i3 i4 i5 i6 i7 i8 i30 i43 i45 i46 i47 i48 i49 i50 i51 i58 i59 i65 i68 i69 i72 i78 i80 i81 i82 i87 i92 i96 i100 i103 i104)), ((z 0), .inl (T 0, 700, .inl g0))]) [0, 1] (by decide +kernel) rfl)
  · skip
    have kc27800011 : i5.toInt = 0 := eq_ti rfl (by decide) c27800011
    refine lv_aload_n hx hb dX11_takesSign_7 rfl (lv_at hl 0 rfl) ?_
    refine r_calli (wr := []) (r_runV2 (As := []) (rest := []) (wc := [(a, .inr (11, OX z i1 i2 i3 i4 i5 i6 i7 i8 i30 i43 i45 i46 i47 i48 i49 i50 i51 i58 i59 i65 i68 i69 i72 i78 i80 i81 i82 i87 i92 i96 i100 i103 i104)), ((z 0), .inl (T 0, 700, .inl g0))]) (ci := 11) C0 hE hStr hS (va_free (wc := [(a, .inr (11, OX z i1 i2 i3 i4 i5 i6 i7 i8 i30 i43 i45 i46 i47 i48 i49 i50 i51 i58 i59 i65 i68 i69 i72 i78 i80 i81 i82 i87 i92 i96 i100 i103 i104)), ((z 0), .inl (T 0, 700, .inl g0))]) hD hS hA [0, 1] rfl) (h_X11_look_20600027 l D T sq sv H.size a z i1 i2 i3 i4 i5 i6 i7 i8 i30 i43 i45 i46 i47 i48 i49 i50 i51 i58 i59 i65 i68 i69 i72 i78 i80 i81 i82 i87 i92 i96 i100 i103 i104 g0 ⟨by omega, by omega⟩ ⟨by omega, by omega⟩) mw_913 mw_914 mw_1297 mw_14 mw_915 dn_1710 rfl rfl ⟨Nat.le_of_ble_eq_true rfl, Nat.le_of_ble_eq_true rfl⟩ (hP.sub (ws' := [(a, .inr (11, OX z i1 i2 i3 i4 i5 i6 i7 i8 i30 i43 i45 i46 i47 i48 i49 i50 i51 i58 i59 i65 i68 i69 i72 i78 i80 i81 i82 i87 i92 i96 i100 i103 i104)), ((z 0), .inl (T 0, 700, .inl g0))]) [0, 1] rfl) (hD.sub (ws' := [(a, .inr (11, OX z i1 i2 i3 i4 i5 i6 i7 i8 i30 i43 i45 i46 i47 i48 i49 i50 i51 i58 i59 i65 i68 i69 i72 i78 i80 i81 i82 i87 i92 i96 i100 i103 i104)), ((z 0), .inl (T 0, 700, .inl g0))]) [0, 1] (by decide +kernel) rfl) rfl rfl rfl hl.1 rfl (Nat.le_of_ble_eq_true rfl) dX11_takesSign_8 ⟨Nat.le_of_ble_eq_true rfl, Nat.le_of_ble_eq_true rfl⟩) hP hD hS hA [0, 1] [] rfl rfl (by decide +kernel) (by decide +kernel) (fun x27800014 u H locs hq hP hD hS => ?_)
    obtain ⟨x27800015, rfl⟩ : ∃ y, y = u := ⟨_, rfl⟩
    obtain ⟨hx27800015, hp27800016, hAlt⟩ := hq
    have hx27800015 : 0 ≤ x27800015.toInt ∧ x27800015.toInt ≤ 700 := hx27800015
    have hp27800016 : i2.toInt ≤ x27800015.toInt := hp27800016
    have hP : va_P D vwCl [(a, .inr (11, OX z i1 x27800015 i3 i4 i5 i6 i7 i8 i30 i43 i45 i46 i47 i48 i49 i50 i51 i58 i59 i65 i68 i69 i72 i78 i80 i81 i82 i87 i92 i96 i100 i103 i104)), ((z 0), .inl (T 0, 700, .inl g0))] H := hP
    have hD : va_D A [(a, .inr (11, OX z i1 x27800015 i3 i4 i5 i6 i7 i8 i30 i43 i45 i46 i47 i48 i49 i50 i51 i58 i59 i65 i68 i69 i72 i78 i80 i81 i82 i87 i92 i96 i100 i103 i104)), ((z 0), .inl (T 0, 700, .inl g0))] := hD
    rcases hAlt with hAlt | hAlt
    · skip
      have hp27800017 := hAlt
      have hp27800017 : x27800014.toInt = -1 ∧ i2.toInt ≤ x27800015.toInt := hp27800017
      clear hAlt
      refine W.widen (k := 0) (n := 0) (Nat.le_refl _) (Nat.le_refl _) ?_
      refine lv_iload_n hx hb dX11_takesSign_11 rfl (lv_at hl 1 rfl) ?_
      refine lv_icmp_eq (tgt := 17) hx hb dX11_takesSign_12 (by decide) (fun hc => by have hf : x27800014.toInt = p1.toInt := eq_ti rfl rfl hc; omega) (fun c27800018 => ?_)
      have kc27800018 : x27800014.toInt ≠ p1.toInt := ne_ti rfl rfl c27800018
      refine lv_iconst (v := 0) hx hb dX11_takesSign_15 (by decide) ?_
      have hl27800019 : (0 : Int32).toInt = 0 := by decide
      have hl27800020 : (0 : Int32).toInt = 0 := by decide
      exact r_zret (x27800015 : Int32) C0 hr (by decide +kernel) hlocks hS (Nat.le_refl _) (Nat.le_refl _) dX11_takesSign_16 ⟨⟨by omega, by omega⟩, (by omega), (Or.inl (by omega)), ⟨by decide, by decide⟩⟩ (hP.sub (ws' := [(a, .inr (11, OX z i1 x27800015 i3 i4 i5 i6 i7 i8 i30 i43 i45 i46 i47 i48 i49 i50 i51 i58 i59 i65 i68 i69 i72 i78 i80 i81 i82 i87 i92 i96 i100 i103 i104)), ((z 0), .inl (T 0, 700, .inl g0))]) [0, 1] rfl) (hD.sub (ws' := [(a, .inr (11, OX z i1 x27800015 i3 i4 i5 i6 i7 i8 i30 i43 i45 i46 i47 i48 i49 i50 i51 i58 i59 i65 i68 i69 i72 i78 i80 i81 i82 i87 i92 i96 i100 i103 i104)), ((z 0), .inl (T 0, 700, .inl g0))]) [0, 1] (by decide +kernel) rfl)
    · skip
      have hp27800021 := hAlt
      have hp27800021 : i2.toInt ≤ x27800015.toInt ∧ x27800015.toInt < i3.toInt ∧ x27800014.toInt = (g0 (Int32.toNatClampNeg x27800015)).toInt := hp27800021
      clear hAlt
      refine W.widen (k := 0) (n := 0) (Nat.le_refl _) (Nat.le_refl _) ?_
      refine lv_iload_n hx hb dX11_takesSign_11 rfl (lv_at hl 1 rfl) ?_
      refine lv_icmp_eq (tgt := 17) hx hb dX11_takesSign_12 (by decide) (fun c27800022 => ?_) (fun c27800022 => ?_)
      · skip
        have kc27800022 : x27800014.toInt = p1.toInt := eq_ti rfl rfl c27800022
        refine lv_aload_n hx hb dX11_takesSign_17 rfl (lv_at hl 0 rfl) ?_
        refine lv_dup hx hb dX11_takesSign_18 rfl ?_
        refine r_get (v := .int x27800015) C0 hE ffX11_2 mw_792 hP 0 rfl ox_2 dX11_takesSign_19 ?_
        refine lv_iconst (v := 1) hx hb dX11_takesSign_22 (by decide) ?_
        refine lv_iadd hx hb dX11_takesSign_23 ?_
        refine lv_topi (fun x27800023 ex27800023 => ?_)
        have hx27800023 : x27800023.toInt = x27800015.toInt + 1 := ti_add ex27800023 rfl (by decide) (by omega) (by omega)
        refine r_put (v := .int x27800023) (ty := .int) (ws1 := [(a, .inr (11, OX z i1 x27800023 i3 i4 i5 i6 i7 i8 i30 i43 i45 i46 i47 i48 i49 i50 i51 i58 i59 i65 i68 i69 i72 i78 i80 i81 i82 i87 i92 i96 i100 i103 i104)), ((z 0), .inl (T 0, 700, .inl g0))]) C0 hE ffX11_2 tyX11 tyX11_ok nmX11 mw_792 pf_1358 hP hD hS 0 rfl rfl rfl ol_2 os_2 rfl dX11_takesSign_24 (fun H locs hP hD hS => ?_)
        refine lv_iconst (v := 1) hx hb dX11_takesSign_27 (by decide) ?_
        have hl27800024 : (1 : Int32).toInt = 1 := by decide
        have hl27800025 : (1 : Int32).toInt = 1 := by decide
        exact r_zret (x27800023 : Int32) C0 hr (by decide +kernel) hlocks hS (Nat.le_refl _) (Nat.le_refl _) dX11_takesSign_28 ⟨⟨by omega, by omega⟩, (by omega), (Or.inr (by omega)), ⟨by decide, by decide⟩⟩ (hP.sub (ws' := [(a, .inr (11, OX z i1 x27800023 i3 i4 i5 i6 i7 i8 i30 i43 i45 i46 i47 i48 i49 i50 i51 i58 i59 i65 i68 i69 i72 i78 i80 i81 i82 i87 i92 i96 i100 i103 i104)), ((z 0), .inl (T 0, 700, .inl g0))]) [0, 1] rfl) (hD.sub (ws' := [(a, .inr (11, OX z i1 x27800023 i3 i4 i5 i6 i7 i8 i30 i43 i45 i46 i47 i48 i49 i50 i51 i58 i59 i65 i68 i69 i72 i78 i80 i81 i82 i87 i92 i96 i100 i103 i104)), ((z 0), .inl (T 0, 700, .inl g0))]) [0, 1] (by decide +kernel) rfl)
      · skip
        have kc27800022 : x27800014.toInt ≠ p1.toInt := ne_ti rfl rfl c27800022
        refine lv_iconst (v := 0) hx hb dX11_takesSign_15 (by decide) ?_
        have hl27800026 : (0 : Int32).toInt = 0 := by decide
        have hl27800027 : (0 : Int32).toInt = 0 := by decide
        exact r_zret (x27800015 : Int32) C0 hr (by decide +kernel) hlocks hS (Nat.le_refl _) (Nat.le_refl _) dX11_takesSign_16 ⟨⟨by omega, by omega⟩, (by omega), (Or.inl (by omega)), ⟨by decide, by decide⟩⟩ (hP.sub (ws' := [(a, .inr (11, OX z i1 x27800015 i3 i4 i5 i6 i7 i8 i30 i43 i45 i46 i47 i48 i49 i50 i51 i58 i59 i65 i68 i69 i72 i78 i80 i81 i82 i87 i92 i96 i100 i103 i104)), ((z 0), .inl (T 0, 700, .inl g0))]) [0, 1] rfl) (hD.sub (ws' := [(a, .inr (11, OX z i1 x27800015 i3 i4 i5 i6 i7 i8 i30 i43 i45 i46 i47 i48 i49 i50 i51 i58 i59 i65 i68 i69 i72 i78 i80 i81 i82 i87 i92 i96 i100 i103 i104)), ((z 0), .inl (T 0, 700, .inl g0))]) [0, 1] (by decide +kernel) rfl)
set_option maxHeartbeats 4000000 in
set_option maxRecDepth 100000 in
theorem h_X11_asksSign_27900015 (l : Launch) (D : va_G) (T : Nat → ClassId) (sq sv sz : Nat) (a : Nat) (z : Nat → Nat) (i1 i2 i3 i4 i5 i6 i7 i8 i30 i43 i45 i46 i47 i48 i49 i50 i51 i58 i59 i65 i68 i69 i72 i78 i80 i81 i82 i87 i92 i96 i100 i103 i104 : Int32) (p1 : Int32) (g0 : Nat → Int32) (hi2 : 0 ≤ i2.toInt ∧ i2.toInt ≤ 700) (hi3 : 0 ≤ i3.toInt ∧ i3.toInt ≤ 700) (hp1 : 0 ≤ p1.toInt ∧ p1.toInt ≤ 255) : Met l yX11_asksSign (.code yX11_asksSign cX11_asksSign 2 none :: TB) { frames := 2, cells := 0, slots := 0, locals := 41 } (PC2 D T sq sv [.ref a, .int p1] [(a, .inr (11, OX z i1 i2 i3 i4 i5 i6 i7 i8 i30 i43 i45 i46 i47 i48 i49 i50 i51 i58 i59 i65 i68 i69 i72 i78 i80 i81 i82 i87 i92 i96 i100 i103 i104)), ((z 0), .inl (T 0, 700, .inl g0))] sz) (Qv2 (S := Int32 × Int32 × Int32) (fun (u : Int32 × Int32 × Int32) => match u with | (ui2, ui5, ui6) => (0 ≤ ui2.toInt ∧ ui2.toInt ≤ 700) ∧ (i2.toInt ≤ ui2.toInt) ∧ (((ui5.toInt ≠ 0 ∧ i2.toInt ≤ ui2.toInt)) ∨ ((ui5.toInt = 0 ∧ i5.toInt = 0 ∧ i2.toInt + 1 ≤ ui2.toInt)))) (fun (u : Int32 × Int32 × Int32) => match u with | (ui2, ui5, ui6) => [(a, .inr (11, OX z i1 ui2 i3 i4 ui5 ui6 i7 i8 i30 i43 i45 i46 i47 i48 i49 i50 i51 i58 i59 i65 i68 i69 i72 i78 i80 i81 i82 i87 i92 i96 i100 i103 i104)), ((z 0), .inl (T 0, 700, .inl g0))]) D (va_A [(a, .inr (11, OX z i1 i2 i3 i4 i5 i6 i7 i8 i30 i43 i45 i46 i47 i48 i49 i50 i51 i58 i59 i65 i68 i69 i72 i78 i80 i81 i82 i87 i92 i96 i100 i103 i104)), ((z 0), .inl (T 0, 700, .inl g0))] sz)) 0 0 (va_A [(a, .inr (11, OX z i1 i2 i3 i4 i5 i6 i7 i8 i30 i43 i45 i46 i47 i48 i49 i50 i51 i58 i59 i65 i68 i69 i72 i78 i80 i81 i82 i87 i92 i96 i100 i103 i104)), ((z 0), .inl (T 0, 700, .inl g0))] sz) := by
  refine ct_begin2 (Qc := Qv2 (S := Int32 × Int32 × Int32) (fun (u : Int32 × Int32 × Int32) => match u with | (ui2, ui5, ui6) => (0 ≤ ui2.toInt ∧ ui2.toInt ≤ 700) ∧ (i2.toInt ≤ ui2.toInt) ∧ (((ui5.toInt ≠ 0 ∧ i2.toInt ≤ ui2.toInt)) ∨ ((ui5.toInt = 0 ∧ i5.toInt = 0 ∧ i2.toInt + 1 ≤ ui2.toInt)))) (fun (u : Int32 × Int32 × Int32) => match u with | (ui2, ui5, ui6) => [(a, .inr (11, OX z i1 ui2 i3 i4 ui5 ui6 i7 i8 i30 i43 i45 i46 i47 i48 i49 i50 i51 i58 i59 i65 i68 i69 i72 i78 i80 i81 i82 i87 i92 i96 i100 i103 i104)), ((z 0), .inl (T 0, 700, .inl g0))]) D) (by decide +kernel) (Nat.le_of_ble_eq_true rfl) ?_
  intro p e s m below meth c A ls C0 hr hlocks hnm hE hStr hA hP hD hl
  generalize ([.ref a, .int p1] : List Value).toArray = args at C0 ⊢
  have hx := C0.1
  have hb := C0.2.1
  have hml := C0.2.2.1
  have hown := C0.2.2.2.1
  have hT := C0.2.2.2.2
  have hK := hE.1
  generalize hH : s.heap = H at hP ⊢
  have hS : va_S A s.heap H [] := by rw [← hH]; exact va_S.rf
  have hP : va_P D vwCl [(a, .inr (11, OX z i1 i2 i3 i4 i5 i6 i7 i8 i30 i43 i45 i46 i47 i48 i49 i50 i51 i58 i59 i65 i68 i69 i72 i78 i80 i81 i82 i87 i92 i96 i100 i103 i104)), ((z 0), .inl (T 0, 700, .inl g0))] H := hP
  have hD : va_D A [(a, .inr (11, OX z i1 i2 i3 i4 i5 i6 i7 i8 i30 i43 i45 i46 i47 i48 i49 i50 i51 i58 i59 i65 i68 i69 i72 i78 i80 i81 i82 i87 i92 i96 i100 i103 i104)), ((z 0), .inl (T 0, 700, .inl g0))] := hD
  have hl : lv_has ls 2 [(0, .ref a), (1, .int p1)] := hl
  refine lv_aload_n hx hb dX11_asksSign_0 rfl (lv_at hl 0 rfl) ?_
  refine r_get (v := .int i5) C0 hE ffX11_5 mw_795 hP 0 rfl ox_5 dX11_asksSign_1 ?_
  refine lv_if_ne (tgt := 24) hx hb dX11_asksSign_4 (by decide) (fun c27900016 => ?_) (fun c27900016 => ?_)
  · skip
    have kc27900016 : i5.toInt ≠ 0 := ne_ti rfl (by decide) c27900016
    have nzi5 : ¬ i5 = 0 := c27900016
    exact r_vret2 (i2, i5, i6) C0 hr hlocks hS (Nat.le_refl _) (Nat.le_refl _) dX11_asksSign_24 ⟨⟨by omega, by omega⟩, (by omega), (Or.inl (by omega))⟩ (hP.sub (ws' := [(a, .inr (11, OX z i1 i2 i3 i4 i5 i6 i7 i8 i30 i43 i45 i46 i47 i48 i49 i50 i51 i58 i59 i65 i68 i69 i72 i78 i80 i81 i82 i87 i92 i96 i100 i103 i104)), ((z 0), .inl (T 0, 700, .inl g0))]) [0, 1] rfl) (hD.sub (ws' := [(a, .inr (11, OX z i1 i2 i3 i4 i5 i6 i7 i8 i30 i43 i45 i46 i47 i48 i49 i50 i51 i58 i59 i65 i68 i69 i72 i78 i80 i81 i82 i87 i92 i96 i100 i103 i104)), ((z 0), .inl (T 0, 700, .inl g0))]) [0, 1] (by decide +kernel) rfl)
  · skip
    have kc27900016 : i5.toInt = 0 := eq_ti rfl (by decide) c27900016
    refine lv_aload_n hx hb dX11_asksSign_7 rfl (lv_at hl 0 rfl) ?_
    refine lv_iload_n hx hb dX11_asksSign_8 rfl (lv_at hl 1 rfl) ?_
    refine r_calli (wr := []) (r_runV2 (As := [.int p1]) (rest := []) (wc := [(a, .inr (11, OX z i1 i2 i3 i4 i5 i6 i7 i8 i30 i43 i45 i46 i47 i48 i49 i50 i51 i58 i59 i65 i68 i69 i72 i78 i80 i81 i82 i87 i92 i96 i100 i103 i104)), ((z 0), .inl (T 0, 700, .inl g0))]) (ci := 11) C0 hE hStr hS (va_free (wc := [(a, .inr (11, OX z i1 i2 i3 i4 i5 i6 i7 i8 i30 i43 i45 i46 i47 i48 i49 i50 i51 i58 i59 i65 i68 i69 i72 i78 i80 i81 i82 i87 i92 i96 i100 i103 i104)), ((z 0), .inl (T 0, 700, .inl g0))]) hD hS hA [0, 1] rfl) (h_X11_takesSign_27800010 l D T sq sv H.size a z i1 i2 i3 i4 i5 i6 i7 i8 i30 i43 i45 i46 i47 i48 i49 i50 i51 i58 i59 i65 i68 i69 i72 i78 i80 i81 i82 i87 i92 i96 i100 i103 i104 p1 g0 ⟨by omega, by omega⟩ ⟨by omega, by omega⟩ ⟨by omega, by omega⟩) mw_966 mw_967 mw_1312 mw_14 mw_968 dn_1714 rfl rfl ⟨Nat.le_of_ble_eq_true rfl, Nat.le_of_ble_eq_true rfl⟩ (hP.sub (ws' := [(a, .inr (11, OX z i1 i2 i3 i4 i5 i6 i7 i8 i30 i43 i45 i46 i47 i48 i49 i50 i51 i58 i59 i65 i68 i69 i72 i78 i80 i81 i82 i87 i92 i96 i100 i103 i104)), ((z 0), .inl (T 0, 700, .inl g0))]) [0, 1] rfl) (hD.sub (ws' := [(a, .inr (11, OX z i1 i2 i3 i4 i5 i6 i7 i8 i30 i43 i45 i46 i47 i48 i49 i50 i51 i58 i59 i65 i68 i69 i72 i78 i80 i81 i82 i87 i92 i96 i100 i103 i104)), ((z 0), .inl (T 0, 700, .inl g0))]) [0, 1] (by decide +kernel) rfl) rfl rfl rfl hl.1 rfl (Nat.le_of_ble_eq_true rfl) dX11_asksSign_9 ⟨Nat.le_of_ble_eq_true rfl, Nat.le_of_ble_eq_true rfl⟩) hP hD hS hA [0, 1] [] rfl rfl (by decide +kernel) (by decide +kernel) (fun x27900017 u H locs hq hP hD hS => ?_)
    obtain ⟨x27900018, rfl⟩ : ∃ y, y = u := ⟨_, rfl⟩
    obtain ⟨hx27900018, hp27900019, hAlt, hx27900017⟩ := hq
    have hx27900018 : 0 ≤ x27900018.toInt ∧ x27900018.toInt ≤ 700 := hx27900018
    have hp27900019 : i2.toInt ≤ x27900018.toInt := hp27900019
    have hx27900017 : 0 ≤ x27900017.toInt ∧ x27900017.toInt ≤ 1 := hx27900017
    have hP : va_P D vwCl [(a, .inr (11, OX z i1 x27900018 i3 i4 i5 i6 i7 i8 i30 i43 i45 i46 i47 i48 i49 i50 i51 i58 i59 i65 i68 i69 i72 i78 i80 i81 i82 i87 i92 i96 i100 i103 i104)), ((z 0), .inl (T 0, 700, .inl g0))] H := hP
    have hD : va_D A [(a, .inr (11, OX z i1 x27900018 i3 i4 i5 i6 i7 i8 i30 i43 i45 i46 i47 i48 i49 i50 i51 i58 i59 i65 i68 i69 i72 i78 i80 i81 i82 i87 i92 i96 i100 i103 i104)), ((z 0), .inl (T 0, 700, .inl g0))] := hD
    rcases hAlt with hAlt | hAlt
    · skip
      have hp27900020 := hAlt
      have hp27900020 : x27900017.toInt = 0 ∧ i2.toInt ≤ x27900018.toInt := hp27900020
      clear hAlt
      refine W.widen (k := 0) (n := 0) (Nat.le_refl _) (Nat.le_refl _) ?_
      refine lv_if_ne (tgt := 24) hx hb dX11_asksSign_12 (by decide) (fun hc => by have hf : x27900017.toInt ≠ 0 := ne_ti rfl (by decide) hc; omega) (fun c27900021 => ?_)
      have kc27900021 : x27900017.toInt = 0 := eq_ti rfl (by decide) c27900021
      refine lv_aload_n hx hb dX11_asksSign_15 rfl (lv_at hl 0 rfl) ?_
      refine lv_iconst (v := 1) hx hb dX11_asksSign_16 (by decide) ?_
      refine lv_aload_n hx hb dX11_asksSign_17 rfl (lv_at hl 0 rfl) ?_
      refine r_get (v := .int x27900018) C0 hE ffX11_2 mw_792 hP 0 rfl ox_2 dX11_asksSign_18 ?_
      refine r_callv2 (wr := [((z 0), .inl (T 0, 700, .inl g0))]) (r_runV2 (As := [.int 1, .int x27900018]) (rest := []) (wc := [(a, .inr (11, OX z i1 x27900018 i3 i4 i5 i6 i7 i8 i30 i43 i45 i46 i47 i48 i49 i50 i51 i58 i59 i65 i68 i69 i72 i78 i80 i81 i82 i87 i92 i96 i100 i103 i104))]) (ci := 11) C0 hE hStr hS (va_free (wc := [(a, .inr (11, OX z i1 x27900018 i3 i4 i5 i6 i7 i8 i30 i43 i45 i46 i47 i48 i49 i50 i51 i58 i59 i65 i68 i69 i72 i78 i80 i81 i82 i87 i92 i96 i100 i103 i104))]) hD hS hA [0] rfl) (h_X11_fail_20300002 l D T sq sv H.size a z i1 x27900018 i3 i4 i5 i6 i7 i8 i30 i43 i45 i46 i47 i48 i49 i50 i51 i58 i59 i65 i68 i69 i72 i78 i80 i81 i82 i87 i92 i96 i100 i103 i104 1 x27900018 ⟨by decide, by decide⟩) mw_919 mw_920 mw_1299 mw_14 mw_921 dn_1707 rfl rfl ⟨Nat.le_of_ble_eq_true rfl, Nat.le_of_ble_eq_true rfl⟩ (hP.sub (ws' := [(a, .inr (11, OX z i1 x27900018 i3 i4 i5 i6 i7 i8 i30 i43 i45 i46 i47 i48 i49 i50 i51 i58 i59 i65 i68 i69 i72 i78 i80 i81 i82 i87 i92 i96 i100 i103 i104))]) [0] rfl) (hD.sub (ws' := [(a, .inr (11, OX z i1 x27900018 i3 i4 i5 i6 i7 i8 i30 i43 i45 i46 i47 i48 i49 i50 i51 i58 i59 i65 i68 i69 i72 i78 i80 i81 i82 i87 i92 i96 i100 i103 i104))]) [0] (by decide +kernel) rfl) rfl rfl rfl hl.1 rfl (Nat.le_of_ble_eq_true rfl) dX11_asksSign_21 ⟨Nat.le_of_ble_eq_true rfl, Nat.le_of_ble_eq_true rfl⟩) hP hD hS hA [0] [1] rfl rfl (by decide +kernel) (by decide +kernel) (fun u H locs hq hP hD hS => ?_)
      obtain ⟨x27900022, x27900023⟩ := u
      have hAlt := hq
      have hP : va_P D vwCl [((z 0), .inl (T 0, 700, .inl g0)), (a, .inr (11, OX z i1 x27900018 i3 i4 x27900022 x27900023 i7 i8 i30 i43 i45 i46 i47 i48 i49 i50 i51 i58 i59 i65 i68 i69 i72 i78 i80 i81 i82 i87 i92 i96 i100 i103 i104))] H := hP
      have hD : va_D A [((z 0), .inl (T 0, 700, .inl g0)), (a, .inr (11, OX z i1 x27900018 i3 i4 x27900022 x27900023 i7 i8 i30 i43 i45 i46 i47 i48 i49 i50 i51 i58 i59 i65 i68 i69 i72 i78 i80 i81 i82 i87 i92 i96 i100 i103 i104))] := hD
      rcases hAlt with hAlt | hAlt
      · skip
        have hp27900024 := hAlt
        have hp27900024 : i5.toInt ≠ 0 ∧ x27900022.toInt = i5.toInt := hp27900024
        clear hAlt
        have hl27900025 : (1 : Int32).toInt = 1 := by decide
        exfalso; omega
      · skip
        have hp27900026 := hAlt
        have hp27900026 : i5.toInt = 0 ∧ x27900022.toInt = 1 ∧ 1 ≤ x27900022.toInt := hp27900026
        clear hAlt
        have hl27900027 : (1 : Int32).toInt = 1 := by decide
        refine W.widen (k := 0) (n := 0) (Nat.le_refl _) (Nat.le_refl _) ?_
        exact r_vret2 (x27900018, x27900022, x27900023) C0 hr hlocks hS (Nat.le_refl _) (Nat.le_refl _) dX11_asksSign_24 ⟨⟨by omega, by omega⟩, (by omega), (Or.inl (by omega))⟩ (hP.sub (ws' := [(a, .inr (11, OX z i1 x27900018 i3 i4 x27900022 x27900023 i7 i8 i30 i43 i45 i46 i47 i48 i49 i50 i51 i58 i59 i65 i68 i69 i72 i78 i80 i81 i82 i87 i92 i96 i100 i103 i104)), ((z 0), .inl (T 0, 700, .inl g0))]) [1, 0] rfl) (hD.sub (ws' := [(a, .inr (11, OX z i1 x27900018 i3 i4 x27900022 x27900023 i7 i8 i30 i43 i45 i46 i47 i48 i49 i50 i51 i58 i59 i65 i68 i69 i72 i78 i80 i81 i82 i87 i92 i96 i100 i103 i104)), ((z 0), .inl (T 0, 700, .inl g0))]) [1, 0] (by decide +kernel) rfl)
    · skip
      have hp27900028 := hAlt
      have hp27900028 : x27900017.toInt = 1 ∧ i2.toInt + 1 ≤ x27900018.toInt ∧ i5.toInt = 0 := hp27900028
      clear hAlt
      refine W.widen (k := 0) (n := 0) (Nat.le_refl _) (Nat.le_refl _) ?_
      refine lv_if_ne (tgt := 24) hx hb dX11_asksSign_12 (by decide) (fun c27900029 => ?_) (fun hc => by have hf : x27900017.toInt = 0 := eq_ti rfl (by decide) hc; omega)
      have kc27900029 : x27900017.toInt ≠ 0 := ne_ti rfl (by decide) c27900029
      exact r_vret2 (x27900018, i5, i6) C0 hr hlocks hS (Nat.le_refl _) (Nat.le_refl _) dX11_asksSign_24 ⟨⟨by omega, by omega⟩, (by omega), (Or.inr (by omega))⟩ (hP.sub (ws' := [(a, .inr (11, OX z i1 x27900018 i3 i4 i5 i6 i7 i8 i30 i43 i45 i46 i47 i48 i49 i50 i51 i58 i59 i65 i68 i69 i72 i78 i80 i81 i82 i87 i92 i96 i100 i103 i104)), ((z 0), .inl (T 0, 700, .inl g0))]) [0, 1] rfl) (hD.sub (ws' := [(a, .inr (11, OX z i1 x27900018 i3 i4 i5 i6 i7 i8 i30 i43 i45 i46 i47 i48 i49 i50 i51 i58 i59 i65 i68 i69 i72 i78 i80 i81 i82 i87 i92 i96 i100 i103 i104)), ((z 0), .inl (T 0, 700, .inl g0))]) [0, 1] (by decide +kernel) rfl)
set_option maxHeartbeats 4000000 in
set_option maxRecDepth 100000 in
theorem h_X11_number_28000409 (l : Launch) (D : va_G) (T : Nat → ClassId) (sq sv sz : Nat) (a : Nat) (z : Nat → Nat) (i1 i2 i3 i4 i5 i6 i7 i8 i30 i43 i45 i46 i47 i48 i49 i50 i51 i58 i59 i65 i68 i69 i72 i78 i80 i81 i82 i87 i92 i96 i100 i103 i104 : Int32) (p1 : Int32) (p2 : Int32) (g0 : Nat → Int32) (hi2 : 0 ≤ i2.toInt ∧ i2.toInt ≤ 700) (hi3 : 0 ≤ i3.toInt ∧ i3.toInt ≤ 700) : Met l yX11_number (.code yX11_number cX11_number 5 (some .int) :: TB) { frames := 1, cells := 0, slots := 0, locals := 25 } (PC2 D T sq sv [.ref a, .int p1, .int p2] [(a, .inr (11, OX z i1 i2 i3 i4 i5 i6 i7 i8 i30 i43 i45 i46 i47 i48 i49 i50 i51 i58 i59 i65 i68 i69 i72 i78 i80 i81 i82 i87 i92 i96 i100 i103 i104)), ((z 0), .inl (T 0, 700, .inl g0))] sz) (Qi (S := Int32 × Int32 × Int32 × Int32) (fun (r : Int32) (u : Int32 × Int32 × Int32 × Int32) => match u with | (ui2, ui4, ui5, ui6) => (0 ≤ ui2.toInt ∧ ui2.toInt ≤ 700) ∧ (((ui5.toInt ≠ 0 ∧ i2.toInt ≤ ui2.toInt)) ∨ ((ui5.toInt = 0 ∧ i5.toInt = 0 ∧ i2.toInt + 1 ≤ ui2.toInt))) ∧ (0 ≤ r.toInt ∧ r.toInt ≤ 9999)) (fun (u : Int32 × Int32 × Int32 × Int32) => match u with | (ui2, ui4, ui5, ui6) => [(a, .inr (11, OX z i1 ui2 i3 ui4 ui5 ui6 i7 i8 i30 i43 i45 i46 i47 i48 i49 i50 i51 i58 i59 i65 i68 i69 i72 i78 i80 i81 i82 i87 i92 i96 i100 i103 i104)), ((z 0), .inl (T 0, 700, .inl g0))]) D (va_A [(a, .inr (11, OX z i1 i2 i3 i4 i5 i6 i7 i8 i30 i43 i45 i46 i47 i48 i49 i50 i51 i58 i59 i65 i68 i69 i72 i78 i80 i81 i82 i87 i92 i96 i100 i103 i104)), ((z 0), .inl (T 0, 700, .inl g0))] sz)) 0 0 (va_A [(a, .inr (11, OX z i1 i2 i3 i4 i5 i6 i7 i8 i30 i43 i45 i46 i47 i48 i49 i50 i51 i58 i59 i65 i68 i69 i72 i78 i80 i81 i82 i87 i92 i96 i100 i103 i104)), ((z 0), .inl (T 0, 700, .inl g0))] sz) := by
  refine ct_begin2 (Qc := Qi (S := Int32 × Int32 × Int32 × Int32) (fun (r : Int32) (u : Int32 × Int32 × Int32 × Int32) => match u with | (ui2, ui4, ui5, ui6) => (0 ≤ ui2.toInt ∧ ui2.toInt ≤ 700) ∧ (((ui5.toInt ≠ 0 ∧ i2.toInt ≤ ui2.toInt)) ∨ ((ui5.toInt = 0 ∧ i5.toInt = 0 ∧ i2.toInt + 1 ≤ ui2.toInt))) ∧ (0 ≤ r.toInt ∧ r.toInt ≤ 9999)) (fun (u : Int32 × Int32 × Int32 × Int32) => match u with | (ui2, ui4, ui5, ui6) => [(a, .inr (11, OX z i1 ui2 i3 ui4 ui5 ui6 i7 i8 i30 i43 i45 i46 i47 i48 i49 i50 i51 i58 i59 i65 i68 i69 i72 i78 i80 i81 i82 i87 i92 i96 i100 i103 i104)), ((z 0), .inl (T 0, 700, .inl g0))]) D) (by decide +kernel) (Nat.le_of_ble_eq_true rfl) ?_
  intro p e s m below meth c A ls C0 hr hlocks hnm hE hStr hA hP hD hl
  generalize ([.ref a, .int p1, .int p2] : List Value).toArray = args at C0 ⊢
  have hx := C0.1
  have hb := C0.2.1
  have hml := C0.2.2.1
  have hown := C0.2.2.2.1
  have hT := C0.2.2.2.2
  have hK := hE.1
  generalize hH : s.heap = H at hP ⊢
  have hS : va_S A s.heap H [] := by rw [← hH]; exact va_S.rf
  have hP : va_P D vwCl [(a, .inr (11, OX z i1 i2 i3 i4 i5 i6 i7 i8 i30 i43 i45 i46 i47 i48 i49 i50 i51 i58 i59 i65 i68 i69 i72 i78 i80 i81 i82 i87 i92 i96 i100 i103 i104)), ((z 0), .inl (T 0, 700, .inl g0))] H := hP
  have hD : va_D A [(a, .inr (11, OX z i1 i2 i3 i4 i5 i6 i7 i8 i30 i43 i45 i46 i47 i48 i49 i50 i51 i58 i59 i65 i68 i69 i72 i78 i80 i81 i82 i87 i92 i96 i100 i103 i104)), ((z 0), .inl (T 0, 700, .inl g0))] := hD
  have hl : lv_has ls 5 [(0, .ref a), (1, .int p1), (2, .int p2)] := hl
  refine lv_aload_n hx hb dX11_number_0 rfl (lv_at hl 0 rfl) ?_
  refine r_get (v := .int i5) C0 hE ffX11_5 mw_795 hP 0 rfl ox_5 dX11_number_1 ?_
  refine lv_if_eq (tgt := 9) hx hb dX11_number_4 (by decide) (fun c28000410 => ?_) (fun c28000410 => ?_)
  · skip
    have kc28000410 : i5.toInt = 0 := eq_ti rfl (by decide) c28000410
    refine lv_aload_n hx hb dX11_number_9 rfl (lv_at hl 0 rfl) ?_
    refine r_calli (wr := []) (r_runV2 (As := []) (rest := []) (wc := [(a, .inr (11, OX z i1 i2 i3 i4 i5 i6 i7 i8 i30 i43 i45 i46 i47 i48 i49 i50 i51 i58 i59 i65 i68 i69 i72 i78 i80 i81 i82 i87 i92 i96 i100 i103 i104)), ((z 0), .inl (T 0, 700, .inl g0))]) (ci := 11) C0 hE hStr hS (va_free (wc := [(a, .inr (11, OX z i1 i2 i3 i4 i5 i6 i7 i8 i30 i43 i45 i46 i47 i48 i49 i50 i51 i58 i59 i65 i68 i69 i72 i78 i80 i81 i82 i87 i92 i96 i100 i103 i104)), ((z 0), .inl (T 0, 700, .inl g0))]) hD hS hA [0, 1] rfl) (h_X11_look_20600027 l D T sq sv H.size a z i1 i2 i3 i4 i5 i6 i7 i8 i30 i43 i45 i46 i47 i48 i49 i50 i51 i58 i59 i65 i68 i69 i72 i78 i80 i81 i82 i87 i92 i96 i100 i103 i104 g0 ⟨by omega, by omega⟩ ⟨by omega, by omega⟩) mw_913 mw_914 mw_1297 mw_14 mw_915 dn_1710 rfl rfl ⟨Nat.le_of_ble_eq_true rfl, Nat.le_of_ble_eq_true rfl⟩ (hP.sub (ws' := [(a, .inr (11, OX z i1 i2 i3 i4 i5 i6 i7 i8 i30 i43 i45 i46 i47 i48 i49 i50 i51 i58 i59 i65 i68 i69 i72 i78 i80 i81 i82 i87 i92 i96 i100 i103 i104)), ((z 0), .inl (T 0, 700, .inl g0))]) [0, 1] rfl) (hD.sub (ws' := [(a, .inr (11, OX z i1 i2 i3 i4 i5 i6 i7 i8 i30 i43 i45 i46 i47 i48 i49 i50 i51 i58 i59 i65 i68 i69 i72 i78 i80 i81 i82 i87 i92 i96 i100 i103 i104)), ((z 0), .inl (T 0, 700, .inl g0))]) [0, 1] (by decide +kernel) rfl) rfl rfl rfl hl.1 rfl (Nat.le_of_ble_eq_true rfl) dX11_number_10 ⟨Nat.le_of_ble_eq_true rfl, Nat.le_of_ble_eq_true rfl⟩) hP hD hS hA [0, 1] [] rfl rfl (by decide +kernel) (by decide +kernel) (fun x28000411 u H locs hq hP hD hS => ?_)
    obtain ⟨x28000412, rfl⟩ : ∃ y, y = u := ⟨_, rfl⟩
    obtain ⟨hx28000412, hp28000413, hAlt⟩ := hq
    have hx28000412 : 0 ≤ x28000412.toInt ∧ x28000412.toInt ≤ 700 := hx28000412
    have hp28000413 : i2.toInt ≤ x28000412.toInt := hp28000413
    have hP : va_P D vwCl [(a, .inr (11, OX z i1 x28000412 i3 i4 i5 i6 i7 i8 i30 i43 i45 i46 i47 i48 i49 i50 i51 i58 i59 i65 i68 i69 i72 i78 i80 i81 i82 i87 i92 i96 i100 i103 i104)), ((z 0), .inl (T 0, 700, .inl g0))] H := hP
    have hD : va_D A [(a, .inr (11, OX z i1 x28000412 i3 i4 i5 i6 i7 i8 i30 i43 i45 i46 i47 i48 i49 i50 i51 i58 i59 i65 i68 i69 i72 i78 i80 i81 i82 i87 i92 i96 i100 i103 i104)), ((z 0), .inl (T 0, 700, .inl g0))] := hD
    rcases hAlt with hAlt | hAlt
    · skip
      have hp28000414 := hAlt
      have hp28000414 : x28000411.toInt = -1 ∧ i2.toInt ≤ x28000412.toInt := hp28000414
      clear hAlt
      refine W.widen (k := 0) (n := 0) (Nat.le_refl _) (Nat.le_refl _) ?_
      refine r_calli (wr := [(a, .inr (11, OX z i1 x28000412 i3 i4 i5 i6 i7 i8 i30 i43 i45 i46 i47 i48 i49 i50 i51 i58 i59 i65 i68 i69 i72 i78 i80 i81 i82 i87 i92 i96 i100 i103 i104)), ((z 0), .inl (T 0, 700, .inl g0))]) (r_runS2 (As := [.int x28000411]) (rest := []) (wc := []) C0 hE hStr hS (va_free (wc := []) hD hS hA [] rfl) (h_X11_isDigit_20200005 l D T sq sv H.size x28000411) mw_951 mw_952 mw_14 mw_953 dn_1709 rfl rfl ⟨Nat.le_of_ble_eq_true rfl, Nat.le_of_ble_eq_true rfl⟩ (hP.sub (ws' := []) [] rfl) (hD.sub (ws' := []) [] (by decide +kernel) rfl) hl.1 rfl (Nat.le_of_ble_eq_true rfl) dX11_number_13 ⟨Nat.le_of_ble_eq_true rfl, Nat.le_of_ble_eq_true rfl⟩) hP hD hS hA [] [0, 1] rfl rfl (by decide +kernel) (by decide +kernel) (fun x28000415 u H locs hq hP hD hS => ?_)
      obtain ⟨hAlt, hx28000415⟩ := hq
      have hx28000415 : 0 ≤ x28000415.toInt ∧ x28000415.toInt ≤ 1 := hx28000415
      have hP : va_P D vwCl [(a, .inr (11, OX z i1 x28000412 i3 i4 i5 i6 i7 i8 i30 i43 i45 i46 i47 i48 i49 i50 i51 i58 i59 i65 i68 i69 i72 i78 i80 i81 i82 i87 i92 i96 i100 i103 i104)), ((z 0), .inl (T 0, 700, .inl g0))] H := hP
      have hD : va_D A [(a, .inr (11, OX z i1 x28000412 i3 i4 i5 i6 i7 i8 i30 i43 i45 i46 i47 i48 i49 i50 i51 i58 i59 i65 i68 i69 i72 i78 i80 i81 i82 i87 i92 i96 i100 i103 i104)), ((z 0), .inl (T 0, 700, .inl g0))] := hD
      rcases hAlt with hAlt | hAlt | hAlt
      · skip
        have hp28000416 := hAlt
        have hp28000416 : x28000415.toInt = 0 ∧ x28000411.toInt < 48 := hp28000416
        clear hAlt
        refine W.widen (k := 0) (n := 0) (Nat.le_refl _) (Nat.le_refl _) ?_
        refine lv_if_eq (tgt := 30) hx hb dX11_number_16 (by decide) (fun c28000417 => ?_) (fun hc => by have hf : x28000415.toInt ≠ 0 := ne_ti rfl (by decide) hc; omega)
        have kc28000417 : x28000415.toInt = 0 := eq_ti rfl (by decide) c28000417
        refine lv_aload_n hx hb dX11_number_30 rfl (lv_at hl 0 rfl) ?_
        refine lv_iconst (v := 1) hx hb dX11_number_31 (by decide) ?_
        refine lv_aload_n hx hb dX11_number_32 rfl (lv_at hl 0 rfl) ?_
        refine r_get (v := .int x28000412) C0 hE ffX11_2 mw_792 hP 0 rfl ox_2 dX11_number_33 ?_
        refine r_callv2 (wr := [((z 0), .inl (T 0, 700, .inl g0))]) (r_runV2 (As := [.int 1, .int x28000412]) (rest := []) (wc := [(a, .inr (11, OX z i1 x28000412 i3 i4 i5 i6 i7 i8 i30 i43 i45 i46 i47 i48 i49 i50 i51 i58 i59 i65 i68 i69 i72 i78 i80 i81 i82 i87 i92 i96 i100 i103 i104))]) (ci := 11) C0 hE hStr hS (va_free (wc := [(a, .inr (11, OX z i1 x28000412 i3 i4 i5 i6 i7 i8 i30 i43 i45 i46 i47 i48 i49 i50 i51 i58 i59 i65 i68 i69 i72 i78 i80 i81 i82 i87 i92 i96 i100 i103 i104))]) hD hS hA [0] rfl) (h_X11_fail_20300002 l D T sq sv H.size a z i1 x28000412 i3 i4 i5 i6 i7 i8 i30 i43 i45 i46 i47 i48 i49 i50 i51 i58 i59 i65 i68 i69 i72 i78 i80 i81 i82 i87 i92 i96 i100 i103 i104 1 x28000412 ⟨by decide, by decide⟩) mw_919 mw_920 mw_1299 mw_14 mw_921 dn_1707 rfl rfl ⟨Nat.le_of_ble_eq_true rfl, Nat.le_of_ble_eq_true rfl⟩ (hP.sub (ws' := [(a, .inr (11, OX z i1 x28000412 i3 i4 i5 i6 i7 i8 i30 i43 i45 i46 i47 i48 i49 i50 i51 i58 i59 i65 i68 i69 i72 i78 i80 i81 i82 i87 i92 i96 i100 i103 i104))]) [0] rfl) (hD.sub (ws' := [(a, .inr (11, OX z i1 x28000412 i3 i4 i5 i6 i7 i8 i30 i43 i45 i46 i47 i48 i49 i50 i51 i58 i59 i65 i68 i69 i72 i78 i80 i81 i82 i87 i92 i96 i100 i103 i104))]) [0] (by decide +kernel) rfl) rfl rfl rfl hl.1 rfl (Nat.le_of_ble_eq_true rfl) dX11_number_36 ⟨Nat.le_of_ble_eq_true rfl, Nat.le_of_ble_eq_true rfl⟩) hP hD hS hA [0] [1] rfl rfl (by decide +kernel) (by decide +kernel) (fun u H locs hq hP hD hS => ?_)
        obtain ⟨x28000418, x28000419⟩ := u
        have hAlt := hq
        have hP : va_P D vwCl [((z 0), .inl (T 0, 700, .inl g0)), (a, .inr (11, OX z i1 x28000412 i3 i4 x28000418 x28000419 i7 i8 i30 i43 i45 i46 i47 i48 i49 i50 i51 i58 i59 i65 i68 i69 i72 i78 i80 i81 i82 i87 i92 i96 i100 i103 i104))] H := hP
        have hD : va_D A [((z 0), .inl (T 0, 700, .inl g0)), (a, .inr (11, OX z i1 x28000412 i3 i4 x28000418 x28000419 i7 i8 i30 i43 i45 i46 i47 i48 i49 i50 i51 i58 i59 i65 i68 i69 i72 i78 i80 i81 i82 i87 i92 i96 i100 i103 i104))] := hD
        rcases hAlt with hAlt | hAlt
        · skip
          have hp28000420 := hAlt
          have hp28000420 : i5.toInt ≠ 0 ∧ x28000418.toInt = i5.toInt := hp28000420
          clear hAlt
          have hl28000421 : (1 : Int32).toInt = 1 := by decide
          exfalso; omega
        · skip
          have hp28000422 := hAlt
          have hp28000422 : i5.toInt = 0 ∧ x28000418.toInt = 1 ∧ 1 ≤ x28000418.toInt := hp28000422
          clear hAlt
          have hl28000423 : (1 : Int32).toInt = 1 := by decide
          refine W.widen (k := 0) (n := 0) (Nat.le_refl _) (Nat.le_refl _) ?_
          refine lv_iconst (v := 0) hx hb dX11_number_39 (by decide) ?_
          have hl28000424 : (0 : Int32).toInt = 0 := by decide
          exact r_iret (x28000412, i4, x28000418, x28000419) C0 hr hlocks hS (Nat.le_refl _) (Nat.le_refl _) dX11_number_40 ⟨⟨by omega, by omega⟩, (Or.inl (by omega)), ⟨by decide, by decide⟩⟩ (hP.sub (ws' := [(a, .inr (11, OX z i1 x28000412 i3 i4 x28000418 x28000419 i7 i8 i30 i43 i45 i46 i47 i48 i49 i50 i51 i58 i59 i65 i68 i69 i72 i78 i80 i81 i82 i87 i92 i96 i100 i103 i104)), ((z 0), .inl (T 0, 700, .inl g0))]) [1, 0] rfl) (hD.sub (ws' := [(a, .inr (11, OX z i1 x28000412 i3 i4 x28000418 x28000419 i7 i8 i30 i43 i45 i46 i47 i48 i49 i50 i51 i58 i59 i65 i68 i69 i72 i78 i80 i81 i82 i87 i92 i96 i100 i103 i104)), ((z 0), .inl (T 0, 700, .inl g0))]) [1, 0] (by decide +kernel) rfl)
      · skip
        have hp28000425 := hAlt
        have hp28000425 : x28000415.toInt = 0 ∧ 57 < x28000411.toInt := hp28000425
        clear hAlt
        refine W.widen (k := 0) (n := 0) (Nat.le_refl _) (Nat.le_refl _) ?_
        refine lv_if_eq (tgt := 30) hx hb dX11_number_16 (by decide) (fun c28000426 => ?_) (fun hc => by have hf : x28000415.toInt ≠ 0 := ne_ti rfl (by decide) hc; omega)
        have kc28000426 : x28000415.toInt = 0 := eq_ti rfl (by decide) c28000426
        refine lv_aload_n hx hb dX11_number_30 rfl (lv_at hl 0 rfl) ?_
        refine lv_iconst (v := 1) hx hb dX11_number_31 (by decide) ?_
        refine lv_aload_n hx hb dX11_number_32 rfl (lv_at hl 0 rfl) ?_
        refine r_get (v := .int x28000412) C0 hE ffX11_2 mw_792 hP 0 rfl ox_2 dX11_number_33 ?_
        refine r_callv2 (wr := [((z 0), .inl (T 0, 700, .inl g0))]) (r_runV2 (As := [.int 1, .int x28000412]) (rest := []) (wc := [(a, .inr (11, OX z i1 x28000412 i3 i4 i5 i6 i7 i8 i30 i43 i45 i46 i47 i48 i49 i50 i51 i58 i59 i65 i68 i69 i72 i78 i80 i81 i82 i87 i92 i96 i100 i103 i104))]) (ci := 11) C0 hE hStr hS (va_free (wc := [(a, .inr (11, OX z i1 x28000412 i3 i4 i5 i6 i7 i8 i30 i43 i45 i46 i47 i48 i49 i50 i51 i58 i59 i65 i68 i69 i72 i78 i80 i81 i82 i87 i92 i96 i100 i103 i104))]) hD hS hA [0] rfl) (h_X11_fail_20300002 l D T sq sv H.size a z i1 x28000412 i3 i4 i5 i6 i7 i8 i30 i43 i45 i46 i47 i48 i49 i50 i51 i58 i59 i65 i68 i69 i72 i78 i80 i81 i82 i87 i92 i96 i100 i103 i104 1 x28000412 ⟨by decide, by decide⟩) mw_919 mw_920 mw_1299 mw_14 mw_921 dn_1707 rfl rfl ⟨Nat.le_of_ble_eq_true rfl, Nat.le_of_ble_eq_true rfl⟩ (hP.sub (ws' := [(a, .inr (11, OX z i1 x28000412 i3 i4 i5 i6 i7 i8 i30 i43 i45 i46 i47 i48 i49 i50 i51 i58 i59 i65 i68 i69 i72 i78 i80 i81 i82 i87 i92 i96 i100 i103 i104))]) [0] rfl) (hD.sub (ws' := [(a, .inr (11, OX z i1 x28000412 i3 i4 i5 i6 i7 i8 i30 i43 i45 i46 i47 i48 i49 i50 i51 i58 i59 i65 i68 i69 i72 i78 i80 i81 i82 i87 i92 i96 i100 i103 i104))]) [0] (by decide +kernel) rfl) rfl rfl rfl hl.1 rfl (Nat.le_of_ble_eq_true rfl) dX11_number_36 ⟨Nat.le_of_ble_eq_true rfl, Nat.le_of_ble_eq_true rfl⟩) hP hD hS hA [0] [1] rfl rfl (by decide +kernel) (by decide +kernel) (fun u H locs hq hP hD hS => ?_)
        obtain ⟨x28000427, x28000428⟩ := u
        have hAlt := hq
        have hP : va_P D vwCl [((z 0), .inl (T 0, 700, .inl g0)), (a, .inr (11, OX z i1 x28000412 i3 i4 x28000427 x28000428 i7 i8 i30 i43 i45 i46 i47 i48 i49 i50 i51 i58 i59 i65 i68 i69 i72 i78 i80 i81 i82 i87 i92 i96 i100 i103 i104))] H := hP
        have hD : va_D A [((z 0), .inl (T 0, 700, .inl g0)), (a, .inr (11, OX z i1 x28000412 i3 i4 x28000427 x28000428 i7 i8 i30 i43 i45 i46 i47 i48 i49 i50 i51 i58 i59 i65 i68 i69 i72 i78 i80 i81 i82 i87 i92 i96 i100 i103 i104))] := hD
        rcases hAlt with hAlt | hAlt
        · skip
          have hp28000429 := hAlt
          have hp28000429 : i5.toInt ≠ 0 ∧ x28000427.toInt = i5.toInt := hp28000429
          clear hAlt
          have hl28000430 : (1 : Int32).toInt = 1 := by decide
          exfalso; omega
        · skip
          have hp28000431 := hAlt
          have hp28000431 : i5.toInt = 0 ∧ x28000427.toInt = 1 ∧ 1 ≤ x28000427.toInt := hp28000431
          clear hAlt
          have hl28000432 : (1 : Int32).toInt = 1 := by decide
          refine W.widen (k := 0) (n := 0) (Nat.le_refl _) (Nat.le_refl _) ?_
          refine lv_iconst (v := 0) hx hb dX11_number_39 (by decide) ?_
          have hl28000433 : (0 : Int32).toInt = 0 := by decide
          exact r_iret (x28000412, i4, x28000427, x28000428) C0 hr hlocks hS (Nat.le_refl _) (Nat.le_refl _) dX11_number_40 ⟨⟨by omega, by omega⟩, (Or.inl (by omega)), ⟨by decide, by decide⟩⟩ (hP.sub (ws' := [(a, .inr (11, OX z i1 x28000412 i3 i4 x28000427 x28000428 i7 i8 i30 i43 i45 i46 i47 i48 i49 i50 i51 i58 i59 i65 i68 i69 i72 i78 i80 i81 i82 i87 i92 i96 i100 i103 i104)), ((z 0), .inl (T 0, 700, .inl g0))]) [1, 0] rfl) (hD.sub (ws' := [(a, .inr (11, OX z i1 x28000412 i3 i4 x28000427 x28000428 i7 i8 i30 i43 i45 i46 i47 i48 i49 i50 i51 i58 i59 i65 i68 i69 i72 i78 i80 i81 i82 i87 i92 i96 i100 i103 i104)), ((z 0), .inl (T 0, 700, .inl g0))]) [1, 0] (by decide +kernel) rfl)
      · skip
        have hp28000434 := hAlt
        have hp28000434 : x28000415.toInt = 1 ∧ 48 ≤ x28000411.toInt ∧ x28000411.toInt ≤ 57 := hp28000434
        clear hAlt
        refine W.widen (k := 0) (n := 0) (Nat.le_refl _) (Nat.le_refl _) ?_
        refine lv_if_eq (tgt := 30) hx hb dX11_number_16 (by decide) (fun hc => by have hf : x28000415.toInt = 0 := eq_ti rfl (by decide) hc; omega) (fun c28000435 => ?_)
        have kc28000435 : x28000415.toInt ≠ 0 := ne_ti rfl (by decide) c28000435
        refine lv_aload_n hx hb dX11_number_19 rfl (lv_at hl 0 rfl) ?_
        refine r_get (v := .int x28000412) C0 hE ffX11_2 mw_792 hP 0 rfl ox_2 dX11_number_20 ?_
        refine lv_aload_n hx hb dX11_number_23 rfl (lv_at hl 0 rfl) ?_
        refine r_get (v := .int i4) C0 hE ffX11_4 mw_794 hP 0 rfl ox_4 dX11_number_24 ?_
        refine lv_icmp_ne (tgt := 41) hx hb dX11_number_27 (by decide) (fun c28000436 => ?_) (fun c28000436 => ?_)
        · skip
          have kc28000436 : x28000412.toInt ≠ i4.toInt := ne_ti rfl rfl c28000436
          refine lv_aload_n hx hb dX11_number_41 rfl (lv_at hl 0 rfl) ?_
          refine r_get (v := .int x28000412) C0 hE ffX11_2 mw_792 hP 0 rfl ox_2 dX11_number_42 ?_
          refine lv_istore_n (lv' := [(3, .int x28000412), (0, .ref a), (1, .int p1), (2, .int p2)]) hx hb dX11_number_45 rfl hl (by decide) rfl (fun ls hl => ?_)
          refine lv_iconst (v := 0) hx hb dX11_number_46 (by decide) ?_
          refine lv_istore (lv' := [(4, .int 0), (3, .int x28000412), (0, .ref a), (1, .int p1), (2, .int p2)]) hx hb dX11_number_47 hl (by decide) rfl (fun ls hl => ?_)
          have L28000553 : ∀ (n : Nat) (x28000492 : Int32) (x28000493 : Int32) (H : Heap) (locs : List Loc) (ls : Array Slot), (0 ≤ x28000492.toInt ∧ x28000492.toInt ≤ 9999) → (0 ≤ x28000493.toInt ∧ x28000493.toInt ≤ 700) → (x28000412.toInt ≤ x28000493.toInt ∧ (x28000493.toInt = x28000412.toInt → (x28000493.toInt < i3.toInt ∧ 48 ≤ (g0 (Int32.toNatClampNeg x28000493)).toInt ∧ (g0 (Int32.toNatClampNeg x28000493)).toInt ≤ 57))) → ((x28000493.toInt = x28000412.toInt ∧ x28000492.toInt = 0) ∨ (x28000493.toInt = x28000412.toInt + 1 ∧ x28000492.toInt ≤ 9) ∨ (x28000493.toInt = x28000412.toInt + 2 ∧ x28000492.toInt ≤ 99) ∨ (x28000493.toInt = x28000412.toInt + 3 ∧ x28000492.toInt ≤ 999) ∨ (x28000493.toInt = x28000412.toInt + 4 ∧ x28000492.toInt ≤ 9999)) → (i2.toInt ≤ x28000412.toInt) → (701 - x28000493.toInt).toNat < n → va_P D vwCl [(a, .inr (11, OX z i1 x28000493 i3 i4 i5 i6 i7 i8 i30 i43 i45 i46 i47 i48 i49 i50 i51 i58 i59 i65 i68 i69 i72 i78 i80 i81 i82 i87 i92 i96 i100 i103 i104)), ((z 0), .inl (T 0, 700, .inl g0))] H → va_D A [(a, .inr (11, OX z i1 x28000493 i3 i4 i5 i6 i7 i8 i30 i43 i45 i46 i47 i48 i49 i50 i51 i58 i59 i65 i68 i69 i72 i78 i80 i81 i82 i87 i92 i96 i100 i103 i104)), ((z 0), .inl (T 0, 700, .inl g0))] → va_S A s.heap H locs → lv_has ls 5 [(4, .int x28000492), (3, .int x28000412), (0, .ref a), (1, .int p1), (2, .int p2)] → W p l e { frames := 1, cells := 0, slots := 0, locals := 25 } s m args below meth c H locs 0 0 (MQ below ((Qi (S := Int32 × Int32 × Int32 × Int32) (fun (r : Int32) (u : Int32 × Int32 × Int32 × Int32) => match u with | (ui2, ui4, ui5, ui6) => (0 ≤ ui2.toInt ∧ ui2.toInt ≤ 700) ∧ (((ui5.toInt ≠ 0 ∧ i2.toInt ≤ ui2.toInt)) ∨ ((ui5.toInt = 0 ∧ i5.toInt = 0 ∧ i2.toInt + 1 ≤ ui2.toInt))) ∧ (0 ≤ r.toInt ∧ r.toInt ≤ 9999)) (fun (u : Int32 × Int32 × Int32 × Int32) => match u with | (ui2, ui4, ui5, ui6) => [(a, .inr (11, OX z i1 ui2 i3 ui4 ui5 ui6 i7 i8 i30 i43 i45 i46 i47 i48 i49 i50 i51 i58 i59 i65 i68 i69 i72 i78 i80 i81 i82 i87 i92 i96 i100 i103 i104)), ((z 0), .inl (T 0, 700, .inl g0))]) D) A) args s 0 0 A) (F0 m 49 ls []) := by
            intro n
            induction n with
            | zero =>
              intro x28000492 x28000493 H locs ls hx28000492 hx28000493 hr28000554 hr28000555 hr28000556 hms hP hD hS hl
              exact absurd hms (Nat.not_lt_zero _)
            | succ n ih28000557 =>
              intro x28000492 x28000493 H locs ls hx28000492 hx28000493 hr28000554 hr28000555 hr28000556 hms hP hD hS hl
              refine lv_aload_n hx hb dX11_number_49 rfl (lv_at hl 2 rfl) ?_
              refine r_get (v := .int x28000493) C0 hE ffX11_2 mw_792 hP 0 rfl ox_2 dX11_number_50 ?_
              refine lv_aload_n hx hb dX11_number_53 rfl (lv_at hl 2 rfl) ?_
              refine r_get (v := .int i3) C0 hE ffX11_3 mw_793 hP 0 rfl ox_3 dX11_number_54 ?_
              refine lv_icmp_ge (tgt := 129) hx hb dX11_number_57 (by decide) (fun c28000558 => ?_) (fun c28000558 => ?_)
              · skip
                have kc28000558 : i3.toInt ≤ x28000493.toInt := le_ti rfl rfl c28000558
                refine lv_aload_n hx hb dX11_number_129 rfl (lv_at hl 2 rfl) ?_
                refine lv_aload_n hx hb dX11_number_130 rfl (lv_at hl 2 rfl) ?_
                refine r_get (v := .int x28000493) C0 hE ffX11_2 mw_792 hP 0 rfl ox_2 dX11_number_131 ?_
                refine r_put (v := .int x28000493) (ty := .int) (ws1 := [(a, .inr (11, OX z i1 x28000493 i3 x28000493 i5 i6 i7 i8 i30 i43 i45 i46 i47 i48 i49 i50 i51 i58 i59 i65 i68 i69 i72 i78 i80 i81 i82 i87 i92 i96 i100 i103 i104)), ((z 0), .inl (T 0, 700, .inl g0))]) C0 hE ffX11_4 tyX11 tyX11_ok nmX11 mw_794 pf_1358 hP hD hS 0 rfl rfl rfl ol_4 os_4 rfl dX11_number_134 (fun H locs hP hD hS => ?_)
                refine lv_iload hx hb dX11_number_137 (lv_at hl 0 rfl) ?_
                refine lv_i2l hx hb dX11_number_139 rfl ?_
                refine lv_topl (fun x28000559 ex28000559 => ?_)
                have hx28000559 : x28000559.toInt = x28000492.toInt := by rw [ex28000559]; exact Int32.toInt_toInt64 _
                refine lv_iload_n hx hb dX11_number_140 rfl (lv_at hl 3 rfl) ?_
                refine lv_i2l hx hb dX11_number_141 rfl ?_
                refine lv_topl (fun x28000560 ex28000560 => ?_)
                have hx28000560 : x28000560.toInt = p1.toInt := by rw [ex28000560]; exact Int32.toInt_toInt64 _
                refine lv_iload_n hx hb dX11_number_142 rfl (lv_at hl 4 rfl) ?_
                refine lv_i2l hx hb dX11_number_143 rfl ?_
                refine lv_topl (fun x28000561 ex28000561 => ?_)
                have hx28000561 : x28000561.toInt = p2.toInt := by rw [ex28000561]; exact Int32.toInt_toInt64 _
                refine r_calli (wr := [(a, .inr (11, OX z i1 x28000493 i3 x28000493 i5 i6 i7 i8 i30 i43 i45 i46 i47 i48 i49 i50 i51 i58 i59 i65 i68 i69 i72 i78 i80 i81 i82 i87 i92 i96 i100 i103 i104)), ((z 0), .inl (T 0, 700, .inl g0))]) (r_runS2 (As := [.long x28000559, .long x28000560, .long x28000561]) (rest := []) (wc := []) C0 hE hStr hS (va_free (wc := []) hD hS hA [] rfl) (h_X11_isIn_20000007 l D T sq sv H.size x28000559 x28000560 x28000561) mw_910 mw_911 mw_14 mw_912 dn_1704 rfl rfl ⟨Nat.le_of_ble_eq_true rfl, Nat.le_of_ble_eq_true rfl⟩ (hP.sub (ws' := []) [] rfl) (hD.sub (ws' := []) [] (by decide +kernel) rfl) hl.1 rfl (Nat.le_of_ble_eq_true rfl) dX11_number_144 ⟨Nat.le_of_ble_eq_true rfl, Nat.le_of_ble_eq_true rfl⟩) hP hD hS hA [] [0, 1] rfl rfl (by decide +kernel) (by decide +kernel) (fun x28000562 u H locs hq hP hD hS => ?_)
                obtain ⟨hp28000563, hx28000562⟩ := hq
                have hp28000563 : (x28000562.toInt = 0 ∧ (x28000559.toInt < x28000560.toInt ∨ x28000561.toInt < x28000559.toInt)) ∨ (x28000562.toInt = 1 ∧ x28000560.toInt ≤ x28000559.toInt ∧ x28000559.toInt ≤ x28000561.toInt) := hp28000563
                have hx28000562 : 0 ≤ x28000562.toInt ∧ x28000562.toInt ≤ 1 := hx28000562
                have hP : va_P D vwCl [(a, .inr (11, OX z i1 x28000493 i3 x28000493 i5 i6 i7 i8 i30 i43 i45 i46 i47 i48 i49 i50 i51 i58 i59 i65 i68 i69 i72 i78 i80 i81 i82 i87 i92 i96 i100 i103 i104)), ((z 0), .inl (T 0, 700, .inl g0))] H := hP
                have hD : va_D A [(a, .inr (11, OX z i1 x28000493 i3 x28000493 i5 i6 i7 i8 i30 i43 i45 i46 i47 i48 i49 i50 i51 i58 i59 i65 i68 i69 i72 i78 i80 i81 i82 i87 i92 i96 i100 i103 i104)), ((z 0), .inl (T 0, 700, .inl g0))] := hD
                refine W.widen (k := 0) (n := 0) (Nat.le_refl _) (Nat.le_refl _) ?_
                refine lv_if_ne (tgt := 156) hx hb dX11_number_147 (by decide) (fun c28000564 => ?_) (fun c28000564 => ?_)
                · skip
                  have kc28000564 : x28000562.toInt ≠ 0 := ne_ti rfl (by decide) c28000564
                  have nzx28000562 : ¬ x28000562 = 0 := c28000564
                  refine lv_iload hx hb dX11_number_156 (lv_at hl 0 rfl) ?_
                  exact r_iret (x28000493, x28000493, i5, i6) C0 hr hlocks hS (Nat.le_refl _) (Nat.le_refl _) dX11_number_158 ⟨⟨by omega, by omega⟩, (Or.inr (by omega)), ⟨by omega, by omega⟩⟩ (hP.sub (ws' := [(a, .inr (11, OX z i1 x28000493 i3 x28000493 i5 i6 i7 i8 i30 i43 i45 i46 i47 i48 i49 i50 i51 i58 i59 i65 i68 i69 i72 i78 i80 i81 i82 i87 i92 i96 i100 i103 i104)), ((z 0), .inl (T 0, 700, .inl g0))]) [0, 1] rfl) (hD.sub (ws' := [(a, .inr (11, OX z i1 x28000493 i3 x28000493 i5 i6 i7 i8 i30 i43 i45 i46 i47 i48 i49 i50 i51 i58 i59 i65 i68 i69 i72 i78 i80 i81 i82 i87 i92 i96 i100 i103 i104)), ((z 0), .inl (T 0, 700, .inl g0))]) [0, 1] (by decide +kernel) rfl)
                · skip
                  have kc28000564 : x28000562.toInt = 0 := eq_ti rfl (by decide) c28000564
                  refine lv_aload_n hx hb dX11_number_150 rfl (lv_at hl 2 rfl) ?_
                  refine lv_iconst (v := 2) hx hb dX11_number_151 (by decide) ?_
                  refine lv_iload_n hx hb dX11_number_152 rfl (lv_at hl 1 rfl) ?_
                  refine r_callv2 (wr := [((z 0), .inl (T 0, 700, .inl g0))]) (r_runV2 (As := [.int 2, .int x28000412]) (rest := []) (wc := [(a, .inr (11, OX z i1 x28000493 i3 x28000493 i5 i6 i7 i8 i30 i43 i45 i46 i47 i48 i49 i50 i51 i58 i59 i65 i68 i69 i72 i78 i80 i81 i82 i87 i92 i96 i100 i103 i104))]) (ci := 11) C0 hE hStr hS (va_free (wc := [(a, .inr (11, OX z i1 x28000493 i3 x28000493 i5 i6 i7 i8 i30 i43 i45 i46 i47 i48 i49 i50 i51 i58 i59 i65 i68 i69 i72 i78 i80 i81 i82 i87 i92 i96 i100 i103 i104))]) hD hS hA [0] rfl) (h_X11_fail_20300002 l D T sq sv H.size a z i1 x28000493 i3 x28000493 i5 i6 i7 i8 i30 i43 i45 i46 i47 i48 i49 i50 i51 i58 i59 i65 i68 i69 i72 i78 i80 i81 i82 i87 i92 i96 i100 i103 i104 2 x28000412 ⟨by decide, by decide⟩) mw_919 mw_920 mw_1299 mw_14 mw_921 dn_1707 rfl rfl ⟨Nat.le_of_ble_eq_true rfl, Nat.le_of_ble_eq_true rfl⟩ (hP.sub (ws' := [(a, .inr (11, OX z i1 x28000493 i3 x28000493 i5 i6 i7 i8 i30 i43 i45 i46 i47 i48 i49 i50 i51 i58 i59 i65 i68 i69 i72 i78 i80 i81 i82 i87 i92 i96 i100 i103 i104))]) [0] rfl) (hD.sub (ws' := [(a, .inr (11, OX z i1 x28000493 i3 x28000493 i5 i6 i7 i8 i30 i43 i45 i46 i47 i48 i49 i50 i51 i58 i59 i65 i68 i69 i72 i78 i80 i81 i82 i87 i92 i96 i100 i103 i104))]) [0] (by decide +kernel) rfl) rfl rfl rfl hl.1 rfl (Nat.le_of_ble_eq_true rfl) dX11_number_153 ⟨Nat.le_of_ble_eq_true rfl, Nat.le_of_ble_eq_true rfl⟩) hP hD hS hA [0] [1] rfl rfl (by decide +kernel) (by decide +kernel) (fun u H locs hq hP hD hS => ?_)
                  obtain ⟨x28000565, x28000566⟩ := u
                  have hAlt := hq
                  have hP : va_P D vwCl [((z 0), .inl (T 0, 700, .inl g0)), (a, .inr (11, OX z i1 x28000493 i3 x28000493 x28000565 x28000566 i7 i8 i30 i43 i45 i46 i47 i48 i49 i50 i51 i58 i59 i65 i68 i69 i72 i78 i80 i81 i82 i87 i92 i96 i100 i103 i104))] H := hP
                  have hD : va_D A [((z 0), .inl (T 0, 700, .inl g0)), (a, .inr (11, OX z i1 x28000493 i3 x28000493 x28000565 x28000566 i7 i8 i30 i43 i45 i46 i47 i48 i49 i50 i51 i58 i59 i65 i68 i69 i72 i78 i80 i81 i82 i87 i92 i96 i100 i103 i104))] := hD
                  rcases hAlt with hAlt | hAlt
                  · skip
                    have hp28000567 := hAlt
                    have hp28000567 : i5.toInt ≠ 0 ∧ x28000565.toInt = i5.toInt := hp28000567
                    clear hAlt
                    have hl28000568 : (2 : Int32).toInt = 2 := by decide
                    exfalso; omega
                  · skip
                    have hp28000569 := hAlt
                    have hp28000569 : i5.toInt = 0 ∧ x28000565.toInt = 2 ∧ 1 ≤ x28000565.toInt := hp28000569
                    clear hAlt
                    have hl28000570 : (2 : Int32).toInt = 2 := by decide
                    refine W.widen (k := 0) (n := 0) (Nat.le_refl _) (Nat.le_refl _) ?_
                    refine lv_iload hx hb dX11_number_156 (lv_at hl 0 rfl) ?_
                    exact r_iret (x28000493, x28000493, x28000565, x28000566) C0 hr hlocks hS (Nat.le_refl _) (Nat.le_refl _) dX11_number_158 ⟨⟨by omega, by omega⟩, (Or.inl (by omega)), ⟨by omega, by omega⟩⟩ (hP.sub (ws' := [(a, .inr (11, OX z i1 x28000493 i3 x28000493 x28000565 x28000566 i7 i8 i30 i43 i45 i46 i47 i48 i49 i50 i51 i58 i59 i65 i68 i69 i72 i78 i80 i81 i82 i87 i92 i96 i100 i103 i104)), ((z 0), .inl (T 0, 700, .inl g0))]) [1, 0] rfl) (hD.sub (ws' := [(a, .inr (11, OX z i1 x28000493 i3 x28000493 x28000565 x28000566 i7 i8 i30 i43 i45 i46 i47 i48 i49 i50 i51 i58 i59 i65 i68 i69 i72 i78 i80 i81 i82 i87 i92 i96 i100 i103 i104)), ((z 0), .inl (T 0, 700, .inl g0))]) [1, 0] (by decide +kernel) rfl)
              · skip
                have kc28000558 : x28000493.toInt < i3.toInt := nle_ti rfl rfl c28000558
                refine lv_aload_n hx hb dX11_number_60 rfl (lv_at hl 2 rfl) ?_
                refine r_get (v := .ref (z 0)) C0 hE ffX11_0 mw_790 hP 0 rfl ox_0 dX11_number_61 ?_
                refine lv_aload_n hx hb dX11_number_64 rfl (lv_at hl 2 rfl) ?_
                refine r_get (v := .int x28000493) C0 hE ffX11_2 mw_792 hP 0 rfl ox_2 dX11_number_65 ?_
                refine va_iald hx hb hK hP 1 0 rfl rfl (in_ti rfl (by omega) (by omega)) dX11_number_68 ?_
                refine lv_topi (fun x28000571 ex28000571 => ?_)
                have tx28000571 : x28000571.toInt = (g0 (Int32.toNatClampNeg x28000493)).toInt := by rw [ex28000571]
                refine r_calli (wr := [(a, .inr (11, OX z i1 x28000493 i3 i4 i5 i6 i7 i8 i30 i43 i45 i46 i47 i48 i49 i50 i51 i58 i59 i65 i68 i69 i72 i78 i80 i81 i82 i87 i92 i96 i100 i103 i104)), ((z 0), .inl (T 0, 700, .inl g0))]) (r_runS2 (As := [.int x28000571]) (rest := []) (wc := []) C0 hE hStr hS (va_free (wc := []) hD hS hA [] rfl) (h_X11_isDigit_20200005 l D T sq sv H.size x28000571) mw_951 mw_952 mw_14 mw_953 dn_1709 rfl rfl ⟨Nat.le_of_ble_eq_true rfl, Nat.le_of_ble_eq_true rfl⟩ (hP.sub (ws' := []) [] rfl) (hD.sub (ws' := []) [] (by decide +kernel) rfl) hl.1 rfl (Nat.le_of_ble_eq_true rfl) dX11_number_69 ⟨Nat.le_of_ble_eq_true rfl, Nat.le_of_ble_eq_true rfl⟩) hP hD hS hA [] [0, 1] rfl rfl (by decide +kernel) (by decide +kernel) (fun x28000572 u H locs hq hP hD hS => ?_)
                obtain ⟨hAlt, hx28000572⟩ := hq
                have hx28000572 : 0 ≤ x28000572.toInt ∧ x28000572.toInt ≤ 1 := hx28000572
                have hP : va_P D vwCl [(a, .inr (11, OX z i1 x28000493 i3 i4 i5 i6 i7 i8 i30 i43 i45 i46 i47 i48 i49 i50 i51 i58 i59 i65 i68 i69 i72 i78 i80 i81 i82 i87 i92 i96 i100 i103 i104)), ((z 0), .inl (T 0, 700, .inl g0))] H := hP
                have hD : va_D A [(a, .inr (11, OX z i1 x28000493 i3 i4 i5 i6 i7 i8 i30 i43 i45 i46 i47 i48 i49 i50 i51 i58 i59 i65 i68 i69 i72 i78 i80 i81 i82 i87 i92 i96 i100 i103 i104)), ((z 0), .inl (T 0, 700, .inl g0))] := hD
                rcases hAlt with hAlt | hAlt | hAlt
                · skip
                  have hp28000573 := hAlt
                  have hp28000573 : x28000572.toInt = 0 ∧ x28000571.toInt < 48 := hp28000573
                  clear hAlt
                  refine W.widen (k := 0) (n := 0) (Nat.le_refl _) (Nat.le_refl _) ?_
                  refine lv_if_eq (tgt := 129) hx hb dX11_number_72 (by decide) (fun c28000574 => ?_) (fun hc => by have hf : x28000572.toInt ≠ 0 := ne_ti rfl (by decide) hc; omega)
                  have kc28000574 : x28000572.toInt = 0 := eq_ti rfl (by decide) c28000574
                  refine lv_aload_n hx hb dX11_number_129 rfl (lv_at hl 2 rfl) ?_
                  refine lv_aload_n hx hb dX11_number_130 rfl (lv_at hl 2 rfl) ?_
                  refine r_get (v := .int x28000493) C0 hE ffX11_2 mw_792 hP 0 rfl ox_2 dX11_number_131 ?_
                  refine r_put (v := .int x28000493) (ty := .int) (ws1 := [(a, .inr (11, OX z i1 x28000493 i3 x28000493 i5 i6 i7 i8 i30 i43 i45 i46 i47 i48 i49 i50 i51 i58 i59 i65 i68 i69 i72 i78 i80 i81 i82 i87 i92 i96 i100 i103 i104)), ((z 0), .inl (T 0, 700, .inl g0))]) C0 hE ffX11_4 tyX11 tyX11_ok nmX11 mw_794 pf_1358 hP hD hS 0 rfl rfl rfl ol_4 os_4 rfl dX11_number_134 (fun H locs hP hD hS => ?_)
                  refine lv_iload hx hb dX11_number_137 (lv_at hl 0 rfl) ?_
                  refine lv_i2l hx hb dX11_number_139 rfl ?_
                  refine lv_topl (fun x28000575 ex28000575 => ?_)
                  have hx28000575 : x28000575.toInt = x28000492.toInt := by rw [ex28000575]; exact Int32.toInt_toInt64 _
                  refine lv_iload_n hx hb dX11_number_140 rfl (lv_at hl 3 rfl) ?_
                  refine lv_i2l hx hb dX11_number_141 rfl ?_
                  refine lv_topl (fun x28000576 ex28000576 => ?_)
                  have hx28000576 : x28000576.toInt = p1.toInt := by rw [ex28000576]; exact Int32.toInt_toInt64 _
                  refine lv_iload_n hx hb dX11_number_142 rfl (lv_at hl 4 rfl) ?_
                  refine lv_i2l hx hb dX11_number_143 rfl ?_
                  refine lv_topl (fun x28000577 ex28000577 => ?_)
                  have hx28000577 : x28000577.toInt = p2.toInt := by rw [ex28000577]; exact Int32.toInt_toInt64 _
                  refine r_calli (wr := [(a, .inr (11, OX z i1 x28000493 i3 x28000493 i5 i6 i7 i8 i30 i43 i45 i46 i47 i48 i49 i50 i51 i58 i59 i65 i68 i69 i72 i78 i80 i81 i82 i87 i92 i96 i100 i103 i104)), ((z 0), .inl (T 0, 700, .inl g0))]) (r_runS2 (As := [.long x28000575, .long x28000576, .long x28000577]) (rest := []) (wc := []) C0 hE hStr hS (va_free (wc := []) hD hS hA [] rfl) (h_X11_isIn_20000007 l D T sq sv H.size x28000575 x28000576 x28000577) mw_910 mw_911 mw_14 mw_912 dn_1704 rfl rfl ⟨Nat.le_of_ble_eq_true rfl, Nat.le_of_ble_eq_true rfl⟩ (hP.sub (ws' := []) [] rfl) (hD.sub (ws' := []) [] (by decide +kernel) rfl) hl.1 rfl (Nat.le_of_ble_eq_true rfl) dX11_number_144 ⟨Nat.le_of_ble_eq_true rfl, Nat.le_of_ble_eq_true rfl⟩) hP hD hS hA [] [0, 1] rfl rfl (by decide +kernel) (by decide +kernel) (fun x28000578 u H locs hq hP hD hS => ?_)
                  obtain ⟨hp28000579, hx28000578⟩ := hq
                  have hp28000579 : (x28000578.toInt = 0 ∧ (x28000575.toInt < x28000576.toInt ∨ x28000577.toInt < x28000575.toInt)) ∨ (x28000578.toInt = 1 ∧ x28000576.toInt ≤ x28000575.toInt ∧ x28000575.toInt ≤ x28000577.toInt) := hp28000579
                  have hx28000578 : 0 ≤ x28000578.toInt ∧ x28000578.toInt ≤ 1 := hx28000578
                  have hP : va_P D vwCl [(a, .inr (11, OX z i1 x28000493 i3 x28000493 i5 i6 i7 i8 i30 i43 i45 i46 i47 i48 i49 i50 i51 i58 i59 i65 i68 i69 i72 i78 i80 i81 i82 i87 i92 i96 i100 i103 i104)), ((z 0), .inl (T 0, 700, .inl g0))] H := hP
                  have hD : va_D A [(a, .inr (11, OX z i1 x28000493 i3 x28000493 i5 i6 i7 i8 i30 i43 i45 i46 i47 i48 i49 i50 i51 i58 i59 i65 i68 i69 i72 i78 i80 i81 i82 i87 i92 i96 i100 i103 i104)), ((z 0), .inl (T 0, 700, .inl g0))] := hD
                  refine W.widen (k := 0) (n := 0) (Nat.le_refl _) (Nat.le_refl _) ?_
                  refine lv_if_ne (tgt := 156) hx hb dX11_number_147 (by decide) (fun c28000580 => ?_) (fun c28000580 => ?_)
                  · skip
                    have kc28000580 : x28000578.toInt ≠ 0 := ne_ti rfl (by decide) c28000580
                    have nzx28000578 : ¬ x28000578 = 0 := c28000580
                    refine lv_iload hx hb dX11_number_156 (lv_at hl 0 rfl) ?_
                    exact r_iret (x28000493, x28000493, i5, i6) C0 hr hlocks hS (Nat.le_refl _) (Nat.le_refl _) dX11_number_158 ⟨⟨by omega, by omega⟩, (Or.inr (by omega)), ⟨by omega, by omega⟩⟩ (hP.sub (ws' := [(a, .inr (11, OX z i1 x28000493 i3 x28000493 i5 i6 i7 i8 i30 i43 i45 i46 i47 i48 i49 i50 i51 i58 i59 i65 i68 i69 i72 i78 i80 i81 i82 i87 i92 i96 i100 i103 i104)), ((z 0), .inl (T 0, 700, .inl g0))]) [0, 1] rfl) (hD.sub (ws' := [(a, .inr (11, OX z i1 x28000493 i3 x28000493 i5 i6 i7 i8 i30 i43 i45 i46 i47 i48 i49 i50 i51 i58 i59 i65 i68 i69 i72 i78 i80 i81 i82 i87 i92 i96 i100 i103 i104)), ((z 0), .inl (T 0, 700, .inl g0))]) [0, 1] (by decide +kernel) rfl)
                  · skip
                    have kc28000580 : x28000578.toInt = 0 := eq_ti rfl (by decide) c28000580
                    refine lv_aload_n hx hb dX11_number_150 rfl (lv_at hl 2 rfl) ?_
                    refine lv_iconst (v := 2) hx hb dX11_number_151 (by decide) ?_
                    refine lv_iload_n hx hb dX11_number_152 rfl (lv_at hl 1 rfl) ?_
                    refine r_callv2 (wr := [((z 0), .inl (T 0, 700, .inl g0))]) (r_runV2 (As := [.int 2, .int x28000412]) (rest := []) (wc := [(a, .inr (11, OX z i1 x28000493 i3 x28000493 i5 i6 i7 i8 i30 i43 i45 i46 i47 i48 i49 i50 i51 i58 i59 i65 i68 i69 i72 i78 i80 i81 i82 i87 i92 i96 i100 i103 i104))]) (ci := 11) C0 hE hStr hS (va_free (wc := [(a, .inr (11, OX z i1 x28000493 i3 x28000493 i5 i6 i7 i8 i30 i43 i45 i46 i47 i48 i49 i50 i51 i58 i59 i65 i68 i69 i72 i78 i80 i81 i82 i87 i92 i96 i100 i103 i104))]) hD hS hA [0] rfl) (h_X11_fail_20300002 l D T sq sv H.size a z i1 x28000493 i3 x28000493 i5 i6 i7 i8 i30 i43 i45 i46 i47 i48 i49 i50 i51 i58 i59 i65 i68 i69 i72 i78 i80 i81 i82 i87 i92 i96 i100 i103 i104 2 x28000412 ⟨by decide, by decide⟩) mw_919 mw_920 mw_1299 mw_14 mw_921 dn_1707 rfl rfl ⟨Nat.le_of_ble_eq_true rfl, Nat.le_of_ble_eq_true rfl⟩ (hP.sub (ws' := [(a, .inr (11, OX z i1 x28000493 i3 x28000493 i5 i6 i7 i8 i30 i43 i45 i46 i47 i48 i49 i50 i51 i58 i59 i65 i68 i69 i72 i78 i80 i81 i82 i87 i92 i96 i100 i103 i104))]) [0] rfl) (hD.sub (ws' := [(a, .inr (11, OX z i1 x28000493 i3 x28000493 i5 i6 i7 i8 i30 i43 i45 i46 i47 i48 i49 i50 i51 i58 i59 i65 i68 i69 i72 i78 i80 i81 i82 i87 i92 i96 i100 i103 i104))]) [0] (by decide +kernel) rfl) rfl rfl rfl hl.1 rfl (Nat.le_of_ble_eq_true rfl) dX11_number_153 ⟨Nat.le_of_ble_eq_true rfl, Nat.le_of_ble_eq_true rfl⟩) hP hD hS hA [0] [1] rfl rfl (by decide +kernel) (by decide +kernel) (fun u H locs hq hP hD hS => ?_)
                    obtain ⟨x28000581, x28000582⟩ := u
                    have hAlt := hq
                    have hP : va_P D vwCl [((z 0), .inl (T 0, 700, .inl g0)), (a, .inr (11, OX z i1 x28000493 i3 x28000493 x28000581 x28000582 i7 i8 i30 i43 i45 i46 i47 i48 i49 i50 i51 i58 i59 i65 i68 i69 i72 i78 i80 i81 i82 i87 i92 i96 i100 i103 i104))] H := hP
                    have hD : va_D A [((z 0), .inl (T 0, 700, .inl g0)), (a, .inr (11, OX z i1 x28000493 i3 x28000493 x28000581 x28000582 i7 i8 i30 i43 i45 i46 i47 i48 i49 i50 i51 i58 i59 i65 i68 i69 i72 i78 i80 i81 i82 i87 i92 i96 i100 i103 i104))] := hD
                    rcases hAlt with hAlt | hAlt
                    · skip
                      have hp28000583 := hAlt
                      have hp28000583 : i5.toInt ≠ 0 ∧ x28000581.toInt = i5.toInt := hp28000583
                      clear hAlt
                      have hl28000584 : (2 : Int32).toInt = 2 := by decide
                      exfalso; omega
                    · skip
                      have hp28000585 := hAlt
                      have hp28000585 : i5.toInt = 0 ∧ x28000581.toInt = 2 ∧ 1 ≤ x28000581.toInt := hp28000585
                      clear hAlt
                      have hl28000586 : (2 : Int32).toInt = 2 := by decide
                      refine W.widen (k := 0) (n := 0) (Nat.le_refl _) (Nat.le_refl _) ?_
                      refine lv_iload hx hb dX11_number_156 (lv_at hl 0 rfl) ?_
                      exact r_iret (x28000493, x28000493, x28000581, x28000582) C0 hr hlocks hS (Nat.le_refl _) (Nat.le_refl _) dX11_number_158 ⟨⟨by omega, by omega⟩, (Or.inl (by omega)), ⟨by omega, by omega⟩⟩ (hP.sub (ws' := [(a, .inr (11, OX z i1 x28000493 i3 x28000493 x28000581 x28000582 i7 i8 i30 i43 i45 i46 i47 i48 i49 i50 i51 i58 i59 i65 i68 i69 i72 i78 i80 i81 i82 i87 i92 i96 i100 i103 i104)), ((z 0), .inl (T 0, 700, .inl g0))]) [1, 0] rfl) (hD.sub (ws' := [(a, .inr (11, OX z i1 x28000493 i3 x28000493 x28000581 x28000582 i7 i8 i30 i43 i45 i46 i47 i48 i49 i50 i51 i58 i59 i65 i68 i69 i72 i78 i80 i81 i82 i87 i92 i96 i100 i103 i104)), ((z 0), .inl (T 0, 700, .inl g0))]) [1, 0] (by decide +kernel) rfl)
                · skip
                  have hp28000587 := hAlt
                  have hp28000587 : x28000572.toInt = 0 ∧ 57 < x28000571.toInt := hp28000587
                  clear hAlt
                  refine W.widen (k := 0) (n := 0) (Nat.le_refl _) (Nat.le_refl _) ?_
                  refine lv_if_eq (tgt := 129) hx hb dX11_number_72 (by decide) (fun c28000588 => ?_) (fun hc => by have hf : x28000572.toInt ≠ 0 := ne_ti rfl (by decide) hc; omega)
                  have kc28000588 : x28000572.toInt = 0 := eq_ti rfl (by decide) c28000588
                  refine lv_aload_n hx hb dX11_number_129 rfl (lv_at hl 2 rfl) ?_
                  refine lv_aload_n hx hb dX11_number_130 rfl (lv_at hl 2 rfl) ?_
                  refine r_get (v := .int x28000493) C0 hE ffX11_2 mw_792 hP 0 rfl ox_2 dX11_number_131 ?_
                  refine r_put (v := .int x28000493) (ty := .int) (ws1 := [(a, .inr (11, OX z i1 x28000493 i3 x28000493 i5 i6 i7 i8 i30 i43 i45 i46 i47 i48 i49 i50 i51 i58 i59 i65 i68 i69 i72 i78 i80 i81 i82 i87 i92 i96 i100 i103 i104)), ((z 0), .inl (T 0, 700, .inl g0))]) C0 hE ffX11_4 tyX11 tyX11_ok nmX11 mw_794 pf_1358 hP hD hS 0 rfl rfl rfl ol_4 os_4 rfl dX11_number_134 (fun H locs hP hD hS => ?_)
                  refine lv_iload hx hb dX11_number_137 (lv_at hl 0 rfl) ?_
                  refine lv_i2l hx hb dX11_number_139 rfl ?_
                  refine lv_topl (fun x28000589 ex28000589 => ?_)
                  have hx28000589 : x28000589.toInt = x28000492.toInt := by rw [ex28000589]; exact Int32.toInt_toInt64 _
                  refine lv_iload_n hx hb dX11_number_140 rfl (lv_at hl 3 rfl) ?_
                  refine lv_i2l hx hb dX11_number_141 rfl ?_
                  refine lv_topl (fun x28000590 ex28000590 => ?_)
                  have hx28000590 : x28000590.toInt = p1.toInt := by rw [ex28000590]; exact Int32.toInt_toInt64 _
                  refine lv_iload_n hx hb dX11_number_142 rfl (lv_at hl 4 rfl) ?_
                  refine lv_i2l hx hb dX11_number_143 rfl ?_
                  refine lv_topl (fun x28000591 ex28000591 => ?_)
                  have hx28000591 : x28000591.toInt = p2.toInt := by rw [ex28000591]; exact Int32.toInt_toInt64 _
                  refine r_calli (wr := [(a, .inr (11, OX z i1 x28000493 i3 x28000493 i5 i6 i7 i8 i30 i43 i45 i46 i47 i48 i49 i50 i51 i58 i59 i65 i68 i69 i72 i78 i80 i81 i82 i87 i92 i96 i100 i103 i104)), ((z 0), .inl (T 0, 700, .inl g0))]) (r_runS2 (As := [.long x28000589, .long x28000590, .long x28000591]) (rest := []) (wc := []) C0 hE hStr hS (va_free (wc := []) hD hS hA [] rfl) (h_X11_isIn_20000007 l D T sq sv H.size x28000589 x28000590 x28000591) mw_910 mw_911 mw_14 mw_912 dn_1704 rfl rfl ⟨Nat.le_of_ble_eq_true rfl, Nat.le_of_ble_eq_true rfl⟩ (hP.sub (ws' := []) [] rfl) (hD.sub (ws' := []) [] (by decide +kernel) rfl) hl.1 rfl (Nat.le_of_ble_eq_true rfl) dX11_number_144 ⟨Nat.le_of_ble_eq_true rfl, Nat.le_of_ble_eq_true rfl⟩) hP hD hS hA [] [0, 1] rfl rfl (by decide +kernel) (by decide +kernel) (fun x28000592 u H locs hq hP hD hS => ?_)
                  obtain ⟨hp28000593, hx28000592⟩ := hq
                  have hp28000593 : (x28000592.toInt = 0 ∧ (x28000589.toInt < x28000590.toInt ∨ x28000591.toInt < x28000589.toInt)) ∨ (x28000592.toInt = 1 ∧ x28000590.toInt ≤ x28000589.toInt ∧ x28000589.toInt ≤ x28000591.toInt) := hp28000593
                  have hx28000592 : 0 ≤ x28000592.toInt ∧ x28000592.toInt ≤ 1 := hx28000592
                  have hP : va_P D vwCl [(a, .inr (11, OX z i1 x28000493 i3 x28000493 i5 i6 i7 i8 i30 i43 i45 i46 i47 i48 i49 i50 i51 i58 i59 i65 i68 i69 i72 i78 i80 i81 i82 i87 i92 i96 i100 i103 i104)), ((z 0), .inl (T 0, 700, .inl g0))] H := hP
                  have hD : va_D A [(a, .inr (11, OX z i1 x28000493 i3 x28000493 i5 i6 i7 i8 i30 i43 i45 i46 i47 i48 i49 i50 i51 i58 i59 i65 i68 i69 i72 i78 i80 i81 i82 i87 i92 i96 i100 i103 i104)), ((z 0), .inl (T 0, 700, .inl g0))] := hD
                  refine W.widen (k := 0) (n := 0) (Nat.le_refl _) (Nat.le_refl _) ?_
                  refine lv_if_ne (tgt := 156) hx hb dX11_number_147 (by decide) (fun c28000594 => ?_) (fun c28000594 => ?_)
                  · skip
                    have kc28000594 : x28000592.toInt ≠ 0 := ne_ti rfl (by decide) c28000594
                    have nzx28000592 : ¬ x28000592 = 0 := c28000594
                    refine lv_iload hx hb dX11_number_156 (lv_at hl 0 rfl) ?_
                    exact r_iret (x28000493, x28000493, i5, i6) C0 hr hlocks hS (Nat.le_refl _) (Nat.le_refl _) dX11_number_158 ⟨⟨by omega, by omega⟩, (Or.inr (by omega)), ⟨by omega, by omega⟩⟩ (hP.sub (ws' := [(a, .inr (11, OX z i1 x28000493 i3 x28000493 i5 i6 i7 i8 i30 i43 i45 i46 i47 i48 i49 i50 i51 i58 i59 i65 i68 i69 i72 i78 i80 i81 i82 i87 i92 i96 i100 i103 i104)), ((z 0), .inl (T 0, 700, .inl g0))]) [0, 1] rfl) (hD.sub (ws' := [(a, .inr (11, OX z i1 x28000493 i3 x28000493 i5 i6 i7 i8 i30 i43 i45 i46 i47 i48 i49 i50 i51 i58 i59 i65 i68 i69 i72 i78 i80 i81 i82 i87 i92 i96 i100 i103 i104)), ((z 0), .inl (T 0, 700, .inl g0))]) [0, 1] (by decide +kernel) rfl)
                  · skip
                    have kc28000594 : x28000592.toInt = 0 := eq_ti rfl (by decide) c28000594
                    refine lv_aload_n hx hb dX11_number_150 rfl (lv_at hl 2 rfl) ?_
                    refine lv_iconst (v := 2) hx hb dX11_number_151 (by decide) ?_
                    refine lv_iload_n hx hb dX11_number_152 rfl (lv_at hl 1 rfl) ?_
                    refine r_callv2 (wr := [((z 0), .inl (T 0, 700, .inl g0))]) (r_runV2 (As := [.int 2, .int x28000412]) (rest := []) (wc := [(a, .inr (11, OX z i1 x28000493 i3 x28000493 i5 i6 i7 i8 i30 i43 i45 i46 i47 i48 i49 i50 i51 i58 i59 i65 i68 i69 i72 i78 i80 i81 i82 i87 i92 i96 i100 i103 i104))]) (ci := 11) C0 hE hStr hS (va_free (wc := [(a, .inr (11, OX z i1 x28000493 i3 x28000493 i5 i6 i7 i8 i30 i43 i45 i46 i47 i48 i49 i50 i51 i58 i59 i65 i68 i69 i72 i78 i80 i81 i82 i87 i92 i96 i100 i103 i104))]) hD hS hA [0] rfl) (h_X11_fail_20300002 l D T sq sv H.size a z i1 x28000493 i3 x28000493 i5 i6 i7 i8 i30 i43 i45 i46 i47 i48 i49 i50 i51 i58 i59 i65 i68 i69 i72 i78 i80 i81 i82 i87 i92 i96 i100 i103 i104 2 x28000412 ⟨by decide, by decide⟩) mw_919 mw_920 mw_1299 mw_14 mw_921 dn_1707 rfl rfl ⟨Nat.le_of_ble_eq_true rfl, Nat.le_of_ble_eq_true rfl⟩ (hP.sub (ws' := [(a, .inr (11, OX z i1 x28000493 i3 x28000493 i5 i6 i7 i8 i30 i43 i45 i46 i47 i48 i49 i50 i51 i58 i59 i65 i68 i69 i72 i78 i80 i81 i82 i87 i92 i96 i100 i103 i104))]) [0] rfl) (hD.sub (ws' := [(a, .inr (11, OX z i1 x28000493 i3 x28000493 i5 i6 i7 i8 i30 i43 i45 i46 i47 i48 i49 i50 i51 i58 i59 i65 i68 i69 i72 i78 i80 i81 i82 i87 i92 i96 i100 i103 i104))]) [0] (by decide +kernel) rfl) rfl rfl rfl hl.1 rfl (Nat.le_of_ble_eq_true rfl) dX11_number_153 ⟨Nat.le_of_ble_eq_true rfl, Nat.le_of_ble_eq_true rfl⟩) hP hD hS hA [0] [1] rfl rfl (by decide +kernel) (by decide +kernel) (fun u H locs hq hP hD hS => ?_)
                    obtain ⟨x28000595, x28000596⟩ := u
                    have hAlt := hq
                    have hP : va_P D vwCl [((z 0), .inl (T 0, 700, .inl g0)), (a, .inr (11, OX z i1 x28000493 i3 x28000493 x28000595 x28000596 i7 i8 i30 i43 i45 i46 i47 i48 i49 i50 i51 i58 i59 i65 i68 i69 i72 i78 i80 i81 i82 i87 i92 i96 i100 i103 i104))] H := hP
                    have hD : va_D A [((z 0), .inl (T 0, 700, .inl g0)), (a, .inr (11, OX z i1 x28000493 i3 x28000493 x28000595 x28000596 i7 i8 i30 i43 i45 i46 i47 i48 i49 i50 i51 i58 i59 i65 i68 i69 i72 i78 i80 i81 i82 i87 i92 i96 i100 i103 i104))] := hD
                    rcases hAlt with hAlt | hAlt
                    · skip
                      have hp28000597 := hAlt
                      have hp28000597 : i5.toInt ≠ 0 ∧ x28000595.toInt = i5.toInt := hp28000597
                      clear hAlt
                      have hl28000598 : (2 : Int32).toInt = 2 := by decide
                      exfalso; omega
                    · skip
                      have hp28000599 := hAlt
                      have hp28000599 : i5.toInt = 0 ∧ x28000595.toInt = 2 ∧ 1 ≤ x28000595.toInt := hp28000599
                      clear hAlt
                      have hl28000600 : (2 : Int32).toInt = 2 := by decide
                      refine W.widen (k := 0) (n := 0) (Nat.le_refl _) (Nat.le_refl _) ?_
                      refine lv_iload hx hb dX11_number_156 (lv_at hl 0 rfl) ?_
                      exact r_iret (x28000493, x28000493, x28000595, x28000596) C0 hr hlocks hS (Nat.le_refl _) (Nat.le_refl _) dX11_number_158 ⟨⟨by omega, by omega⟩, (Or.inl (by omega)), ⟨by omega, by omega⟩⟩ (hP.sub (ws' := [(a, .inr (11, OX z i1 x28000493 i3 x28000493 x28000595 x28000596 i7 i8 i30 i43 i45 i46 i47 i48 i49 i50 i51 i58 i59 i65 i68 i69 i72 i78 i80 i81 i82 i87 i92 i96 i100 i103 i104)), ((z 0), .inl (T 0, 700, .inl g0))]) [1, 0] rfl) (hD.sub (ws' := [(a, .inr (11, OX z i1 x28000493 i3 x28000493 x28000595 x28000596 i7 i8 i30 i43 i45 i46 i47 i48 i49 i50 i51 i58 i59 i65 i68 i69 i72 i78 i80 i81 i82 i87 i92 i96 i100 i103 i104)), ((z 0), .inl (T 0, 700, .inl g0))]) [1, 0] (by decide +kernel) rfl)
                · skip
                  have hp28000601 := hAlt
                  have hp28000601 : x28000572.toInt = 1 ∧ 48 ≤ x28000571.toInt ∧ x28000571.toInt ≤ 57 := hp28000601
                  clear hAlt
                  refine W.widen (k := 0) (n := 0) (Nat.le_refl _) (Nat.le_refl _) ?_
                  refine lv_if_eq (tgt := 129) hx hb dX11_number_72 (by decide) (fun hc => by have hf : x28000572.toInt = 0 := eq_ti rfl (by decide) hc; omega) (fun c28000602 => ?_)
                  have kc28000602 : x28000572.toInt ≠ 0 := ne_ti rfl (by decide) c28000602
                  refine lv_aload_n hx hb dX11_number_75 rfl (lv_at hl 2 rfl) ?_
                  refine r_get (v := .int x28000493) C0 hE ffX11_2 mw_792 hP 0 rfl ox_2 dX11_number_76 ?_
                  refine lv_iload_n hx hb dX11_number_79 rfl (lv_at hl 1 rfl) ?_
                  refine lv_isub hx hb dX11_number_80 ?_
                  refine lv_topi (fun x28000603 ex28000603 => ?_)
                  have hx28000603 : x28000603.toInt = x28000493.toInt - x28000412.toInt := ti_sub ex28000603 rfl rfl (by omega) (by omega)
                  refine lv_iconst (v := 4) hx hb dX11_number_81 (by decide) ?_
                  refine lv_icmp_ne (tgt := 96) hx hb dX11_number_82 (by decide) (fun c28000604 => ?_) (fun c28000604 => ?_)
                  · skip
                    have kc28000604 : x28000603.toInt ≠ 4 := ne_ti rfl (by decide) c28000604
                    refine lv_bipush (v := 10) hx hb dX11_number_96 (by decide) ?_
                    refine lv_iload hx hb dX11_number_98 (lv_at hl 0 rfl) ?_
                    refine lv_imul hx hb dX11_number_100 ?_
                    refine lv_topi (fun x28000605 ex28000605 => ?_)
                    have hx28000605 : x28000605.toInt = 10 * x28000492.toInt := ti_mul ex28000605 (by decide) rfl (by omega) (by omega)
                    refine lv_aload_n hx hb dX11_number_101 rfl (lv_at hl 2 rfl) ?_
                    refine r_get (v := .ref (z 0)) C0 hE ffX11_0 mw_790 hP 0 rfl ox_0 dX11_number_102 ?_
                    refine lv_aload_n hx hb dX11_number_105 rfl (lv_at hl 2 rfl) ?_
                    refine r_get (v := .int x28000493) C0 hE ffX11_2 mw_792 hP 0 rfl ox_2 dX11_number_106 ?_
                    refine va_iald hx hb hK hP 1 0 rfl rfl (in_ti rfl (by omega) (by omega)) dX11_number_109 ?_
                    refine lv_topi (fun x28000606 ex28000606 => ?_)
                    have tx28000606 : x28000606.toInt = (g0 (Int32.toNatClampNeg x28000493)).toInt := by rw [ex28000606]
                    have hd28000607 : 48 ≤ x28000606.toInt ∧ x28000606.toInt ≤ 57 := ⟨by omega, by omega⟩
                    refine lv_iadd hx hb dX11_number_110 ?_
                    refine lv_topi (fun x28000608 ex28000608 => ?_)
                    have hx28000608 : x28000608.toInt = x28000605.toInt + x28000606.toInt := ti_add ex28000608 rfl rfl (by omega) (by omega)
                    refine lv_bipush (v := 48) hx hb dX11_number_111 (by decide) ?_
                    refine lv_isub hx hb dX11_number_113 ?_
                    refine lv_topi (fun x28000609 ex28000609 => ?_)
                    have hx28000609 : x28000609.toInt = x28000608.toInt - 48 := ti_sub ex28000609 rfl (by decide) (by omega) (by omega)
                    refine lv_istore (lv' := [(4, .int x28000609), (3, .int x28000412), (0, .ref a), (1, .int p1), (2, .int p2)]) hx hb dX11_number_114 hl (by decide) rfl (fun ls hl => ?_)
                    refine lv_aload_n hx hb dX11_number_116 rfl (lv_at hl 2 rfl) ?_
                    refine lv_dup hx hb dX11_number_117 rfl ?_
                    refine r_get (v := .int x28000493) C0 hE ffX11_2 mw_792 hP 0 rfl ox_2 dX11_number_118 ?_
                    refine lv_iconst (v := 1) hx hb dX11_number_121 (by decide) ?_
                    refine lv_iadd hx hb dX11_number_122 ?_
                    refine lv_topi (fun x28000610 ex28000610 => ?_)
                    have hx28000610 : x28000610.toInt = x28000493.toInt + 1 := ti_add ex28000610 rfl (by decide) (by omega) (by omega)
                    refine r_put (v := .int x28000610) (ty := .int) (ws1 := [(a, .inr (11, OX z i1 x28000610 i3 i4 i5 i6 i7 i8 i30 i43 i45 i46 i47 i48 i49 i50 i51 i58 i59 i65 i68 i69 i72 i78 i80 i81 i82 i87 i92 i96 i100 i103 i104)), ((z 0), .inl (T 0, 700, .inl g0))]) C0 hE ffX11_2 tyX11 tyX11_ok nmX11 mw_792 pf_1358 hP hD hS 0 rfl rfl rfl ol_2 os_2 rfl dX11_number_123 (fun H locs hP hD hS => ?_)
                    refine lv_goto (tgt := 49) hx hb dX11_number_126 (by decide) ?_
                    exact ih28000557 x28000609 x28000610 _ _ ls ⟨by omega, by omega⟩ ⟨by omega, by omega⟩ (by omega) (by omega) (by omega) (by omega) (hP.sub (ws' := [(a, .inr (11, OX z i1 x28000610 i3 i4 i5 i6 i7 i8 i30 i43 i45 i46 i47 i48 i49 i50 i51 i58 i59 i65 i68 i69 i72 i78 i80 i81 i82 i87 i92 i96 i100 i103 i104)), ((z 0), .inl (T 0, 700, .inl g0))]) [0, 1] rfl) (hD.sub (ws' := [(a, .inr (11, OX z i1 x28000610 i3 i4 i5 i6 i7 i8 i30 i43 i45 i46 i47 i48 i49 i50 i51 i58 i59 i65 i68 i69 i72 i78 i80 i81 i82 i87 i92 i96 i100 i103 i104)), ((z 0), .inl (T 0, 700, .inl g0))]) [0, 1] (by decide +kernel) rfl) hS (lv_sub hl [0, 1, 2, 3, 4] rfl)
                  · skip
                    have kc28000604 : x28000603.toInt = 4 := eq_ti rfl (by decide) c28000604
                    refine lv_aload_n hx hb dX11_number_85 rfl (lv_at hl 2 rfl) ?_
                    refine lv_iconst (v := 1) hx hb dX11_number_86 (by decide) ?_
                    refine lv_aload_n hx hb dX11_number_87 rfl (lv_at hl 2 rfl) ?_
                    refine r_get (v := .int x28000493) C0 hE ffX11_2 mw_792 hP 0 rfl ox_2 dX11_number_88 ?_
                    refine r_callv2 (wr := [((z 0), .inl (T 0, 700, .inl g0))]) (r_runV2 (As := [.int 1, .int x28000493]) (rest := []) (wc := [(a, .inr (11, OX z i1 x28000493 i3 i4 i5 i6 i7 i8 i30 i43 i45 i46 i47 i48 i49 i50 i51 i58 i59 i65 i68 i69 i72 i78 i80 i81 i82 i87 i92 i96 i100 i103 i104))]) (ci := 11) C0 hE hStr hS (va_free (wc := [(a, .inr (11, OX z i1 x28000493 i3 i4 i5 i6 i7 i8 i30 i43 i45 i46 i47 i48 i49 i50 i51 i58 i59 i65 i68 i69 i72 i78 i80 i81 i82 i87 i92 i96 i100 i103 i104))]) hD hS hA [0] rfl) (h_X11_fail_20300002 l D T sq sv H.size a z i1 x28000493 i3 i4 i5 i6 i7 i8 i30 i43 i45 i46 i47 i48 i49 i50 i51 i58 i59 i65 i68 i69 i72 i78 i80 i81 i82 i87 i92 i96 i100 i103 i104 1 x28000493 ⟨by decide, by decide⟩) mw_919 mw_920 mw_1299 mw_14 mw_921 dn_1707 rfl rfl ⟨Nat.le_of_ble_eq_true rfl, Nat.le_of_ble_eq_true rfl⟩ (hP.sub (ws' := [(a, .inr (11, OX z i1 x28000493 i3 i4 i5 i6 i7 i8 i30 i43 i45 i46 i47 i48 i49 i50 i51 i58 i59 i65 i68 i69 i72 i78 i80 i81 i82 i87 i92 i96 i100 i103 i104))]) [0] rfl) (hD.sub (ws' := [(a, .inr (11, OX z i1 x28000493 i3 i4 i5 i6 i7 i8 i30 i43 i45 i46 i47 i48 i49 i50 i51 i58 i59 i65 i68 i69 i72 i78 i80 i81 i82 i87 i92 i96 i100 i103 i104))]) [0] (by decide +kernel) rfl) rfl rfl rfl hl.1 rfl (Nat.le_of_ble_eq_true rfl) dX11_number_91 ⟨Nat.le_of_ble_eq_true rfl, Nat.le_of_ble_eq_true rfl⟩) hP hD hS hA [0] [1] rfl rfl (by decide +kernel) (by decide +kernel) (fun u H locs hq hP hD hS => ?_)
                    obtain ⟨x28000611, x28000612⟩ := u
                    have hAlt := hq
                    have hP : va_P D vwCl [((z 0), .inl (T 0, 700, .inl g0)), (a, .inr (11, OX z i1 x28000493 i3 i4 x28000611 x28000612 i7 i8 i30 i43 i45 i46 i47 i48 i49 i50 i51 i58 i59 i65 i68 i69 i72 i78 i80 i81 i82 i87 i92 i96 i100 i103 i104))] H := hP
                    have hD : va_D A [((z 0), .inl (T 0, 700, .inl g0)), (a, .inr (11, OX z i1 x28000493 i3 i4 x28000611 x28000612 i7 i8 i30 i43 i45 i46 i47 i48 i49 i50 i51 i58 i59 i65 i68 i69 i72 i78 i80 i81 i82 i87 i92 i96 i100 i103 i104))] := hD
                    rcases hAlt with hAlt | hAlt
                    · skip
                      have hp28000613 := hAlt
                      have hp28000613 : i5.toInt ≠ 0 ∧ x28000611.toInt = i5.toInt := hp28000613
                      clear hAlt
                      have hl28000614 : (1 : Int32).toInt = 1 := by decide
                      exfalso; omega
                    · skip
                      have hp28000615 := hAlt
                      have hp28000615 : i5.toInt = 0 ∧ x28000611.toInt = 1 ∧ 1 ≤ x28000611.toInt := hp28000615
                      clear hAlt
                      have hl28000616 : (1 : Int32).toInt = 1 := by decide
                      refine W.widen (k := 0) (n := 0) (Nat.le_refl _) (Nat.le_refl _) ?_
                      refine lv_iconst (v := 0) hx hb dX11_number_94 (by decide) ?_
                      have hl28000617 : (0 : Int32).toInt = 0 := by decide
                      exact r_iret (x28000493, i4, x28000611, x28000612) C0 hr hlocks hS (Nat.le_refl _) (Nat.le_refl _) dX11_number_95 ⟨⟨by omega, by omega⟩, (Or.inl (by omega)), ⟨by decide, by decide⟩⟩ (hP.sub (ws' := [(a, .inr (11, OX z i1 x28000493 i3 i4 x28000611 x28000612 i7 i8 i30 i43 i45 i46 i47 i48 i49 i50 i51 i58 i59 i65 i68 i69 i72 i78 i80 i81 i82 i87 i92 i96 i100 i103 i104)), ((z 0), .inl (T 0, 700, .inl g0))]) [1, 0] rfl) (hD.sub (ws' := [(a, .inr (11, OX z i1 x28000493 i3 i4 x28000611 x28000612 i7 i8 i30 i43 i45 i46 i47 i48 i49 i50 i51 i58 i59 i65 i68 i69 i72 i78 i80 i81 i82 i87 i92 i96 i100 i103 i104)), ((z 0), .inl (T 0, 700, .inl g0))]) [1, 0] (by decide +kernel) rfl)
          have hl28000618 : (0 : Int32).toInt = 0 := by decide
          exact L28000553 _ 0 x28000412 _ _ ls ⟨by decide, by decide⟩ ⟨by omega, by omega⟩ (by omega) (by omega) (by omega) (Nat.lt_succ_self _) (hP.sub (ws' := [(a, .inr (11, OX z i1 x28000412 i3 i4 i5 i6 i7 i8 i30 i43 i45 i46 i47 i48 i49 i50 i51 i58 i59 i65 i68 i69 i72 i78 i80 i81 i82 i87 i92 i96 i100 i103 i104)), ((z 0), .inl (T 0, 700, .inl g0))]) [0, 1] rfl) (hD.sub (ws' := [(a, .inr (11, OX z i1 x28000412 i3 i4 i5 i6 i7 i8 i30 i43 i45 i46 i47 i48 i49 i50 i51 i58 i59 i65 i68 i69 i72 i78 i80 i81 i82 i87 i92 i96 i100 i103 i104)), ((z 0), .inl (T 0, 700, .inl g0))]) [0, 1] (by decide +kernel) rfl) hS (lv_sub hl [0, 1, 2, 3, 4] rfl)
        · skip
          have kc28000436 : x28000412.toInt = i4.toInt := eq_ti rfl rfl c28000436
          refine lv_aload_n hx hb dX11_number_30 rfl (lv_at hl 0 rfl) ?_
          refine lv_iconst (v := 1) hx hb dX11_number_31 (by decide) ?_
          refine lv_aload_n hx hb dX11_number_32 rfl (lv_at hl 0 rfl) ?_
          refine r_get (v := .int x28000412) C0 hE ffX11_2 mw_792 hP 0 rfl ox_2 dX11_number_33 ?_
          refine r_callv2 (wr := [((z 0), .inl (T 0, 700, .inl g0))]) (r_runV2 (As := [.int 1, .int x28000412]) (rest := []) (wc := [(a, .inr (11, OX z i1 x28000412 i3 i4 i5 i6 i7 i8 i30 i43 i45 i46 i47 i48 i49 i50 i51 i58 i59 i65 i68 i69 i72 i78 i80 i81 i82 i87 i92 i96 i100 i103 i104))]) (ci := 11) C0 hE hStr hS (va_free (wc := [(a, .inr (11, OX z i1 x28000412 i3 i4 i5 i6 i7 i8 i30 i43 i45 i46 i47 i48 i49 i50 i51 i58 i59 i65 i68 i69 i72 i78 i80 i81 i82 i87 i92 i96 i100 i103 i104))]) hD hS hA [0] rfl) (h_X11_fail_20300002 l D T sq sv H.size a z i1 x28000412 i3 i4 i5 i6 i7 i8 i30 i43 i45 i46 i47 i48 i49 i50 i51 i58 i59 i65 i68 i69 i72 i78 i80 i81 i82 i87 i92 i96 i100 i103 i104 1 x28000412 ⟨by decide, by decide⟩) mw_919 mw_920 mw_1299 mw_14 mw_921 dn_1707 rfl rfl ⟨Nat.le_of_ble_eq_true rfl, Nat.le_of_ble_eq_true rfl⟩ (hP.sub (ws' := [(a, .inr (11, OX z i1 x28000412 i3 i4 i5 i6 i7 i8 i30 i43 i45 i46 i47 i48 i49 i50 i51 i58 i59 i65 i68 i69 i72 i78 i80 i81 i82 i87 i92 i96 i100 i103 i104))]) [0] rfl) (hD.sub (ws' := [(a, .inr (11, OX z i1 x28000412 i3 i4 i5 i6 i7 i8 i30 i43 i45 i46 i47 i48 i49 i50 i51 i58 i59 i65 i68 i69 i72 i78 i80 i81 i82 i87 i92 i96 i100 i103 i104))]) [0] (by decide +kernel) rfl) rfl rfl rfl hl.1 rfl (Nat.le_of_ble_eq_true rfl) dX11_number_36 ⟨Nat.le_of_ble_eq_true rfl, Nat.le_of_ble_eq_true rfl⟩) hP hD hS hA [0] [1] rfl rfl (by decide +kernel) (by decide +kernel) (fun u H locs hq hP hD hS => ?_)
          obtain ⟨x28000619, x28000620⟩ := u
          have hAlt := hq
          have hP : va_P D vwCl [((z 0), .inl (T 0, 700, .inl g0)), (a, .inr (11, OX z i1 x28000412 i3 i4 x28000619 x28000620 i7 i8 i30 i43 i45 i46 i47 i48 i49 i50 i51 i58 i59 i65 i68 i69 i72 i78 i80 i81 i82 i87 i92 i96 i100 i103 i104))] H := hP
          have hD : va_D A [((z 0), .inl (T 0, 700, .inl g0)), (a, .inr (11, OX z i1 x28000412 i3 i4 x28000619 x28000620 i7 i8 i30 i43 i45 i46 i47 i48 i49 i50 i51 i58 i59 i65 i68 i69 i72 i78 i80 i81 i82 i87 i92 i96 i100 i103 i104))] := hD
          rcases hAlt with hAlt | hAlt
          · skip
            have hp28000621 := hAlt
            have hp28000621 : i5.toInt ≠ 0 ∧ x28000619.toInt = i5.toInt := hp28000621
            clear hAlt
            have hl28000622 : (1 : Int32).toInt = 1 := by decide
            exfalso; omega
          · skip
            have hp28000623 := hAlt
            have hp28000623 : i5.toInt = 0 ∧ x28000619.toInt = 1 ∧ 1 ≤ x28000619.toInt := hp28000623
            clear hAlt
            have hl28000624 : (1 : Int32).toInt = 1 := by decide
            refine W.widen (k := 0) (n := 0) (Nat.le_refl _) (Nat.le_refl _) ?_
            refine lv_iconst (v := 0) hx hb dX11_number_39 (by decide) ?_
            have hl28000625 : (0 : Int32).toInt = 0 := by decide
            exact r_iret (x28000412, i4, x28000619, x28000620) C0 hr hlocks hS (Nat.le_refl _) (Nat.le_refl _) dX11_number_40 ⟨⟨by omega, by omega⟩, (Or.inl (by omega)), ⟨by decide, by decide⟩⟩ (hP.sub (ws' := [(a, .inr (11, OX z i1 x28000412 i3 i4 x28000619 x28000620 i7 i8 i30 i43 i45 i46 i47 i48 i49 i50 i51 i58 i59 i65 i68 i69 i72 i78 i80 i81 i82 i87 i92 i96 i100 i103 i104)), ((z 0), .inl (T 0, 700, .inl g0))]) [1, 0] rfl) (hD.sub (ws' := [(a, .inr (11, OX z i1 x28000412 i3 i4 x28000619 x28000620 i7 i8 i30 i43 i45 i46 i47 i48 i49 i50 i51 i58 i59 i65 i68 i69 i72 i78 i80 i81 i82 i87 i92 i96 i100 i103 i104)), ((z 0), .inl (T 0, 700, .inl g0))]) [1, 0] (by decide +kernel) rfl)
    · skip
      have hp28000626 := hAlt
      have hp28000626 : i2.toInt ≤ x28000412.toInt ∧ x28000412.toInt < i3.toInt ∧ x28000411.toInt = (g0 (Int32.toNatClampNeg x28000412)).toInt := hp28000626
      clear hAlt
      refine W.widen (k := 0) (n := 0) (Nat.le_refl _) (Nat.le_refl _) ?_
      refine r_calli (wr := [(a, .inr (11, OX z i1 x28000412 i3 i4 i5 i6 i7 i8 i30 i43 i45 i46 i47 i48 i49 i50 i51 i58 i59 i65 i68 i69 i72 i78 i80 i81 i82 i87 i92 i96 i100 i103 i104)), ((z 0), .inl (T 0, 700, .inl g0))]) (r_runS2 (As := [.int x28000411]) (rest := []) (wc := []) C0 hE hStr hS (va_free (wc := []) hD hS hA [] rfl) (h_X11_isDigit_20200005 l D T sq sv H.size x28000411) mw_951 mw_952 mw_14 mw_953 dn_1709 rfl rfl ⟨Nat.le_of_ble_eq_true rfl, Nat.le_of_ble_eq_true rfl⟩ (hP.sub (ws' := []) [] rfl) (hD.sub (ws' := []) [] (by decide +kernel) rfl) hl.1 rfl (Nat.le_of_ble_eq_true rfl) dX11_number_13 ⟨Nat.le_of_ble_eq_true rfl, Nat.le_of_ble_eq_true rfl⟩) hP hD hS hA [] [0, 1] rfl rfl (by decide +kernel) (by decide +kernel) (fun x28000627 u H locs hq hP hD hS => ?_)
      obtain ⟨hAlt, hx28000627⟩ := hq
      have hx28000627 : 0 ≤ x28000627.toInt ∧ x28000627.toInt ≤ 1 := hx28000627
      have hP : va_P D vwCl [(a, .inr (11, OX z i1 x28000412 i3 i4 i5 i6 i7 i8 i30 i43 i45 i46 i47 i48 i49 i50 i51 i58 i59 i65 i68 i69 i72 i78 i80 i81 i82 i87 i92 i96 i100 i103 i104)), ((z 0), .inl (T 0, 700, .inl g0))] H := hP
      have hD : va_D A [(a, .inr (11, OX z i1 x28000412 i3 i4 i5 i6 i7 i8 i30 i43 i45 i46 i47 i48 i49 i50 i51 i58 i59 i65 i68 i69 i72 i78 i80 i81 i82 i87 i92 i96 i100 i103 i104)), ((z 0), .inl (T 0, 700, .inl g0))] := hD
      rcases hAlt with hAlt | hAlt | hAlt
      · skip
        have hp28000628 := hAlt
        have hp28000628 : x28000627.toInt = 0 ∧ x28000411.toInt < 48 := hp28000628
        clear hAlt
        refine W.widen (k := 0) (n := 0) (Nat.le_refl _) (Nat.le_refl _) ?_
        refine lv_if_eq (tgt := 30) hx hb dX11_number_16 (by decide) (fun c28000629 => ?_) (fun hc => by have hf : x28000627.toInt ≠ 0 := ne_ti rfl (by decide) hc; omega)
        have kc28000629 : x28000627.toInt = 0 := eq_ti rfl (by decide) c28000629
        refine lv_aload_n hx hb dX11_number_30 rfl (lv_at hl 0 rfl) ?_
        refine lv_iconst (v := 1) hx hb dX11_number_31 (by decide) ?_
        refine lv_aload_n hx hb dX11_number_32 rfl (lv_at hl 0 rfl) ?_
        refine r_get (v := .int x28000412) C0 hE ffX11_2 mw_792 hP 0 rfl ox_2 dX11_number_33 ?_
        refine r_callv2 (wr := [((z 0), .inl (T 0, 700, .inl g0))]) (r_runV2 (As := [.int 1, .int x28000412]) (rest := []) (wc := [(a, .inr (11, OX z i1 x28000412 i3 i4 i5 i6 i7 i8 i30 i43 i45 i46 i47 i48 i49 i50 i51 i58 i59 i65 i68 i69 i72 i78 i80 i81 i82 i87 i92 i96 i100 i103 i104))]) (ci := 11) C0 hE hStr hS (va_free (wc := [(a, .inr (11, OX z i1 x28000412 i3 i4 i5 i6 i7 i8 i30 i43 i45 i46 i47 i48 i49 i50 i51 i58 i59 i65 i68 i69 i72 i78 i80 i81 i82 i87 i92 i96 i100 i103 i104))]) hD hS hA [0] rfl) (h_X11_fail_20300002 l D T sq sv H.size a z i1 x28000412 i3 i4 i5 i6 i7 i8 i30 i43 i45 i46 i47 i48 i49 i50 i51 i58 i59 i65 i68 i69 i72 i78 i80 i81 i82 i87 i92 i96 i100 i103 i104 1 x28000412 ⟨by decide, by decide⟩) mw_919 mw_920 mw_1299 mw_14 mw_921 dn_1707 rfl rfl ⟨Nat.le_of_ble_eq_true rfl, Nat.le_of_ble_eq_true rfl⟩ (hP.sub (ws' := [(a, .inr (11, OX z i1 x28000412 i3 i4 i5 i6 i7 i8 i30 i43 i45 i46 i47 i48 i49 i50 i51 i58 i59 i65 i68 i69 i72 i78 i80 i81 i82 i87 i92 i96 i100 i103 i104))]) [0] rfl) (hD.sub (ws' := [(a, .inr (11, OX z i1 x28000412 i3 i4 i5 i6 i7 i8 i30 i43 i45 i46 i47 i48 i49 i50 i51 i58 i59 i65 i68 i69 i72 i78 i80 i81 i82 i87 i92 i96 i100 i103 i104))]) [0] (by decide +kernel) rfl) rfl rfl rfl hl.1 rfl (Nat.le_of_ble_eq_true rfl) dX11_number_36 ⟨Nat.le_of_ble_eq_true rfl, Nat.le_of_ble_eq_true rfl⟩) hP hD hS hA [0] [1] rfl rfl (by decide +kernel) (by decide +kernel) (fun u H locs hq hP hD hS => ?_)
        obtain ⟨x28000630, x28000631⟩ := u
        have hAlt := hq
        have hP : va_P D vwCl [((z 0), .inl (T 0, 700, .inl g0)), (a, .inr (11, OX z i1 x28000412 i3 i4 x28000630 x28000631 i7 i8 i30 i43 i45 i46 i47 i48 i49 i50 i51 i58 i59 i65 i68 i69 i72 i78 i80 i81 i82 i87 i92 i96 i100 i103 i104))] H := hP
        have hD : va_D A [((z 0), .inl (T 0, 700, .inl g0)), (a, .inr (11, OX z i1 x28000412 i3 i4 x28000630 x28000631 i7 i8 i30 i43 i45 i46 i47 i48 i49 i50 i51 i58 i59 i65 i68 i69 i72 i78 i80 i81 i82 i87 i92 i96 i100 i103 i104))] := hD
        rcases hAlt with hAlt | hAlt
        · skip
          have hp28000632 := hAlt
          have hp28000632 : i5.toInt ≠ 0 ∧ x28000630.toInt = i5.toInt := hp28000632
          clear hAlt
          have hl28000633 : (1 : Int32).toInt = 1 := by decide
          exfalso; omega
        · skip
          have hp28000634 := hAlt
          have hp28000634 : i5.toInt = 0 ∧ x28000630.toInt = 1 ∧ 1 ≤ x28000630.toInt := hp28000634
          clear hAlt
          have hl28000635 : (1 : Int32).toInt = 1 := by decide
          refine W.widen (k := 0) (n := 0) (Nat.le_refl _) (Nat.le_refl _) ?_
          refine lv_iconst (v := 0) hx hb dX11_number_39 (by decide) ?_
          have hl28000636 : (0 : Int32).toInt = 0 := by decide
          exact r_iret (x28000412, i4, x28000630, x28000631) C0 hr hlocks hS (Nat.le_refl _) (Nat.le_refl _) dX11_number_40 ⟨⟨by omega, by omega⟩, (Or.inl (by omega)), ⟨by decide, by decide⟩⟩ (hP.sub (ws' := [(a, .inr (11, OX z i1 x28000412 i3 i4 x28000630 x28000631 i7 i8 i30 i43 i45 i46 i47 i48 i49 i50 i51 i58 i59 i65 i68 i69 i72 i78 i80 i81 i82 i87 i92 i96 i100 i103 i104)), ((z 0), .inl (T 0, 700, .inl g0))]) [1, 0] rfl) (hD.sub (ws' := [(a, .inr (11, OX z i1 x28000412 i3 i4 x28000630 x28000631 i7 i8 i30 i43 i45 i46 i47 i48 i49 i50 i51 i58 i59 i65 i68 i69 i72 i78 i80 i81 i82 i87 i92 i96 i100 i103 i104)), ((z 0), .inl (T 0, 700, .inl g0))]) [1, 0] (by decide +kernel) rfl)
      · skip
        have hp28000637 := hAlt
        have hp28000637 : x28000627.toInt = 0 ∧ 57 < x28000411.toInt := hp28000637
        clear hAlt
        refine W.widen (k := 0) (n := 0) (Nat.le_refl _) (Nat.le_refl _) ?_
        refine lv_if_eq (tgt := 30) hx hb dX11_number_16 (by decide) (fun c28000638 => ?_) (fun hc => by have hf : x28000627.toInt ≠ 0 := ne_ti rfl (by decide) hc; omega)
        have kc28000638 : x28000627.toInt = 0 := eq_ti rfl (by decide) c28000638
        refine lv_aload_n hx hb dX11_number_30 rfl (lv_at hl 0 rfl) ?_
        refine lv_iconst (v := 1) hx hb dX11_number_31 (by decide) ?_
        refine lv_aload_n hx hb dX11_number_32 rfl (lv_at hl 0 rfl) ?_
        refine r_get (v := .int x28000412) C0 hE ffX11_2 mw_792 hP 0 rfl ox_2 dX11_number_33 ?_
        refine r_callv2 (wr := [((z 0), .inl (T 0, 700, .inl g0))]) (r_runV2 (As := [.int 1, .int x28000412]) (rest := []) (wc := [(a, .inr (11, OX z i1 x28000412 i3 i4 i5 i6 i7 i8 i30 i43 i45 i46 i47 i48 i49 i50 i51 i58 i59 i65 i68 i69 i72 i78 i80 i81 i82 i87 i92 i96 i100 i103 i104))]) (ci := 11) C0 hE hStr hS (va_free (wc := [(a, .inr (11, OX z i1 x28000412 i3 i4 i5 i6 i7 i8 i30 i43 i45 i46 i47 i48 i49 i50 i51 i58 i59 i65 i68 i69 i72 i78 i80 i81 i82 i87 i92 i96 i100 i103 i104))]) hD hS hA [0] rfl) (h_X11_fail_20300002 l D T sq sv H.size a z i1 x28000412 i3 i4 i5 i6 i7 i8 i30 i43 i45 i46 i47 i48 i49 i50 i51 i58 i59 i65 i68 i69 i72 i78 i80 i81 i82 i87 i92 i96 i100 i103 i104 1 x28000412 ⟨by decide, by decide⟩) mw_919 mw_920 mw_1299 mw_14 mw_921 dn_1707 rfl rfl ⟨Nat.le_of_ble_eq_true rfl, Nat.le_of_ble_eq_true rfl⟩ (hP.sub (ws' := [(a, .inr (11, OX z i1 x28000412 i3 i4 i5 i6 i7 i8 i30 i43 i45 i46 i47 i48 i49 i50 i51 i58 i59 i65 i68 i69 i72 i78 i80 i81 i82 i87 i92 i96 i100 i103 i104))]) [0] rfl) (hD.sub (ws' := [(a, .inr (11, OX z i1 x28000412 i3 i4 i5 i6 i7 i8 i30 i43 i45 i46 i47 i48 i49 i50 i51 i58 i59 i65 i68 i69 i72 i78 i80 i81 i82 i87 i92 i96 i100 i103 i104))]) [0] (by decide +kernel) rfl) rfl rfl rfl hl.1 rfl (Nat.le_of_ble_eq_true rfl) dX11_number_36 ⟨Nat.le_of_ble_eq_true rfl, Nat.le_of_ble_eq_true rfl⟩) hP hD hS hA [0] [1] rfl rfl (by decide +kernel) (by decide +kernel) (fun u H locs hq hP hD hS => ?_)
        obtain ⟨x28000639, x28000640⟩ := u
        have hAlt := hq
        have hP : va_P D vwCl [((z 0), .inl (T 0, 700, .inl g0)), (a, .inr (11, OX z i1 x28000412 i3 i4 x28000639 x28000640 i7 i8 i30 i43 i45 i46 i47 i48 i49 i50 i51 i58 i59 i65 i68 i69 i72 i78 i80 i81 i82 i87 i92 i96 i100 i103 i104))] H := hP
        have hD : va_D A [((z 0), .inl (T 0, 700, .inl g0)), (a, .inr (11, OX z i1 x28000412 i3 i4 x28000639 x28000640 i7 i8 i30 i43 i45 i46 i47 i48 i49 i50 i51 i58 i59 i65 i68 i69 i72 i78 i80 i81 i82 i87 i92 i96 i100 i103 i104))] := hD
        rcases hAlt with hAlt | hAlt
        · skip
          have hp28000641 := hAlt
          have hp28000641 : i5.toInt ≠ 0 ∧ x28000639.toInt = i5.toInt := hp28000641
          clear hAlt
          have hl28000642 : (1 : Int32).toInt = 1 := by decide
          exfalso; omega
        · skip
          have hp28000643 := hAlt
          have hp28000643 : i5.toInt = 0 ∧ x28000639.toInt = 1 ∧ 1 ≤ x28000639.toInt := hp28000643
          clear hAlt
          have hl28000644 : (1 : Int32).toInt = 1 := by decide
          refine W.widen (k := 0) (n := 0) (Nat.le_refl _) (Nat.le_refl _) ?_
          refine lv_iconst (v := 0) hx hb dX11_number_39 (by decide) ?_
          have hl28000645 : (0 : Int32).toInt = 0 := by decide
          exact r_iret (x28000412, i4, x28000639, x28000640) C0 hr hlocks hS (Nat.le_refl _) (Nat.le_refl _) dX11_number_40 ⟨⟨by omega, by omega⟩, (Or.inl (by omega)), ⟨by decide, by decide⟩⟩ (hP.sub (ws' := [(a, .inr (11, OX z i1 x28000412 i3 i4 x28000639 x28000640 i7 i8 i30 i43 i45 i46 i47 i48 i49 i50 i51 i58 i59 i65 i68 i69 i72 i78 i80 i81 i82 i87 i92 i96 i100 i103 i104)), ((z 0), .inl (T 0, 700, .inl g0))]) [1, 0] rfl) (hD.sub (ws' := [(a, .inr (11, OX z i1 x28000412 i3 i4 x28000639 x28000640 i7 i8 i30 i43 i45 i46 i47 i48 i49 i50 i51 i58 i59 i65 i68 i69 i72 i78 i80 i81 i82 i87 i92 i96 i100 i103 i104)), ((z 0), .inl (T 0, 700, .inl g0))]) [1, 0] (by decide +kernel) rfl)
      · skip
        have hp28000646 := hAlt
        have hp28000646 : x28000627.toInt = 1 ∧ 48 ≤ x28000411.toInt ∧ x28000411.toInt ≤ 57 := hp28000646
        clear hAlt
        refine W.widen (k := 0) (n := 0) (Nat.le_refl _) (Nat.le_refl _) ?_
        refine lv_if_eq (tgt := 30) hx hb dX11_number_16 (by decide) (fun hc => by have hf : x28000627.toInt = 0 := eq_ti rfl (by decide) hc; omega) (fun c28000647 => ?_)
        have kc28000647 : x28000627.toInt ≠ 0 := ne_ti rfl (by decide) c28000647
        refine lv_aload_n hx hb dX11_number_19 rfl (lv_at hl 0 rfl) ?_
        refine r_get (v := .int x28000412) C0 hE ffX11_2 mw_792 hP 0 rfl ox_2 dX11_number_20 ?_
        refine lv_aload_n hx hb dX11_number_23 rfl (lv_at hl 0 rfl) ?_
        refine r_get (v := .int i4) C0 hE ffX11_4 mw_794 hP 0 rfl ox_4 dX11_number_24 ?_
        refine lv_icmp_ne (tgt := 41) hx hb dX11_number_27 (by decide) (fun c28000648 => ?_) (fun c28000648 => ?_)
        · skip
          have kc28000648 : x28000412.toInt ≠ i4.toInt := ne_ti rfl rfl c28000648
          refine lv_aload_n hx hb dX11_number_41 rfl (lv_at hl 0 rfl) ?_
          refine r_get (v := .int x28000412) C0 hE ffX11_2 mw_792 hP 0 rfl ox_2 dX11_number_42 ?_
          refine lv_istore_n (lv' := [(3, .int x28000412), (0, .ref a), (1, .int p1), (2, .int p2)]) hx hb dX11_number_45 rfl hl (by decide) rfl (fun ls hl => ?_)
          refine lv_iconst (v := 0) hx hb dX11_number_46 (by decide) ?_
          refine lv_istore (lv' := [(4, .int 0), (3, .int x28000412), (0, .ref a), (1, .int p1), (2, .int p2)]) hx hb dX11_number_47 hl (by decide) rfl (fun ls hl => ?_)
          have L28000765 : ∀ (n : Nat) (x28000704 : Int32) (x28000705 : Int32) (H : Heap) (locs : List Loc) (ls : Array Slot), (0 ≤ x28000704.toInt ∧ x28000704.toInt ≤ 9999) → (0 ≤ x28000705.toInt ∧ x28000705.toInt ≤ 700) → (x28000412.toInt ≤ x28000705.toInt ∧ (x28000705.toInt = x28000412.toInt → (x28000705.toInt < i3.toInt ∧ 48 ≤ (g0 (Int32.toNatClampNeg x28000705)).toInt ∧ (g0 (Int32.toNatClampNeg x28000705)).toInt ≤ 57))) → ((x28000705.toInt = x28000412.toInt ∧ x28000704.toInt = 0) ∨ (x28000705.toInt = x28000412.toInt + 1 ∧ x28000704.toInt ≤ 9) ∨ (x28000705.toInt = x28000412.toInt + 2 ∧ x28000704.toInt ≤ 99) ∨ (x28000705.toInt = x28000412.toInt + 3 ∧ x28000704.toInt ≤ 999) ∨ (x28000705.toInt = x28000412.toInt + 4 ∧ x28000704.toInt ≤ 9999)) → (i2.toInt ≤ x28000412.toInt) → (701 - x28000705.toInt).toNat < n → va_P D vwCl [(a, .inr (11, OX z i1 x28000705 i3 i4 i5 i6 i7 i8 i30 i43 i45 i46 i47 i48 i49 i50 i51 i58 i59 i65 i68 i69 i72 i78 i80 i81 i82 i87 i92 i96 i100 i103 i104)), ((z 0), .inl (T 0, 700, .inl g0))] H → va_D A [(a, .inr (11, OX z i1 x28000705 i3 i4 i5 i6 i7 i8 i30 i43 i45 i46 i47 i48 i49 i50 i51 i58 i59 i65 i68 i69 i72 i78 i80 i81 i82 i87 i92 i96 i100 i103 i104)), ((z 0), .inl (T 0, 700, .inl g0))] → va_S A s.heap H locs → lv_has ls 5 [(4, .int x28000704), (3, .int x28000412), (0, .ref a), (1, .int p1), (2, .int p2)] → W p l e { frames := 1, cells := 0, slots := 0, locals := 25 } s m args below meth c H locs 0 0 (MQ below ((Qi (S := Int32 × Int32 × Int32 × Int32) (fun (r : Int32) (u : Int32 × Int32 × Int32 × Int32) => match u with | (ui2, ui4, ui5, ui6) => (0 ≤ ui2.toInt ∧ ui2.toInt ≤ 700) ∧ (((ui5.toInt ≠ 0 ∧ i2.toInt ≤ ui2.toInt)) ∨ ((ui5.toInt = 0 ∧ i5.toInt = 0 ∧ i2.toInt + 1 ≤ ui2.toInt))) ∧ (0 ≤ r.toInt ∧ r.toInt ≤ 9999)) (fun (u : Int32 × Int32 × Int32 × Int32) => match u with | (ui2, ui4, ui5, ui6) => [(a, .inr (11, OX z i1 ui2 i3 ui4 ui5 ui6 i7 i8 i30 i43 i45 i46 i47 i48 i49 i50 i51 i58 i59 i65 i68 i69 i72 i78 i80 i81 i82 i87 i92 i96 i100 i103 i104)), ((z 0), .inl (T 0, 700, .inl g0))]) D) A) args s 0 0 A) (F0 m 49 ls []) := by
            intro n
            induction n with
            | zero =>
              intro x28000704 x28000705 H locs ls hx28000704 hx28000705 hr28000766 hr28000767 hr28000768 hms hP hD hS hl
              exact absurd hms (Nat.not_lt_zero _)
            | succ n ih28000769 =>
              intro x28000704 x28000705 H locs ls hx28000704 hx28000705 hr28000766 hr28000767 hr28000768 hms hP hD hS hl
              refine lv_aload_n hx hb dX11_number_49 rfl (lv_at hl 2 rfl) ?_
              refine r_get (v := .int x28000705) C0 hE ffX11_2 mw_792 hP 0 rfl ox_2 dX11_number_50 ?_
              refine lv_aload_n hx hb dX11_number_53 rfl (lv_at hl 2 rfl) ?_
              refine r_get (v := .int i3) C0 hE ffX11_3 mw_793 hP 0 rfl ox_3 dX11_number_54 ?_
              refine lv_icmp_ge (tgt := 129) hx hb dX11_number_57 (by decide) (fun c28000770 => ?_) (fun c28000770 => ?_)
              · skip
                have kc28000770 : i3.toInt ≤ x28000705.toInt := le_ti rfl rfl c28000770
                refine lv_aload_n hx hb dX11_number_129 rfl (lv_at hl 2 rfl) ?_
                refine lv_aload_n hx hb dX11_number_130 rfl (lv_at hl 2 rfl) ?_
                refine r_get (v := .int x28000705) C0 hE ffX11_2 mw_792 hP 0 rfl ox_2 dX11_number_131 ?_
                refine r_put (v := .int x28000705) (ty := .int) (ws1 := [(a, .inr (11, OX z i1 x28000705 i3 x28000705 i5 i6 i7 i8 i30 i43 i45 i46 i47 i48 i49 i50 i51 i58 i59 i65 i68 i69 i72 i78 i80 i81 i82 i87 i92 i96 i100 i103 i104)), ((z 0), .inl (T 0, 700, .inl g0))]) C0 hE ffX11_4 tyX11 tyX11_ok nmX11 mw_794 pf_1358 hP hD hS 0 rfl rfl rfl ol_4 os_4 rfl dX11_number_134 (fun H locs hP hD hS => ?_)
                refine lv_iload hx hb dX11_number_137 (lv_at hl 0 rfl) ?_
                refine lv_i2l hx hb dX11_number_139 rfl ?_
                refine lv_topl (fun x28000771 ex28000771 => ?_)
                have hx28000771 : x28000771.toInt = x28000704.toInt := by rw [ex28000771]; exact Int32.toInt_toInt64 _
                refine lv_iload_n hx hb dX11_number_140 rfl (lv_at hl 3 rfl) ?_
                refine lv_i2l hx hb dX11_number_141 rfl ?_
                refine lv_topl (fun x28000772 ex28000772 => ?_)
                have hx28000772 : x28000772.toInt = p1.toInt := by rw [ex28000772]; exact Int32.toInt_toInt64 _
                refine lv_iload_n hx hb dX11_number_142 rfl (lv_at hl 4 rfl) ?_
                refine lv_i2l hx hb dX11_number_143 rfl ?_
                refine lv_topl (fun x28000773 ex28000773 => ?_)
                have hx28000773 : x28000773.toInt = p2.toInt := by rw [ex28000773]; exact Int32.toInt_toInt64 _
                refine r_calli (wr := [(a, .inr (11, OX z i1 x28000705 i3 x28000705 i5 i6 i7 i8 i30 i43 i45 i46 i47 i48 i49 i50 i51 i58 i59 i65 i68 i69 i72 i78 i80 i81 i82 i87 i92 i96 i100 i103 i104)), ((z 0), .inl (T 0, 700, .inl g0))]) (r_runS2 (As := [.long x28000771, .long x28000772, .long x28000773]) (rest := []) (wc := []) C0 hE hStr hS (va_free (wc := []) hD hS hA [] rfl) (h_X11_isIn_20000007 l D T sq sv H.size x28000771 x28000772 x28000773) mw_910 mw_911 mw_14 mw_912 dn_1704 rfl rfl ⟨Nat.le_of_ble_eq_true rfl, Nat.le_of_ble_eq_true rfl⟩ (hP.sub (ws' := []) [] rfl) (hD.sub (ws' := []) [] (by decide +kernel) rfl) hl.1 rfl (Nat.le_of_ble_eq_true rfl) dX11_number_144 ⟨Nat.le_of_ble_eq_true rfl, Nat.le_of_ble_eq_true rfl⟩) hP hD hS hA [] [0, 1] rfl rfl (by decide +kernel) (by decide +kernel) (fun x28000774 u H locs hq hP hD hS => ?_)
                obtain ⟨hp28000775, hx28000774⟩ := hq
                have hp28000775 : (x28000774.toInt = 0 ∧ (x28000771.toInt < x28000772.toInt ∨ x28000773.toInt < x28000771.toInt)) ∨ (x28000774.toInt = 1 ∧ x28000772.toInt ≤ x28000771.toInt ∧ x28000771.toInt ≤ x28000773.toInt) := hp28000775
                have hx28000774 : 0 ≤ x28000774.toInt ∧ x28000774.toInt ≤ 1 := hx28000774
                have hP : va_P D vwCl [(a, .inr (11, OX z i1 x28000705 i3 x28000705 i5 i6 i7 i8 i30 i43 i45 i46 i47 i48 i49 i50 i51 i58 i59 i65 i68 i69 i72 i78 i80 i81 i82 i87 i92 i96 i100 i103 i104)), ((z 0), .inl (T 0, 700, .inl g0))] H := hP
                have hD : va_D A [(a, .inr (11, OX z i1 x28000705 i3 x28000705 i5 i6 i7 i8 i30 i43 i45 i46 i47 i48 i49 i50 i51 i58 i59 i65 i68 i69 i72 i78 i80 i81 i82 i87 i92 i96 i100 i103 i104)), ((z 0), .inl (T 0, 700, .inl g0))] := hD
                refine W.widen (k := 0) (n := 0) (Nat.le_refl _) (Nat.le_refl _) ?_
                refine lv_if_ne (tgt := 156) hx hb dX11_number_147 (by decide) (fun c28000776 => ?_) (fun c28000776 => ?_)
                · skip
                  have kc28000776 : x28000774.toInt ≠ 0 := ne_ti rfl (by decide) c28000776
                  have nzx28000774 : ¬ x28000774 = 0 := c28000776
                  refine lv_iload hx hb dX11_number_156 (lv_at hl 0 rfl) ?_
                  exact r_iret (x28000705, x28000705, i5, i6) C0 hr hlocks hS (Nat.le_refl _) (Nat.le_refl _) dX11_number_158 ⟨⟨by omega, by omega⟩, (Or.inr (by omega)), ⟨by omega, by omega⟩⟩ (hP.sub (ws' := [(a, .inr (11, OX z i1 x28000705 i3 x28000705 i5 i6 i7 i8 i30 i43 i45 i46 i47 i48 i49 i50 i51 i58 i59 i65 i68 i69 i72 i78 i80 i81 i82 i87 i92 i96 i100 i103 i104)), ((z 0), .inl (T 0, 700, .inl g0))]) [0, 1] rfl) (hD.sub (ws' := [(a, .inr (11, OX z i1 x28000705 i3 x28000705 i5 i6 i7 i8 i30 i43 i45 i46 i47 i48 i49 i50 i51 i58 i59 i65 i68 i69 i72 i78 i80 i81 i82 i87 i92 i96 i100 i103 i104)), ((z 0), .inl (T 0, 700, .inl g0))]) [0, 1] (by decide +kernel) rfl)
                · skip
                  have kc28000776 : x28000774.toInt = 0 := eq_ti rfl (by decide) c28000776
                  refine lv_aload_n hx hb dX11_number_150 rfl (lv_at hl 2 rfl) ?_
                  refine lv_iconst (v := 2) hx hb dX11_number_151 (by decide) ?_
                  refine lv_iload_n hx hb dX11_number_152 rfl (lv_at hl 1 rfl) ?_
                  refine r_callv2 (wr := [((z 0), .inl (T 0, 700, .inl g0))]) (r_runV2 (As := [.int 2, .int x28000412]) (rest := []) (wc := [(a, .inr (11, OX z i1 x28000705 i3 x28000705 i5 i6 i7 i8 i30 i43 i45 i46 i47 i48 i49 i50 i51 i58 i59 i65 i68 i69 i72 i78 i80 i81 i82 i87 i92 i96 i100 i103 i104))]) (ci := 11) C0 hE hStr hS (va_free (wc := [(a, .inr (11, OX z i1 x28000705 i3 x28000705 i5 i6 i7 i8 i30 i43 i45 i46 i47 i48 i49 i50 i51 i58 i59 i65 i68 i69 i72 i78 i80 i81 i82 i87 i92 i96 i100 i103 i104))]) hD hS hA [0] rfl) (h_X11_fail_20300002 l D T sq sv H.size a z i1 x28000705 i3 x28000705 i5 i6 i7 i8 i30 i43 i45 i46 i47 i48 i49 i50 i51 i58 i59 i65 i68 i69 i72 i78 i80 i81 i82 i87 i92 i96 i100 i103 i104 2 x28000412 ⟨by decide, by decide⟩) mw_919 mw_920 mw_1299 mw_14 mw_921 dn_1707 rfl rfl ⟨Nat.le_of_ble_eq_true rfl, Nat.le_of_ble_eq_true rfl⟩ (hP.sub (ws' := [(a, .inr (11, OX z i1 x28000705 i3 x28000705 i5 i6 i7 i8 i30 i43 i45 i46 i47 i48 i49 i50 i51 i58 i59 i65 i68 i69 i72 i78 i80 i81 i82 i87 i92 i96 i100 i103 i104))]) [0] rfl) (hD.sub (ws' := [(a, .inr (11, OX z i1 x28000705 i3 x28000705 i5 i6 i7 i8 i30 i43 i45 i46 i47 i48 i49 i50 i51 i58 i59 i65 i68 i69 i72 i78 i80 i81 i82 i87 i92 i96 i100 i103 i104))]) [0] (by decide +kernel) rfl) rfl rfl rfl hl.1 rfl (Nat.le_of_ble_eq_true rfl) dX11_number_153 ⟨Nat.le_of_ble_eq_true rfl, Nat.le_of_ble_eq_true rfl⟩) hP hD hS hA [0] [1] rfl rfl (by decide +kernel) (by decide +kernel) (fun u H locs hq hP hD hS => ?_)
                  obtain ⟨x28000777, x28000778⟩ := u
                  have hAlt := hq
                  have hP : va_P D vwCl [((z 0), .inl (T 0, 700, .inl g0)), (a, .inr (11, OX z i1 x28000705 i3 x28000705 x28000777 x28000778 i7 i8 i30 i43 i45 i46 i47 i48 i49 i50 i51 i58 i59 i65 i68 i69 i72 i78 i80 i81 i82 i87 i92 i96 i100 i103 i104))] H := hP
                  have hD : va_D A [((z 0), .inl (T 0, 700, .inl g0)), (a, .inr (11, OX z i1 x28000705 i3 x28000705 x28000777 x28000778 i7 i8 i30 i43 i45 i46 i47 i48 i49 i50 i51 i58 i59 i65 i68 i69 i72 i78 i80 i81 i82 i87 i92 i96 i100 i103 i104))] := hD
                  rcases hAlt with hAlt | hAlt
                  · skip
                    have hp28000779 := hAlt
                    have hp28000779 : i5.toInt ≠ 0 ∧ x28000777.toInt = i5.toInt := hp28000779
                    clear hAlt
                    have hl28000780 : (2 : Int32).toInt = 2 := by decide
                    exfalso; omega
                  · skip
                    have hp28000781 := hAlt
                    have hp28000781 : i5.toInt = 0 ∧ x28000777.toInt = 2 ∧ 1 ≤ x28000777.toInt := hp28000781
                    clear hAlt
                    have hl28000782 : (2 : Int32).toInt = 2 := by decide
                    refine W.widen (k := 0) (n := 0) (Nat.le_refl _) (Nat.le_refl _) ?_
                    refine lv_iload hx hb dX11_number_156 (lv_at hl 0 rfl) ?_
                    exact r_iret (x28000705, x28000705, x28000777, x28000778) C0 hr hlocks hS (Nat.le_refl _) (Nat.le_refl _) dX11_number_158 ⟨⟨by omega, by omega⟩, (Or.inl (by omega)), ⟨by omega, by omega⟩⟩ (hP.sub (ws' := [(a, .inr (11, OX z i1 x28000705 i3 x28000705 x28000777 x28000778 i7 i8 i30 i43 i45 i46 i47 i48 i49 i50 i51 i58 i59 i65 i68 i69 i72 i78 i80 i81 i82 i87 i92 i96 i100 i103 i104)), ((z 0), .inl (T 0, 700, .inl g0))]) [1, 0] rfl) (hD.sub (ws' := [(a, .inr (11, OX z i1 x28000705 i3 x28000705 x28000777 x28000778 i7 i8 i30 i43 i45 i46 i47 i48 i49 i50 i51 i58 i59 i65 i68 i69 i72 i78 i80 i81 i82 i87 i92 i96 i100 i103 i104)), ((z 0), .inl (T 0, 700, .inl g0))]) [1, 0] (by decide +kernel) rfl)
              · skip
                have kc28000770 : x28000705.toInt < i3.toInt := nle_ti rfl rfl c28000770
                refine lv_aload_n hx hb dX11_number_60 rfl (lv_at hl 2 rfl) ?_
                refine r_get (v := .ref (z 0)) C0 hE ffX11_0 mw_790 hP 0 rfl ox_0 dX11_number_61 ?_
                refine lv_aload_n hx hb dX11_number_64 rfl (lv_at hl 2 rfl) ?_
                refine r_get (v := .int x28000705) C0 hE ffX11_2 mw_792 hP 0 rfl ox_2 dX11_number_65 ?_
                refine va_iald hx hb hK hP 1 0 rfl rfl (in_ti rfl (by omega) (by omega)) dX11_number_68 ?_
                refine lv_topi (fun x28000783 ex28000783 => ?_)
                have tx28000783 : x28000783.toInt = (g0 (Int32.toNatClampNeg x28000705)).toInt := by rw [ex28000783]
                refine r_calli (wr := [(a, .inr (11, OX z i1 x28000705 i3 i4 i5 i6 i7 i8 i30 i43 i45 i46 i47 i48 i49 i50 i51 i58 i59 i65 i68 i69 i72 i78 i80 i81 i82 i87 i92 i96 i100 i103 i104)), ((z 0), .inl (T 0, 700, .inl g0))]) (r_runS2 (As := [.int x28000783]) (rest := []) (wc := []) C0 hE hStr hS (va_free (wc := []) hD hS hA [] rfl) (h_X11_isDigit_20200005 l D T sq sv H.size x28000783) mw_951 mw_952 mw_14 mw_953 dn_1709 rfl rfl ⟨Nat.le_of_ble_eq_true rfl, Nat.le_of_ble_eq_true rfl⟩ (hP.sub (ws' := []) [] rfl) (hD.sub (ws' := []) [] (by decide +kernel) rfl) hl.1 rfl (Nat.le_of_ble_eq_true rfl) dX11_number_69 ⟨Nat.le_of_ble_eq_true rfl, Nat.le_of_ble_eq_true rfl⟩) hP hD hS hA [] [0, 1] rfl rfl (by decide +kernel) (by decide +kernel) (fun x28000784 u H locs hq hP hD hS => ?_)
                obtain ⟨hAlt, hx28000784⟩ := hq
                have hx28000784 : 0 ≤ x28000784.toInt ∧ x28000784.toInt ≤ 1 := hx28000784
                have hP : va_P D vwCl [(a, .inr (11, OX z i1 x28000705 i3 i4 i5 i6 i7 i8 i30 i43 i45 i46 i47 i48 i49 i50 i51 i58 i59 i65 i68 i69 i72 i78 i80 i81 i82 i87 i92 i96 i100 i103 i104)), ((z 0), .inl (T 0, 700, .inl g0))] H := hP
                have hD : va_D A [(a, .inr (11, OX z i1 x28000705 i3 i4 i5 i6 i7 i8 i30 i43 i45 i46 i47 i48 i49 i50 i51 i58 i59 i65 i68 i69 i72 i78 i80 i81 i82 i87 i92 i96 i100 i103 i104)), ((z 0), .inl (T 0, 700, .inl g0))] := hD
                rcases hAlt with hAlt | hAlt | hAlt
                · skip
                  have hp28000785 := hAlt
                  have hp28000785 : x28000784.toInt = 0 ∧ x28000783.toInt < 48 := hp28000785
                  clear hAlt
                  refine W.widen (k := 0) (n := 0) (Nat.le_refl _) (Nat.le_refl _) ?_
                  refine lv_if_eq (tgt := 129) hx hb dX11_number_72 (by decide) (fun c28000786 => ?_) (fun hc => by have hf : x28000784.toInt ≠ 0 := ne_ti rfl (by decide) hc; omega)
                  have kc28000786 : x28000784.toInt = 0 := eq_ti rfl (by decide) c28000786
                  refine lv_aload_n hx hb dX11_number_129 rfl (lv_at hl 2 rfl) ?_
                  refine lv_aload_n hx hb dX11_number_130 rfl (lv_at hl 2 rfl) ?_
                  refine r_get (v := .int x28000705) C0 hE ffX11_2 mw_792 hP 0 rfl ox_2 dX11_number_131 ?_
                  refine r_put (v := .int x28000705) (ty := .int) (ws1 := [(a, .inr (11, OX z i1 x28000705 i3 x28000705 i5 i6 i7 i8 i30 i43 i45 i46 i47 i48 i49 i50 i51 i58 i59 i65 i68 i69 i72 i78 i80 i81 i82 i87 i92 i96 i100 i103 i104)), ((z 0), .inl (T 0, 700, .inl g0))]) C0 hE ffX11_4 tyX11 tyX11_ok nmX11 mw_794 pf_1358 hP hD hS 0 rfl rfl rfl ol_4 os_4 rfl dX11_number_134 (fun H locs hP hD hS => ?_)
                  refine lv_iload hx hb dX11_number_137 (lv_at hl 0 rfl) ?_
                  refine lv_i2l hx hb dX11_number_139 rfl ?_
                  refine lv_topl (fun x28000787 ex28000787 => ?_)
                  have hx28000787 : x28000787.toInt = x28000704.toInt := by rw [ex28000787]; exact Int32.toInt_toInt64 _
                  refine lv_iload_n hx hb dX11_number_140 rfl (lv_at hl 3 rfl) ?_
                  refine lv_i2l hx hb dX11_number_141 rfl ?_
                  refine lv_topl (fun x28000788 ex28000788 => ?_)
                  have hx28000788 : x28000788.toInt = p1.toInt := by rw [ex28000788]; exact Int32.toInt_toInt64 _
                  refine lv_iload_n hx hb dX11_number_142 rfl (lv_at hl 4 rfl) ?_
                  refine lv_i2l hx hb dX11_number_143 rfl ?_
                  refine lv_topl (fun x28000789 ex28000789 => ?_)
                  have hx28000789 : x28000789.toInt = p2.toInt := by rw [ex28000789]; exact Int32.toInt_toInt64 _
                  refine r_calli (wr := [(a, .inr (11, OX z i1 x28000705 i3 x28000705 i5 i6 i7 i8 i30 i43 i45 i46 i47 i48 i49 i50 i51 i58 i59 i65 i68 i69 i72 i78 i80 i81 i82 i87 i92 i96 i100 i103 i104)), ((z 0), .inl (T 0, 700, .inl g0))]) (r_runS2 (As := [.long x28000787, .long x28000788, .long x28000789]) (rest := []) (wc := []) C0 hE hStr hS (va_free (wc := []) hD hS hA [] rfl) (h_X11_isIn_20000007 l D T sq sv H.size x28000787 x28000788 x28000789) mw_910 mw_911 mw_14 mw_912 dn_1704 rfl rfl ⟨Nat.le_of_ble_eq_true rfl, Nat.le_of_ble_eq_true rfl⟩ (hP.sub (ws' := []) [] rfl) (hD.sub (ws' := []) [] (by decide +kernel) rfl) hl.1 rfl (Nat.le_of_ble_eq_true rfl) dX11_number_144 ⟨Nat.le_of_ble_eq_true rfl, Nat.le_of_ble_eq_true rfl⟩) hP hD hS hA [] [0, 1] rfl rfl (by decide +kernel) (by decide +kernel) (fun x28000790 u H locs hq hP hD hS => ?_)
                  obtain ⟨hp28000791, hx28000790⟩ := hq
                  have hp28000791 : (x28000790.toInt = 0 ∧ (x28000787.toInt < x28000788.toInt ∨ x28000789.toInt < x28000787.toInt)) ∨ (x28000790.toInt = 1 ∧ x28000788.toInt ≤ x28000787.toInt ∧ x28000787.toInt ≤ x28000789.toInt) := hp28000791
                  have hx28000790 : 0 ≤ x28000790.toInt ∧ x28000790.toInt ≤ 1 := hx28000790
                  have hP : va_P D vwCl [(a, .inr (11, OX z i1 x28000705 i3 x28000705 i5 i6 i7 i8 i30 i43 i45 i46 i47 i48 i49 i50 i51 i58 i59 i65 i68 i69 i72 i78 i80 i81 i82 i87 i92 i96 i100 i103 i104)), ((z 0), .inl (T 0, 700, .inl g0))] H := hP
                  have hD : va_D A [(a, .inr (11, OX z i1 x28000705 i3 x28000705 i5 i6 i7 i8 i30 i43 i45 i46 i47 i48 i49 i50 i51 i58 i59 i65 i68 i69 i72 i78 i80 i81 i82 i87 i92 i96 i100 i103 i104)), ((z 0), .inl (T 0, 700, .inl g0))] := hD
                  refine W.widen (k := 0) (n := 0) (Nat.le_refl _) (Nat.le_refl _) ?_
                  refine lv_if_ne (tgt := 156) hx hb dX11_number_147 (by decide) (fun c28000792 => ?_) (fun c28000792 => ?_)
                  · skip
                    have kc28000792 : x28000790.toInt ≠ 0 := ne_ti rfl (by decide) c28000792
                    have nzx28000790 : ¬ x28000790 = 0 := c28000792
                    refine lv_iload hx hb dX11_number_156 (lv_at hl 0 rfl) ?_
                    exact r_iret (x28000705, x28000705, i5, i6) C0 hr hlocks hS (Nat.le_refl _) (Nat.le_refl _) dX11_number_158 ⟨⟨by omega, by omega⟩, (Or.inr (by omega)), ⟨by omega, by omega⟩⟩ (hP.sub (ws' := [(a, .inr (11, OX z i1 x28000705 i3 x28000705 i5 i6 i7 i8 i30 i43 i45 i46 i47 i48 i49 i50 i51 i58 i59 i65 i68 i69 i72 i78 i80 i81 i82 i87 i92 i96 i100 i103 i104)), ((z 0), .inl (T 0, 700, .inl g0))]) [0, 1] rfl) (hD.sub (ws' := [(a, .inr (11, OX z i1 x28000705 i3 x28000705 i5 i6 i7 i8 i30 i43 i45 i46 i47 i48 i49 i50 i51 i58 i59 i65 i68 i69 i72 i78 i80 i81 i82 i87 i92 i96 i100 i103 i104)), ((z 0), .inl (T 0, 700, .inl g0))]) [0, 1] (by decide +kernel) rfl)
                  · skip
                    have kc28000792 : x28000790.toInt = 0 := eq_ti rfl (by decide) c28000792
                    refine lv_aload_n hx hb dX11_number_150 rfl (lv_at hl 2 rfl) ?_
                    refine lv_iconst (v := 2) hx hb dX11_number_151 (by decide) ?_
                    refine lv_iload_n hx hb dX11_number_152 rfl (lv_at hl 1 rfl) ?_
                    refine r_callv2 (wr := [((z 0), .inl (T 0, 700, .inl g0))]) (r_runV2 (As := [.int 2, .int x28000412]) (rest := []) (wc := [(a, .inr (11, OX z i1 x28000705 i3 x28000705 i5 i6 i7 i8 i30 i43 i45 i46 i47 i48 i49 i50 i51 i58 i59 i65 i68 i69 i72 i78 i80 i81 i82 i87 i92 i96 i100 i103 i104))]) (ci := 11) C0 hE hStr hS (va_free (wc := [(a, .inr (11, OX z i1 x28000705 i3 x28000705 i5 i6 i7 i8 i30 i43 i45 i46 i47 i48 i49 i50 i51 i58 i59 i65 i68 i69 i72 i78 i80 i81 i82 i87 i92 i96 i100 i103 i104))]) hD hS hA [0] rfl) (h_X11_fail_20300002 l D T sq sv H.size a z i1 x28000705 i3 x28000705 i5 i6 i7 i8 i30 i43 i45 i46 i47 i48 i49 i50 i51 i58 i59 i65 i68 i69 i72 i78 i80 i81 i82 i87 i92 i96 i100 i103 i104 2 x28000412 ⟨by decide, by decide⟩) mw_919 mw_920 mw_1299 mw_14 mw_921 dn_1707 rfl rfl ⟨Nat.le_of_ble_eq_true rfl, Nat.le_of_ble_eq_true rfl⟩ (hP.sub (ws' := [(a, .inr (11, OX z i1 x28000705 i3 x28000705 i5 i6 i7 i8 i30 i43 i45 i46 i47 i48 i49 i50 i51 i58 i59 i65 i68 i69 i72 i78 i80 i81 i82 i87 i92 i96 i100 i103 i104))]) [0] rfl) (hD.sub (ws' := [(a, .inr (11, OX z i1 x28000705 i3 x28000705 i5 i6 i7 i8 i30 i43 i45 i46 i47 i48 i49 i50 i51 i58 i59 i65 i68 i69 i72 i78 i80 i81 i82 i87 i92 i96 i100 i103 i104))]) [0] (by decide +kernel) rfl) rfl rfl rfl hl.1 rfl (Nat.le_of_ble_eq_true rfl) dX11_number_153 ⟨Nat.le_of_ble_eq_true rfl, Nat.le_of_ble_eq_true rfl⟩) hP hD hS hA [0] [1] rfl rfl (by decide +kernel) (by decide +kernel) (fun u H locs hq hP hD hS => ?_)
                    obtain ⟨x28000793, x28000794⟩ := u
                    have hAlt := hq
                    have hP : va_P D vwCl [((z 0), .inl (T 0, 700, .inl g0)), (a, .inr (11, OX z i1 x28000705 i3 x28000705 x28000793 x28000794 i7 i8 i30 i43 i45 i46 i47 i48 i49 i50 i51 i58 i59 i65 i68 i69 i72 i78 i80 i81 i82 i87 i92 i96 i100 i103 i104))] H := hP
                    have hD : va_D A [((z 0), .inl (T 0, 700, .inl g0)), (a, .inr (11, OX z i1 x28000705 i3 x28000705 x28000793 x28000794 i7 i8 i30 i43 i45 i46 i47 i48 i49 i50 i51 i58 i59 i65 i68 i69 i72 i78 i80 i81 i82 i87 i92 i96 i100 i103 i104))] := hD
                    rcases hAlt with hAlt | hAlt
                    · skip
                      have hp28000795 := hAlt
                      have hp28000795 : i5.toInt ≠ 0 ∧ x28000793.toInt = i5.toInt := hp28000795
                      clear hAlt
                      have hl28000796 : (2 : Int32).toInt = 2 := by decide
                      exfalso; omega
                    · skip
                      have hp28000797 := hAlt
                      have hp28000797 : i5.toInt = 0 ∧ x28000793.toInt = 2 ∧ 1 ≤ x28000793.toInt := hp28000797
                      clear hAlt
                      have hl28000798 : (2 : Int32).toInt = 2 := by decide
                      refine W.widen (k := 0) (n := 0) (Nat.le_refl _) (Nat.le_refl _) ?_
                      refine lv_iload hx hb dX11_number_156 (lv_at hl 0 rfl) ?_
                      exact r_iret (x28000705, x28000705, x28000793, x28000794) C0 hr hlocks hS (Nat.le_refl _) (Nat.le_refl _) dX11_number_158 ⟨⟨by omega, by omega⟩, (Or.inl (by omega)), ⟨by omega, by omega⟩⟩ (hP.sub (ws' := [(a, .inr (11, OX z i1 x28000705 i3 x28000705 x28000793 x28000794 i7 i8 i30 i43 i45 i46 i47 i48 i49 i50 i51 i58 i59 i65 i68 i69 i72 i78 i80 i81 i82 i87 i92 i96 i100 i103 i104)), ((z 0), .inl (T 0, 700, .inl g0))]) [1, 0] rfl) (hD.sub (ws' := [(a, .inr (11, OX z i1 x28000705 i3 x28000705 x28000793 x28000794 i7 i8 i30 i43 i45 i46 i47 i48 i49 i50 i51 i58 i59 i65 i68 i69 i72 i78 i80 i81 i82 i87 i92 i96 i100 i103 i104)), ((z 0), .inl (T 0, 700, .inl g0))]) [1, 0] (by decide +kernel) rfl)
                · skip
                  have hp28000799 := hAlt
                  have hp28000799 : x28000784.toInt = 0 ∧ 57 < x28000783.toInt := hp28000799
                  clear hAlt
                  refine W.widen (k := 0) (n := 0) (Nat.le_refl _) (Nat.le_refl _) ?_
                  refine lv_if_eq (tgt := 129) hx hb dX11_number_72 (by decide) (fun c28000800 => ?_) (fun hc => by have hf : x28000784.toInt ≠ 0 := ne_ti rfl (by decide) hc; omega)
                  have kc28000800 : x28000784.toInt = 0 := eq_ti rfl (by decide) c28000800
                  refine lv_aload_n hx hb dX11_number_129 rfl (lv_at hl 2 rfl) ?_
                  refine lv_aload_n hx hb dX11_number_130 rfl (lv_at hl 2 rfl) ?_
                  refine r_get (v := .int x28000705) C0 hE ffX11_2 mw_792 hP 0 rfl ox_2 dX11_number_131 ?_
                  refine r_put (v := .int x28000705) (ty := .int) (ws1 := [(a, .inr (11, OX z i1 x28000705 i3 x28000705 i5 i6 i7 i8 i30 i43 i45 i46 i47 i48 i49 i50 i51 i58 i59 i65 i68 i69 i72 i78 i80 i81 i82 i87 i92 i96 i100 i103 i104)), ((z 0), .inl (T 0, 700, .inl g0))]) C0 hE ffX11_4 tyX11 tyX11_ok nmX11 mw_794 pf_1358 hP hD hS 0 rfl rfl rfl ol_4 os_4 rfl dX11_number_134 (fun H locs hP hD hS => ?_)
                  refine lv_iload hx hb dX11_number_137 (lv_at hl 0 rfl) ?_
                  refine lv_i2l hx hb dX11_number_139 rfl ?_
                  refine lv_topl (fun x28000801 ex28000801 => ?_)
                  have hx28000801 : x28000801.toInt = x28000704.toInt := by rw [ex28000801]; exact Int32.toInt_toInt64 _
                  refine lv_iload_n hx hb dX11_number_140 rfl (lv_at hl 3 rfl) ?_
                  refine lv_i2l hx hb dX11_number_141 rfl ?_
                  refine lv_topl (fun x28000802 ex28000802 => ?_)
                  have hx28000802 : x28000802.toInt = p1.toInt := by rw [ex28000802]; exact Int32.toInt_toInt64 _
                  refine lv_iload_n hx hb dX11_number_142 rfl (lv_at hl 4 rfl) ?_
                  refine lv_i2l hx hb dX11_number_143 rfl ?_
                  refine lv_topl (fun x28000803 ex28000803 => ?_)
                  have hx28000803 : x28000803.toInt = p2.toInt := by rw [ex28000803]; exact Int32.toInt_toInt64 _
                  refine r_calli (wr := [(a, .inr (11, OX z i1 x28000705 i3 x28000705 i5 i6 i7 i8 i30 i43 i45 i46 i47 i48 i49 i50 i51 i58 i59 i65 i68 i69 i72 i78 i80 i81 i82 i87 i92 i96 i100 i103 i104)), ((z 0), .inl (T 0, 700, .inl g0))]) (r_runS2 (As := [.long x28000801, .long x28000802, .long x28000803]) (rest := []) (wc := []) C0 hE hStr hS (va_free (wc := []) hD hS hA [] rfl) (h_X11_isIn_20000007 l D T sq sv H.size x28000801 x28000802 x28000803) mw_910 mw_911 mw_14 mw_912 dn_1704 rfl rfl ⟨Nat.le_of_ble_eq_true rfl, Nat.le_of_ble_eq_true rfl⟩ (hP.sub (ws' := []) [] rfl) (hD.sub (ws' := []) [] (by decide +kernel) rfl) hl.1 rfl (Nat.le_of_ble_eq_true rfl) dX11_number_144 ⟨Nat.le_of_ble_eq_true rfl, Nat.le_of_ble_eq_true rfl⟩) hP hD hS hA [] [0, 1] rfl rfl (by decide +kernel) (by decide +kernel) (fun x28000804 u H locs hq hP hD hS => ?_)
                  obtain ⟨hp28000805, hx28000804⟩ := hq
                  have hp28000805 : (x28000804.toInt = 0 ∧ (x28000801.toInt < x28000802.toInt ∨ x28000803.toInt < x28000801.toInt)) ∨ (x28000804.toInt = 1 ∧ x28000802.toInt ≤ x28000801.toInt ∧ x28000801.toInt ≤ x28000803.toInt) := hp28000805
                  have hx28000804 : 0 ≤ x28000804.toInt ∧ x28000804.toInt ≤ 1 := hx28000804
                  have hP : va_P D vwCl [(a, .inr (11, OX z i1 x28000705 i3 x28000705 i5 i6 i7 i8 i30 i43 i45 i46 i47 i48 i49 i50 i51 i58 i59 i65 i68 i69 i72 i78 i80 i81 i82 i87 i92 i96 i100 i103 i104)), ((z 0), .inl (T 0, 700, .inl g0))] H := hP
                  have hD : va_D A [(a, .inr (11, OX z i1 x28000705 i3 x28000705 i5 i6 i7 i8 i30 i43 i45 i46 i47 i48 i49 i50 i51 i58 i59 i65 i68 i69 i72 i78 i80 i81 i82 i87 i92 i96 i100 i103 i104)), ((z 0), .inl (T 0, 700, .inl g0))] := hD
                  refine W.widen (k := 0) (n := 0) (Nat.le_refl _) (Nat.le_refl _) ?_
                  refine lv_if_ne (tgt := 156) hx hb dX11_number_147 (by decide) (fun c28000806 => ?_) (fun c28000806 => ?_)
                  · skip
                    have kc28000806 : x28000804.toInt ≠ 0 := ne_ti rfl (by decide) c28000806
                    have nzx28000804 : ¬ x28000804 = 0 := c28000806
                    refine lv_iload hx hb dX11_number_156 (lv_at hl 0 rfl) ?_
                    exact r_iret (x28000705, x28000705, i5, i6) C0 hr hlocks hS (Nat.le_refl _) (Nat.le_refl _) dX11_number_158 ⟨⟨by omega, by omega⟩, (Or.inr (by omega)), ⟨by omega, by omega⟩⟩ (hP.sub (ws' := [(a, .inr (11, OX z i1 x28000705 i3 x28000705 i5 i6 i7 i8 i30 i43 i45 i46 i47 i48 i49 i50 i51 i58 i59 i65 i68 i69 i72 i78 i80 i81 i82 i87 i92 i96 i100 i103 i104)), ((z 0), .inl (T 0, 700, .inl g0))]) [0, 1] rfl) (hD.sub (ws' := [(a, .inr (11, OX z i1 x28000705 i3 x28000705 i5 i6 i7 i8 i30 i43 i45 i46 i47 i48 i49 i50 i51 i58 i59 i65 i68 i69 i72 i78 i80 i81 i82 i87 i92 i96 i100 i103 i104)), ((z 0), .inl (T 0, 700, .inl g0))]) [0, 1] (by decide +kernel) rfl)
                  · skip
                    have kc28000806 : x28000804.toInt = 0 := eq_ti rfl (by decide) c28000806
                    refine lv_aload_n hx hb dX11_number_150 rfl (lv_at hl 2 rfl) ?_
                    refine lv_iconst (v := 2) hx hb dX11_number_151 (by decide) ?_
                    refine lv_iload_n hx hb dX11_number_152 rfl (lv_at hl 1 rfl) ?_
                    refine r_callv2 (wr := [((z 0), .inl (T 0, 700, .inl g0))]) (r_runV2 (As := [.int 2, .int x28000412]) (rest := []) (wc := [(a, .inr (11, OX z i1 x28000705 i3 x28000705 i5 i6 i7 i8 i30 i43 i45 i46 i47 i48 i49 i50 i51 i58 i59 i65 i68 i69 i72 i78 i80 i81 i82 i87 i92 i96 i100 i103 i104))]) (ci := 11) C0 hE hStr hS (va_free (wc := [(a, .inr (11, OX z i1 x28000705 i3 x28000705 i5 i6 i7 i8 i30 i43 i45 i46 i47 i48 i49 i50 i51 i58 i59 i65 i68 i69 i72 i78 i80 i81 i82 i87 i92 i96 i100 i103 i104))]) hD hS hA [0] rfl) (h_X11_fail_20300002 l D T sq sv H.size a z i1 x28000705 i3 x28000705 i5 i6 i7 i8 i30 i43 i45 i46 i47 i48 i49 i50 i51 i58 i59 i65 i68 i69 i72 i78 i80 i81 i82 i87 i92 i96 i100 i103 i104 2 x28000412 ⟨by decide, by decide⟩) mw_919 mw_920 mw_1299 mw_14 mw_921 dn_1707 rfl rfl ⟨Nat.le_of_ble_eq_true rfl, Nat.le_of_ble_eq_true rfl⟩ (hP.sub (ws' := [(a, .inr (11, OX z i1 x28000705 i3 x28000705 i5 i6 i7 i8 i30 i43 i45 i46 i47 i48 i49 i50 i51 i58 i59 i65 i68 i69 i72 i78 i80 i81 i82 i87 i92 i96 i100 i103 i104))]) [0] rfl) (hD.sub (ws' := [(a, .inr (11, OX z i1 x28000705 i3 x28000705 i5 i6 i7 i8 i30 i43 i45 i46 i47 i48 i49 i50 i51 i58 i59 i65 i68 i69 i72 i78 i80 i81 i82 i87 i92 i96 i100 i103 i104))]) [0] (by decide +kernel) rfl) rfl rfl rfl hl.1 rfl (Nat.le_of_ble_eq_true rfl) dX11_number_153 ⟨Nat.le_of_ble_eq_true rfl, Nat.le_of_ble_eq_true rfl⟩) hP hD hS hA [0] [1] rfl rfl (by decide +kernel) (by decide +kernel) (fun u H locs hq hP hD hS => ?_)
                    obtain ⟨x28000807, x28000808⟩ := u
                    have hAlt := hq
                    have hP : va_P D vwCl [((z 0), .inl (T 0, 700, .inl g0)), (a, .inr (11, OX z i1 x28000705 i3 x28000705 x28000807 x28000808 i7 i8 i30 i43 i45 i46 i47 i48 i49 i50 i51 i58 i59 i65 i68 i69 i72 i78 i80 i81 i82 i87 i92 i96 i100 i103 i104))] H := hP
                    have hD : va_D A [((z 0), .inl (T 0, 700, .inl g0)), (a, .inr (11, OX z i1 x28000705 i3 x28000705 x28000807 x28000808 i7 i8 i30 i43 i45 i46 i47 i48 i49 i50 i51 i58 i59 i65 i68 i69 i72 i78 i80 i81 i82 i87 i92 i96 i100 i103 i104))] := hD
                    rcases hAlt with hAlt | hAlt
                    · skip
                      have hp28000809 := hAlt
                      have hp28000809 : i5.toInt ≠ 0 ∧ x28000807.toInt = i5.toInt := hp28000809
                      clear hAlt
                      have hl28000810 : (2 : Int32).toInt = 2 := by decide
                      exfalso; omega
                    · skip
                      have hp28000811 := hAlt
                      have hp28000811 : i5.toInt = 0 ∧ x28000807.toInt = 2 ∧ 1 ≤ x28000807.toInt := hp28000811
                      clear hAlt
                      have hl28000812 : (2 : Int32).toInt = 2 := by decide
                      refine W.widen (k := 0) (n := 0) (Nat.le_refl _) (Nat.le_refl _) ?_
                      refine lv_iload hx hb dX11_number_156 (lv_at hl 0 rfl) ?_
                      exact r_iret (x28000705, x28000705, x28000807, x28000808) C0 hr hlocks hS (Nat.le_refl _) (Nat.le_refl _) dX11_number_158 ⟨⟨by omega, by omega⟩, (Or.inl (by omega)), ⟨by omega, by omega⟩⟩ (hP.sub (ws' := [(a, .inr (11, OX z i1 x28000705 i3 x28000705 x28000807 x28000808 i7 i8 i30 i43 i45 i46 i47 i48 i49 i50 i51 i58 i59 i65 i68 i69 i72 i78 i80 i81 i82 i87 i92 i96 i100 i103 i104)), ((z 0), .inl (T 0, 700, .inl g0))]) [1, 0] rfl) (hD.sub (ws' := [(a, .inr (11, OX z i1 x28000705 i3 x28000705 x28000807 x28000808 i7 i8 i30 i43 i45 i46 i47 i48 i49 i50 i51 i58 i59 i65 i68 i69 i72 i78 i80 i81 i82 i87 i92 i96 i100 i103 i104)), ((z 0), .inl (T 0, 700, .inl g0))]) [1, 0] (by decide +kernel) rfl)
                · skip
                  have hp28000813 := hAlt
                  have hp28000813 : x28000784.toInt = 1 ∧ 48 ≤ x28000783.toInt ∧ x28000783.toInt ≤ 57 := hp28000813
                  clear hAlt
                  refine W.widen (k := 0) (n := 0) (Nat.le_refl _) (Nat.le_refl _) ?_
                  refine lv_if_eq (tgt := 129) hx hb dX11_number_72 (by decide) (fun hc => by have hf : x28000784.toInt = 0 := eq_ti rfl (by decide) hc; omega) (fun c28000814 => ?_)
                  have kc28000814 : x28000784.toInt ≠ 0 := ne_ti rfl (by decide) c28000814
                  refine lv_aload_n hx hb dX11_number_75 rfl (lv_at hl 2 rfl) ?_
                  refine r_get (v := .int x28000705) C0 hE ffX11_2 mw_792 hP 0 rfl ox_2 dX11_number_76 ?_
                  refine lv_iload_n hx hb dX11_number_79 rfl (lv_at hl 1 rfl) ?_
                  refine lv_isub hx hb dX11_number_80 ?_
                  refine lv_topi (fun x28000815 ex28000815 => ?_)
                  have hx28000815 : x28000815.toInt = x28000705.toInt - x28000412.toInt := ti_sub ex28000815 rfl rfl (by omega) (by omega)
                  refine lv_iconst (v := 4) hx hb dX11_number_81 (by decide) ?_
                  refine lv_icmp_ne (tgt := 96) hx hb dX11_number_82 (by decide) (fun c28000816 => ?_) (fun c28000816 => ?_)
                  · skip
                    have kc28000816 : x28000815.toInt ≠ 4 := ne_ti rfl (by decide) c28000816
                    refine lv_bipush (v := 10) hx hb dX11_number_96 (by decide) ?_
                    refine lv_iload hx hb dX11_number_98 (lv_at hl 0 rfl) ?_
                    refine lv_imul hx hb dX11_number_100 ?_
                    refine lv_topi (fun x28000817 ex28000817 => ?_)
                    have hx28000817 : x28000817.toInt = 10 * x28000704.toInt := ti_mul ex28000817 (by decide) rfl (by omega) (by omega)
                    refine lv_aload_n hx hb dX11_number_101 rfl (lv_at hl 2 rfl) ?_
                    refine r_get (v := .ref (z 0)) C0 hE ffX11_0 mw_790 hP 0 rfl ox_0 dX11_number_102 ?_
                    refine lv_aload_n hx hb dX11_number_105 rfl (lv_at hl 2 rfl) ?_
                    refine r_get (v := .int x28000705) C0 hE ffX11_2 mw_792 hP 0 rfl ox_2 dX11_number_106 ?_
                    refine va_iald hx hb hK hP 1 0 rfl rfl (in_ti rfl (by omega) (by omega)) dX11_number_109 ?_
                    refine lv_topi (fun x28000818 ex28000818 => ?_)
                    have tx28000818 : x28000818.toInt = (g0 (Int32.toNatClampNeg x28000705)).toInt := by rw [ex28000818]
                    have hd28000819 : 48 ≤ x28000818.toInt ∧ x28000818.toInt ≤ 57 := ⟨by omega, by omega⟩
                    refine lv_iadd hx hb dX11_number_110 ?_
                    refine lv_topi (fun x28000820 ex28000820 => ?_)
                    have hx28000820 : x28000820.toInt = x28000817.toInt + x28000818.toInt := ti_add ex28000820 rfl rfl (by omega) (by omega)
                    refine lv_bipush (v := 48) hx hb dX11_number_111 (by decide) ?_
                    refine lv_isub hx hb dX11_number_113 ?_
                    refine lv_topi (fun x28000821 ex28000821 => ?_)
                    have hx28000821 : x28000821.toInt = x28000820.toInt - 48 := ti_sub ex28000821 rfl (by decide) (by omega) (by omega)
                    refine lv_istore (lv' := [(4, .int x28000821), (3, .int x28000412), (0, .ref a), (1, .int p1), (2, .int p2)]) hx hb dX11_number_114 hl (by decide) rfl (fun ls hl => ?_)
                    refine lv_aload_n hx hb dX11_number_116 rfl (lv_at hl 2 rfl) ?_
                    refine lv_dup hx hb dX11_number_117 rfl ?_
                    refine r_get (v := .int x28000705) C0 hE ffX11_2 mw_792 hP 0 rfl ox_2 dX11_number_118 ?_
                    refine lv_iconst (v := 1) hx hb dX11_number_121 (by decide) ?_
                    refine lv_iadd hx hb dX11_number_122 ?_
                    refine lv_topi (fun x28000822 ex28000822 => ?_)
                    have hx28000822 : x28000822.toInt = x28000705.toInt + 1 := ti_add ex28000822 rfl (by decide) (by omega) (by omega)
                    refine r_put (v := .int x28000822) (ty := .int) (ws1 := [(a, .inr (11, OX z i1 x28000822 i3 i4 i5 i6 i7 i8 i30 i43 i45 i46 i47 i48 i49 i50 i51 i58 i59 i65 i68 i69 i72 i78 i80 i81 i82 i87 i92 i96 i100 i103 i104)), ((z 0), .inl (T 0, 700, .inl g0))]) C0 hE ffX11_2 tyX11 tyX11_ok nmX11 mw_792 pf_1358 hP hD hS 0 rfl rfl rfl ol_2 os_2 rfl dX11_number_123 (fun H locs hP hD hS => ?_)
                    refine lv_goto (tgt := 49) hx hb dX11_number_126 (by decide) ?_
                    exact ih28000769 x28000821 x28000822 _ _ ls ⟨by omega, by omega⟩ ⟨by omega, by omega⟩ (by omega) (by omega) (by omega) (by omega) (hP.sub (ws' := [(a, .inr (11, OX z i1 x28000822 i3 i4 i5 i6 i7 i8 i30 i43 i45 i46 i47 i48 i49 i50 i51 i58 i59 i65 i68 i69 i72 i78 i80 i81 i82 i87 i92 i96 i100 i103 i104)), ((z 0), .inl (T 0, 700, .inl g0))]) [0, 1] rfl) (hD.sub (ws' := [(a, .inr (11, OX z i1 x28000822 i3 i4 i5 i6 i7 i8 i30 i43 i45 i46 i47 i48 i49 i50 i51 i58 i59 i65 i68 i69 i72 i78 i80 i81 i82 i87 i92 i96 i100 i103 i104)), ((z 0), .inl (T 0, 700, .inl g0))]) [0, 1] (by decide +kernel) rfl) hS (lv_sub hl [0, 1, 2, 3, 4] rfl)
                  · skip
                    have kc28000816 : x28000815.toInt = 4 := eq_ti rfl (by decide) c28000816
                    refine lv_aload_n hx hb dX11_number_85 rfl (lv_at hl 2 rfl) ?_
                    refine lv_iconst (v := 1) hx hb dX11_number_86 (by decide) ?_
                    refine lv_aload_n hx hb dX11_number_87 rfl (lv_at hl 2 rfl) ?_
                    refine r_get (v := .int x28000705) C0 hE ffX11_2 mw_792 hP 0 rfl ox_2 dX11_number_88 ?_
                    refine r_callv2 (wr := [((z 0), .inl (T 0, 700, .inl g0))]) (r_runV2 (As := [.int 1, .int x28000705]) (rest := []) (wc := [(a, .inr (11, OX z i1 x28000705 i3 i4 i5 i6 i7 i8 i30 i43 i45 i46 i47 i48 i49 i50 i51 i58 i59 i65 i68 i69 i72 i78 i80 i81 i82 i87 i92 i96 i100 i103 i104))]) (ci := 11) C0 hE hStr hS (va_free (wc := [(a, .inr (11, OX z i1 x28000705 i3 i4 i5 i6 i7 i8 i30 i43 i45 i46 i47 i48 i49 i50 i51 i58 i59 i65 i68 i69 i72 i78 i80 i81 i82 i87 i92 i96 i100 i103 i104))]) hD hS hA [0] rfl) (h_X11_fail_20300002 l D T sq sv H.size a z i1 x28000705 i3 i4 i5 i6 i7 i8 i30 i43 i45 i46 i47 i48 i49 i50 i51 i58 i59 i65 i68 i69 i72 i78 i80 i81 i82 i87 i92 i96 i100 i103 i104 1 x28000705 ⟨by decide, by decide⟩) mw_919 mw_920 mw_1299 mw_14 mw_921 dn_1707 rfl rfl ⟨Nat.le_of_ble_eq_true rfl, Nat.le_of_ble_eq_true rfl⟩ (hP.sub (ws' := [(a, .inr (11, OX z i1 x28000705 i3 i4 i5 i6 i7 i8 i30 i43 i45 i46 i47 i48 i49 i50 i51 i58 i59 i65 i68 i69 i72 i78 i80 i81 i82 i87 i92 i96 i100 i103 i104))]) [0] rfl) (hD.sub (ws' := [(a, .inr (11, OX z i1 x28000705 i3 i4 i5 i6 i7 i8 i30 i43 i45 i46 i47 i48 i49 i50 i51 i58 i59 i65 i68 i69 i72 i78 i80 i81 i82 i87 i92 i96 i100 i103 i104))]) [0] (by decide +kernel) rfl) rfl rfl rfl hl.1 rfl (Nat.le_of_ble_eq_true rfl) dX11_number_91 ⟨Nat.le_of_ble_eq_true rfl, Nat.le_of_ble_eq_true rfl⟩) hP hD hS hA [0] [1] rfl rfl (by decide +kernel) (by decide +kernel) (fun u H locs hq hP hD hS => ?_)
                    obtain ⟨x28000823, x28000824⟩ := u
                    have hAlt := hq
                    have hP : va_P D vwCl [((z 0), .inl (T 0, 700, .inl g0)), (a, .inr (11, OX z i1 x28000705 i3 i4 x28000823 x28000824 i7 i8 i30 i43 i45 i46 i47 i48 i49 i50 i51 i58 i59 i65 i68 i69 i72 i78 i80 i81 i82 i87 i92 i96 i100 i103 i104))] H := hP
                    have hD : va_D A [((z 0), .inl (T 0, 700, .inl g0)), (a, .inr (11, OX z i1 x28000705 i3 i4 x28000823 x28000824 i7 i8 i30 i43 i45 i46 i47 i48 i49 i50 i51 i58 i59 i65 i68 i69 i72 i78 i80 i81 i82 i87 i92 i96 i100 i103 i104))] := hD
                    rcases hAlt with hAlt | hAlt
                    · skip
                      have hp28000825 := hAlt
                      have hp28000825 : i5.toInt ≠ 0 ∧ x28000823.toInt = i5.toInt := hp28000825
                      clear hAlt
                      have hl28000826 : (1 : Int32).toInt = 1 := by decide
                      exfalso; omega
                    · skip
                      have hp28000827 := hAlt
                      have hp28000827 : i5.toInt = 0 ∧ x28000823.toInt = 1 ∧ 1 ≤ x28000823.toInt := hp28000827
                      clear hAlt
                      have hl28000828 : (1 : Int32).toInt = 1 := by decide
                      refine W.widen (k := 0) (n := 0) (Nat.le_refl _) (Nat.le_refl _) ?_
                      refine lv_iconst (v := 0) hx hb dX11_number_94 (by decide) ?_
                      have hl28000829 : (0 : Int32).toInt = 0 := by decide
                      exact r_iret (x28000705, i4, x28000823, x28000824) C0 hr hlocks hS (Nat.le_refl _) (Nat.le_refl _) dX11_number_95 ⟨⟨by omega, by omega⟩, (Or.inl (by omega)), ⟨by decide, by decide⟩⟩ (hP.sub (ws' := [(a, .inr (11, OX z i1 x28000705 i3 i4 x28000823 x28000824 i7 i8 i30 i43 i45 i46 i47 i48 i49 i50 i51 i58 i59 i65 i68 i69 i72 i78 i80 i81 i82 i87 i92 i96 i100 i103 i104)), ((z 0), .inl (T 0, 700, .inl g0))]) [1, 0] rfl) (hD.sub (ws' := [(a, .inr (11, OX z i1 x28000705 i3 i4 x28000823 x28000824 i7 i8 i30 i43 i45 i46 i47 i48 i49 i50 i51 i58 i59 i65 i68 i69 i72 i78 i80 i81 i82 i87 i92 i96 i100 i103 i104)), ((z 0), .inl (T 0, 700, .inl g0))]) [1, 0] (by decide +kernel) rfl)
          have hl28000830 : (0 : Int32).toInt = 0 := by decide
          exact L28000765 _ 0 x28000412 _ _ ls ⟨by decide, by decide⟩ ⟨by omega, by omega⟩ (by omega) (by omega) (by omega) (Nat.lt_succ_self _) (hP.sub (ws' := [(a, .inr (11, OX z i1 x28000412 i3 i4 i5 i6 i7 i8 i30 i43 i45 i46 i47 i48 i49 i50 i51 i58 i59 i65 i68 i69 i72 i78 i80 i81 i82 i87 i92 i96 i100 i103 i104)), ((z 0), .inl (T 0, 700, .inl g0))]) [0, 1] rfl) (hD.sub (ws' := [(a, .inr (11, OX z i1 x28000412 i3 i4 i5 i6 i7 i8 i30 i43 i45 i46 i47 i48 i49 i50 i51 i58 i59 i65 i68 i69 i72 i78 i80 i81 i82 i87 i92 i96 i100 i103 i104)), ((z 0), .inl (T 0, 700, .inl g0))]) [0, 1] (by decide +kernel) rfl) hS (lv_sub hl [0, 1, 2, 3, 4] rfl)
        · skip
          have kc28000648 : x28000412.toInt = i4.toInt := eq_ti rfl rfl c28000648
          refine lv_aload_n hx hb dX11_number_30 rfl (lv_at hl 0 rfl) ?_
          refine lv_iconst (v := 1) hx hb dX11_number_31 (by decide) ?_
          refine lv_aload_n hx hb dX11_number_32 rfl (lv_at hl 0 rfl) ?_
          refine r_get (v := .int x28000412) C0 hE ffX11_2 mw_792 hP 0 rfl ox_2 dX11_number_33 ?_
          refine r_callv2 (wr := [((z 0), .inl (T 0, 700, .inl g0))]) (r_runV2 (As := [.int 1, .int x28000412]) (rest := []) (wc := [(a, .inr (11, OX z i1 x28000412 i3 i4 i5 i6 i7 i8 i30 i43 i45 i46 i47 i48 i49 i50 i51 i58 i59 i65 i68 i69 i72 i78 i80 i81 i82 i87 i92 i96 i100 i103 i104))]) (ci := 11) C0 hE hStr hS (va_free (wc := [(a, .inr (11, OX z i1 x28000412 i3 i4 i5 i6 i7 i8 i30 i43 i45 i46 i47 i48 i49 i50 i51 i58 i59 i65 i68 i69 i72 i78 i80 i81 i82 i87 i92 i96 i100 i103 i104))]) hD hS hA [0] rfl) (h_X11_fail_20300002 l D T sq sv H.size a z i1 x28000412 i3 i4 i5 i6 i7 i8 i30 i43 i45 i46 i47 i48 i49 i50 i51 i58 i59 i65 i68 i69 i72 i78 i80 i81 i82 i87 i92 i96 i100 i103 i104 1 x28000412 ⟨by decide, by decide⟩) mw_919 mw_920 mw_1299 mw_14 mw_921 dn_1707 rfl rfl ⟨Nat.le_of_ble_eq_true rfl, Nat.le_of_ble_eq_true rfl⟩ (hP.sub (ws' := [(a, .inr (11, OX z i1 x28000412 i3 i4 i5 i6 i7 i8 i30 i43 i45 i46 i47 i48 i49 i50 i51 i58 i59 i65 i68 i69 i72 i78 i80 i81 i82 i87 i92 i96 i100 i103 i104))]) [0] rfl) (hD.sub (ws' := [(a, .inr (11, OX z i1 x28000412 i3 i4 i5 i6 i7 i8 i30 i43 i45 i46 i47 i48 i49 i50 i51 i58 i59 i65 i68 i69 i72 i78 i80 i81 i82 i87 i92 i96 i100 i103 i104))]) [0] (by decide +kernel) rfl) rfl rfl rfl hl.1 rfl (Nat.le_of_ble_eq_true rfl) dX11_number_36 ⟨Nat.le_of_ble_eq_true rfl, Nat.le_of_ble_eq_true rfl⟩) hP hD hS hA [0] [1] rfl rfl (by decide +kernel) (by decide +kernel) (fun u H locs hq hP hD hS => ?_)
          obtain ⟨x28000831, x28000832⟩ := u
          have hAlt := hq
          have hP : va_P D vwCl [((z 0), .inl (T 0, 700, .inl g0)), (a, .inr (11, OX z i1 x28000412 i3 i4 x28000831 x28000832 i7 i8 i30 i43 i45 i46 i47 i48 i49 i50 i51 i58 i59 i65 i68 i69 i72 i78 i80 i81 i82 i87 i92 i96 i100 i103 i104))] H := hP
          have hD : va_D A [((z 0), .inl (T 0, 700, .inl g0)), (a, .inr (11, OX z i1 x28000412 i3 i4 x28000831 x28000832 i7 i8 i30 i43 i45 i46 i47 i48 i49 i50 i51 i58 i59 i65 i68 i69 i72 i78 i80 i81 i82 i87 i92 i96 i100 i103 i104))] := hD
          rcases hAlt with hAlt | hAlt
          · skip
            have hp28000833 := hAlt
            have hp28000833 : i5.toInt ≠ 0 ∧ x28000831.toInt = i5.toInt := hp28000833
            clear hAlt
            have hl28000834 : (1 : Int32).toInt = 1 := by decide
            exfalso; omega
          · skip
            have hp28000835 := hAlt
            have hp28000835 : i5.toInt = 0 ∧ x28000831.toInt = 1 ∧ 1 ≤ x28000831.toInt := hp28000835
            clear hAlt
            have hl28000836 : (1 : Int32).toInt = 1 := by decide
            refine W.widen (k := 0) (n := 0) (Nat.le_refl _) (Nat.le_refl _) ?_
            refine lv_iconst (v := 0) hx hb dX11_number_39 (by decide) ?_
            have hl28000837 : (0 : Int32).toInt = 0 := by decide
            exact r_iret (x28000412, i4, x28000831, x28000832) C0 hr hlocks hS (Nat.le_refl _) (Nat.le_refl _) dX11_number_40 ⟨⟨by omega, by omega⟩, (Or.inl (by omega)), ⟨by decide, by decide⟩⟩ (hP.sub (ws' := [(a, .inr (11, OX z i1 x28000412 i3 i4 x28000831 x28000832 i7 i8 i30 i43 i45 i46 i47 i48 i49 i50 i51 i58 i59 i65 i68 i69 i72 i78 i80 i81 i82 i87 i92 i96 i100 i103 i104)), ((z 0), .inl (T 0, 700, .inl g0))]) [1, 0] rfl) (hD.sub (ws' := [(a, .inr (11, OX z i1 x28000412 i3 i4 x28000831 x28000832 i7 i8 i30 i43 i45 i46 i47 i48 i49 i50 i51 i58 i59 i65 i68 i69 i72 i78 i80 i81 i82 i87 i92 i96 i100 i103 i104)), ((z 0), .inl (T 0, 700, .inl g0))]) [1, 0] (by decide +kernel) rfl)
  · skip
    have kc28000410 : i5.toInt ≠ 0 := ne_ti rfl (by decide) c28000410
    have nzi5 : ¬ i5 = 0 := c28000410
    refine lv_iconst (v := 0) hx hb dX11_number_7 (by decide) ?_
    have hl28000838 : (0 : Int32).toInt = 0 := by decide
    exact r_iret (i2, i4, i5, i6) C0 hr hlocks hS (Nat.le_refl _) (Nat.le_refl _) dX11_number_8 ⟨⟨by omega, by omega⟩, (Or.inl (by omega)), ⟨by decide, by decide⟩⟩ (hP.sub (ws' := [(a, .inr (11, OX z i1 i2 i3 i4 i5 i6 i7 i8 i30 i43 i45 i46 i47 i48 i49 i50 i51 i58 i59 i65 i68 i69 i72 i78 i80 i81 i82 i87 i92 i96 i100 i103 i104)), ((z 0), .inl (T 0, 700, .inl g0))]) [0, 1] rfl) (hD.sub (ws' := [(a, .inr (11, OX z i1 i2 i3 i4 i5 i6 i7 i8 i30 i43 i45 i46 i47 i48 i49 i50 i51 i58 i59 i65 i68 i69 i72 i78 i80 i81 i82 i87 i92 i96 i100 i103 i104)), ((z 0), .inl (T 0, 700, .inl g0))]) [0, 1] (by decide +kernel) rfl)
