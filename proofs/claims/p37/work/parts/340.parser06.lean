set_option maxHeartbeats 4000000 in
set_option maxRecDepth 100000 in
theorem h_X11_isHere_28102265 (l : Launch) (D : va_G) (T : Nat → ClassId) (sq sv sz : Nat) (a : Nat) (z : Nat → Nat) (i1 i2 i3 i4 i5 i6 i7 i8 i30 i43 i45 i46 i47 i48 i49 i50 i51 i58 i59 i65 i68 i69 i72 i78 i80 i81 i82 i87 i92 i96 i100 i103 i104 : Int32) (q1 : Nat) (gq1 : Nat → Int32) (g0 : Nat → Int32) (hi2 : 0 ≤ i2.toInt ∧ i2.toInt ≤ 700) (hi3 : 0 ≤ i3.toInt ∧ i3.toInt ≤ 700) : Met l yX11_isHere (.code yX11_isHere cX11_isHere 4 (some .boolean) :: TB) { frames := 1, cells := 0, slots := 0, locals := 20 } (PC2 D T sq sv [.ref a, .ref q1] [(a, .inr (11, OX z i1 i2 i3 i4 i5 i6 i7 i8 i30 i43 i45 i46 i47 i48 i49 i50 i51 i58 i59 i65 i68 i69 i72 i78 i80 i81 i82 i87 i92 i96 i100 i103 i104)), (q1, .inl (T 3, 6, .inl gq1)), ((z 0), .inl (T 0, 700, .inl g0))] sz) (Qi (S := Int32) (fun (r : Int32) (ui2 : Int32) => (0 ≤ ui2.toInt ∧ ui2.toInt ≤ 700) ∧ (i2.toInt ≤ ui2.toInt) ∧ (((r.toInt = 0 ∧ i2.toInt ≤ ui2.toInt)) ∨ ((r.toInt = 1 ∧ i2.toInt ≤ ui2.toInt ∧ ui2.toInt + 6 ≤ i3.toInt ∧ i5.toInt = 0))) ∧ (0 ≤ r.toInt ∧ r.toInt ≤ 1)) (fun (ui2 : Int32) => [(a, .inr (11, OX z i1 ui2 i3 i4 i5 i6 i7 i8 i30 i43 i45 i46 i47 i48 i49 i50 i51 i58 i59 i65 i68 i69 i72 i78 i80 i81 i82 i87 i92 i96 i100 i103 i104)), (q1, .inl (T 3, 6, .inl gq1)), ((z 0), .inl (T 0, 700, .inl g0))]) D (va_A [(a, .inr (11, OX z i1 i2 i3 i4 i5 i6 i7 i8 i30 i43 i45 i46 i47 i48 i49 i50 i51 i58 i59 i65 i68 i69 i72 i78 i80 i81 i82 i87 i92 i96 i100 i103 i104)), (q1, .inl (T 3, 6, .inl gq1)), ((z 0), .inl (T 0, 700, .inl g0))] sz)) 0 0 (va_A [(a, .inr (11, OX z i1 i2 i3 i4 i5 i6 i7 i8 i30 i43 i45 i46 i47 i48 i49 i50 i51 i58 i59 i65 i68 i69 i72 i78 i80 i81 i82 i87 i92 i96 i100 i103 i104)), (q1, .inl (T 3, 6, .inl gq1)), ((z 0), .inl (T 0, 700, .inl g0))] sz) := by
  refine ct_begin2 (Qc := Qi (S := Int32) (fun (r : Int32) (ui2 : Int32) => (0 ≤ ui2.toInt ∧ ui2.toInt ≤ 700) ∧ (i2.toInt ≤ ui2.toInt) ∧ (((r.toInt = 0 ∧ i2.toInt ≤ ui2.toInt)) ∨ ((r.toInt = 1 ∧ i2.toInt ≤ ui2.toInt ∧ ui2.toInt + 6 ≤ i3.toInt ∧ i5.toInt = 0))) ∧ (0 ≤ r.toInt ∧ r.toInt ≤ 1)) (fun (ui2 : Int32) => [(a, .inr (11, OX z i1 ui2 i3 i4 i5 i6 i7 i8 i30 i43 i45 i46 i47 i48 i49 i50 i51 i58 i59 i65 i68 i69 i72 i78 i80 i81 i82 i87 i92 i96 i100 i103 i104)), (q1, .inl (T 3, 6, .inl gq1)), ((z 0), .inl (T 0, 700, .inl g0))]) D) (by decide +kernel) (Nat.le_of_ble_eq_true rfl) ?_
  intro p e s m below meth c A ls C0 hr hlocks hnm hE hStr hA hP hD hl
  generalize ([.ref a, .ref q1] : List Value).toArray = args at C0 ⊢
  have hx := C0.1
  have hb := C0.2.1
  have hml := C0.2.2.1
  have hown := C0.2.2.2.1
  have hT := C0.2.2.2.2
  have hK := hE.1
  generalize hH : s.heap = H at hP ⊢
  have hS : va_S A s.heap H [] := by rw [← hH]; exact va_S.rf
  have hP : va_P D vwCl [(a, .inr (11, OX z i1 i2 i3 i4 i5 i6 i7 i8 i30 i43 i45 i46 i47 i48 i49 i50 i51 i58 i59 i65 i68 i69 i72 i78 i80 i81 i82 i87 i92 i96 i100 i103 i104)), (q1, .inl (T 3, 6, .inl gq1)), ((z 0), .inl (T 0, 700, .inl g0))] H := hP
  have hD : va_D A [(a, .inr (11, OX z i1 i2 i3 i4 i5 i6 i7 i8 i30 i43 i45 i46 i47 i48 i49 i50 i51 i58 i59 i65 i68 i69 i72 i78 i80 i81 i82 i87 i92 i96 i100 i103 i104)), (q1, .inl (T 3, 6, .inl gq1)), ((z 0), .inl (T 0, 700, .inl g0))] := hD
  have hl : lv_has ls 4 [(0, .ref a), (1, .ref q1)] := hl
  refine lv_aload_n hx hb dX11_isHere_0 rfl (lv_at hl 0 rfl) ?_
  refine r_get (v := .int i5) C0 hE ffX11_5 mw_795 hP 0 rfl ox_5 dX11_isHere_1 ?_
  refine lv_if_ne (tgt := 28) hx hb dX11_isHere_4 (by decide) (fun c28102266 => ?_) (fun c28102266 => ?_)
  · skip
    have kc28102266 : i5.toInt ≠ 0 := ne_ti rfl (by decide) c28102266
    have nzi5 : ¬ i5 = 0 := c28102266
    refine lv_iconst (v := 0) hx hb dX11_isHere_28 (by decide) ?_
    have hl28102267 : (0 : Int32).toInt = 0 := by decide
    have hl28102268 : (0 : Int32).toInt = 0 := by decide
    exact r_zret (i2 : Int32) C0 hr (by decide +kernel) hlocks hS (Nat.le_refl _) (Nat.le_refl _) dX11_isHere_29 ⟨⟨by omega, by omega⟩, (by omega), (Or.inl (by omega)), ⟨by decide, by decide⟩⟩ (hP.sub (ws' := [(a, .inr (11, OX z i1 i2 i3 i4 i5 i6 i7 i8 i30 i43 i45 i46 i47 i48 i49 i50 i51 i58 i59 i65 i68 i69 i72 i78 i80 i81 i82 i87 i92 i96 i100 i103 i104)), (q1, .inl (T 3, 6, .inl gq1)), ((z 0), .inl (T 0, 700, .inl g0))]) [0, 1, 2] rfl) (hD.sub (ws' := [(a, .inr (11, OX z i1 i2 i3 i4 i5 i6 i7 i8 i30 i43 i45 i46 i47 i48 i49 i50 i51 i58 i59 i65 i68 i69 i72 i78 i80 i81 i82 i87 i92 i96 i100 i103 i104)), (q1, .inl (T 3, 6, .inl gq1)), ((z 0), .inl (T 0, 700, .inl g0))]) [0, 1, 2] (by decide +kernel) rfl)
  · skip
    have kc28102266 : i5.toInt = 0 := eq_ti rfl (by decide) c28102266
    refine lv_aload_n hx hb dX11_isHere_7 rfl (lv_at hl 0 rfl) ?_
    refine r_calli (wr := [(q1, .inl (T 3, 6, .inl gq1))]) (r_runV2 (As := []) (rest := []) (wc := [(a, .inr (11, OX z i1 i2 i3 i4 i5 i6 i7 i8 i30 i43 i45 i46 i47 i48 i49 i50 i51 i58 i59 i65 i68 i69 i72 i78 i80 i81 i82 i87 i92 i96 i100 i103 i104)), ((z 0), .inl (T 0, 700, .inl g0))]) (ci := 11) C0 hE hStr hS (va_free (wc := [(a, .inr (11, OX z i1 i2 i3 i4 i5 i6 i7 i8 i30 i43 i45 i46 i47 i48 i49 i50 i51 i58 i59 i65 i68 i69 i72 i78 i80 i81 i82 i87 i92 i96 i100 i103 i104)), ((z 0), .inl (T 0, 700, .inl g0))]) hD hS hA [0, 2] rfl) (h_X11_look_20600027 l D T sq sv H.size a z i1 i2 i3 i4 i5 i6 i7 i8 i30 i43 i45 i46 i47 i48 i49 i50 i51 i58 i59 i65 i68 i69 i72 i78 i80 i81 i82 i87 i92 i96 i100 i103 i104 g0 ⟨by omega, by omega⟩ ⟨by omega, by omega⟩) mw_913 mw_914 mw_1297 mw_14 mw_915 dn_1710 rfl rfl ⟨Nat.le_of_ble_eq_true rfl, Nat.le_of_ble_eq_true rfl⟩ (hP.sub (ws' := [(a, .inr (11, OX z i1 i2 i3 i4 i5 i6 i7 i8 i30 i43 i45 i46 i47 i48 i49 i50 i51 i58 i59 i65 i68 i69 i72 i78 i80 i81 i82 i87 i92 i96 i100 i103 i104)), ((z 0), .inl (T 0, 700, .inl g0))]) [0, 2] rfl) (hD.sub (ws' := [(a, .inr (11, OX z i1 i2 i3 i4 i5 i6 i7 i8 i30 i43 i45 i46 i47 i48 i49 i50 i51 i58 i59 i65 i68 i69 i72 i78 i80 i81 i82 i87 i92 i96 i100 i103 i104)), ((z 0), .inl (T 0, 700, .inl g0))]) [0, 2] (by decide +kernel) rfl) rfl rfl rfl hl.1 rfl (Nat.le_of_ble_eq_true rfl) dX11_isHere_8 ⟨Nat.le_of_ble_eq_true rfl, Nat.le_of_ble_eq_true rfl⟩) hP hD hS hA [0, 2] [1] rfl rfl (by decide +kernel) (by decide +kernel) (fun x28102269 u H locs hq hP hD hS => ?_)
    obtain ⟨x28102270, rfl⟩ : ∃ y, y = u := ⟨_, rfl⟩
    obtain ⟨hx28102270, hp28102271, hAlt⟩ := hq
    have hx28102270 : 0 ≤ x28102270.toInt ∧ x28102270.toInt ≤ 700 := hx28102270
    have hp28102271 : i2.toInt ≤ x28102270.toInt := hp28102271
    have hP : va_P D vwCl [(q1, .inl (T 3, 6, .inl gq1)), (a, .inr (11, OX z i1 x28102270 i3 i4 i5 i6 i7 i8 i30 i43 i45 i46 i47 i48 i49 i50 i51 i58 i59 i65 i68 i69 i72 i78 i80 i81 i82 i87 i92 i96 i100 i103 i104)), ((z 0), .inl (T 0, 700, .inl g0))] H := hP
    have hD : va_D A [(q1, .inl (T 3, 6, .inl gq1)), (a, .inr (11, OX z i1 x28102270 i3 i4 i5 i6 i7 i8 i30 i43 i45 i46 i47 i48 i49 i50 i51 i58 i59 i65 i68 i69 i72 i78 i80 i81 i82 i87 i92 i96 i100 i103 i104)), ((z 0), .inl (T 0, 700, .inl g0))] := hD
    rcases hAlt with hAlt | hAlt
    · skip
      have hp28102272 := hAlt
      have hp28102272 : x28102269.toInt = -1 ∧ i2.toInt ≤ x28102270.toInt := hp28102272
      clear hAlt
      refine W.widen (k := 0) (n := 0) (Nat.le_refl _) (Nat.le_refl _) ?_
      refine r_calli (wr := [(q1, .inl (T 3, 6, .inl gq1)), (a, .inr (11, OX z i1 x28102270 i3 i4 i5 i6 i7 i8 i30 i43 i45 i46 i47 i48 i49 i50 i51 i58 i59 i65 i68 i69 i72 i78 i80 i81 i82 i87 i92 i96 i100 i103 i104)), ((z 0), .inl (T 0, 700, .inl g0))]) (r_runS2 (As := [.int x28102269]) (rest := []) (wc := []) C0 hE hStr hS (va_free (wc := []) hD hS hA [] rfl) (h_X11_isLetter_20100005 l D T sq sv H.size x28102269) mw_928 mw_929 mw_14 mw_930 dn_1708 rfl rfl ⟨Nat.le_of_ble_eq_true rfl, Nat.le_of_ble_eq_true rfl⟩ (hP.sub (ws' := []) [] rfl) (hD.sub (ws' := []) [] (by decide +kernel) rfl) hl.1 rfl (Nat.le_of_ble_eq_true rfl) dX11_isHere_11 ⟨Nat.le_of_ble_eq_true rfl, Nat.le_of_ble_eq_true rfl⟩) hP hD hS hA [] [0, 1, 2] rfl rfl (by decide +kernel) (by decide +kernel) (fun x28102273 u H locs hq hP hD hS => ?_)
      obtain ⟨hAlt, hx28102273⟩ := hq
      have hx28102273 : 0 ≤ x28102273.toInt ∧ x28102273.toInt ≤ 1 := hx28102273
      have hP : va_P D vwCl [(q1, .inl (T 3, 6, .inl gq1)), (a, .inr (11, OX z i1 x28102270 i3 i4 i5 i6 i7 i8 i30 i43 i45 i46 i47 i48 i49 i50 i51 i58 i59 i65 i68 i69 i72 i78 i80 i81 i82 i87 i92 i96 i100 i103 i104)), ((z 0), .inl (T 0, 700, .inl g0))] H := hP
      have hD : va_D A [(q1, .inl (T 3, 6, .inl gq1)), (a, .inr (11, OX z i1 x28102270 i3 i4 i5 i6 i7 i8 i30 i43 i45 i46 i47 i48 i49 i50 i51 i58 i59 i65 i68 i69 i72 i78 i80 i81 i82 i87 i92 i96 i100 i103 i104)), ((z 0), .inl (T 0, 700, .inl g0))] := hD
      rcases hAlt with hAlt | hAlt
      · skip
        have hp28102274 := hAlt
        have hp28102274 : x28102273.toInt = 0 := hp28102274
        clear hAlt
        refine W.widen (k := 0) (n := 0) (Nat.le_refl _) (Nat.le_refl _) ?_
        refine lv_if_eq (tgt := 28) hx hb dX11_isHere_14 (by decide) (fun c28102275 => ?_) (fun hc => by have hf : x28102273.toInt ≠ 0 := ne_ti rfl (by decide) hc; omega)
        have kc28102275 : x28102273.toInt = 0 := eq_ti rfl (by decide) c28102275
        refine lv_iconst (v := 0) hx hb dX11_isHere_28 (by decide) ?_
        have hl28102276 : (0 : Int32).toInt = 0 := by decide
        have hl28102277 : (0 : Int32).toInt = 0 := by decide
        exact r_zret (x28102270 : Int32) C0 hr (by decide +kernel) hlocks hS (Nat.le_refl _) (Nat.le_refl _) dX11_isHere_29 ⟨⟨by omega, by omega⟩, (by omega), (Or.inl (by omega)), ⟨by decide, by decide⟩⟩ (hP.sub (ws' := [(a, .inr (11, OX z i1 x28102270 i3 i4 i5 i6 i7 i8 i30 i43 i45 i46 i47 i48 i49 i50 i51 i58 i59 i65 i68 i69 i72 i78 i80 i81 i82 i87 i92 i96 i100 i103 i104)), (q1, .inl (T 3, 6, .inl gq1)), ((z 0), .inl (T 0, 700, .inl g0))]) [1, 0, 2] rfl) (hD.sub (ws' := [(a, .inr (11, OX z i1 x28102270 i3 i4 i5 i6 i7 i8 i30 i43 i45 i46 i47 i48 i49 i50 i51 i58 i59 i65 i68 i69 i72 i78 i80 i81 i82 i87 i92 i96 i100 i103 i104)), (q1, .inl (T 3, 6, .inl gq1)), ((z 0), .inl (T 0, 700, .inl g0))]) [1, 0, 2] (by decide +kernel) rfl)
      · skip
        have hp28102278 := hAlt
        have hp28102278 : x28102273.toInt = 1 ∧ 97 ≤ x28102269.toInt ∧ x28102269.toInt ≤ 122 := hp28102278
        clear hAlt
        refine W.widen (k := 0) (n := 0) (Nat.le_refl _) (Nat.le_refl _) ?_
        refine lv_if_eq (tgt := 28) hx hb dX11_isHere_14 (by decide) (fun hc => by have hf : x28102273.toInt = 0 := eq_ti rfl (by decide) hc; omega) (fun c28102279 => ?_)
        have kc28102279 : x28102273.toInt ≠ 0 := ne_ti rfl (by decide) c28102279
        refine lv_aload_n hx hb dX11_isHere_17 rfl (lv_at hl 0 rfl) ?_
        refine r_get (v := .int x28102270) C0 hE ffX11_2 mw_792 hP 1 rfl ox_2 dX11_isHere_18 ?_
        refine lv_aload_n hx hb dX11_isHere_21 rfl (lv_at hl 0 rfl) ?_
        refine r_get (v := .int i4) C0 hE ffX11_4 mw_794 hP 1 rfl ox_4 dX11_isHere_22 ?_
        refine lv_icmp_ne (tgt := 30) hx hb dX11_isHere_25 (by decide) (fun c28102280 => ?_) (fun c28102280 => ?_)
        · skip
          have kc28102280 : x28102270.toInt ≠ i4.toInt := ne_ti rfl rfl c28102280
          refine lv_aload_n hx hb dX11_isHere_30 rfl (lv_at hl 0 rfl) ?_
          refine r_get (v := .int x28102270) C0 hE ffX11_2 mw_792 hP 1 rfl ox_2 dX11_isHere_31 ?_
          refine lv_istore_n (lv' := [(2, .int x28102270), (0, .ref a), (1, .ref q1)]) hx hb dX11_isHere_34 rfl hl (by decide) rfl (fun ls hl => ?_)
          have L28102298 : ∀ (n : Nat) (x28102289 : Int32) (H : Heap) (locs : List Loc) (ls : Array Slot), (0 ≤ x28102289.toInt ∧ x28102289.toInt ≤ 700) → (x28102270.toInt ≤ x28102289.toInt ∧ x28102289.toInt ≤ i3.toInt) → (701 - x28102289.toInt).toNat < n → va_P D vwCl [(q1, .inl (T 3, 6, .inl gq1)), (a, .inr (11, OX z i1 x28102270 i3 i4 i5 i6 i7 i8 i30 i43 i45 i46 i47 i48 i49 i50 i51 i58 i59 i65 i68 i69 i72 i78 i80 i81 i82 i87 i92 i96 i100 i103 i104)), ((z 0), .inl (T 0, 700, .inl g0))] H → va_D A [(q1, .inl (T 3, 6, .inl gq1)), (a, .inr (11, OX z i1 x28102270 i3 i4 i5 i6 i7 i8 i30 i43 i45 i46 i47 i48 i49 i50 i51 i58 i59 i65 i68 i69 i72 i78 i80 i81 i82 i87 i92 i96 i100 i103 i104)), ((z 0), .inl (T 0, 700, .inl g0))] → va_S A s.heap H locs → lv_has ls 4 [(2, .int x28102289), (0, .ref a), (1, .ref q1)] → W p l e { frames := 1, cells := 0, slots := 0, locals := 20 } s m args below meth c H locs 0 0 (MQ below ((Qi (S := Int32) (fun (r : Int32) (ui2 : Int32) => (0 ≤ ui2.toInt ∧ ui2.toInt ≤ 700) ∧ (i2.toInt ≤ ui2.toInt) ∧ (((r.toInt = 0 ∧ i2.toInt ≤ ui2.toInt)) ∨ ((r.toInt = 1 ∧ i2.toInt ≤ ui2.toInt ∧ ui2.toInt + 6 ≤ i3.toInt ∧ i5.toInt = 0))) ∧ (0 ≤ r.toInt ∧ r.toInt ≤ 1)) (fun (ui2 : Int32) => [(a, .inr (11, OX z i1 ui2 i3 i4 i5 i6 i7 i8 i30 i43 i45 i46 i47 i48 i49 i50 i51 i58 i59 i65 i68 i69 i72 i78 i80 i81 i82 i87 i92 i96 i100 i103 i104)), (q1, .inl (T 3, 6, .inl gq1)), ((z 0), .inl (T 0, 700, .inl g0))]) D) A) args s 0 0 A) (F0 m 35 ls []) := by
            intro n
            induction n with
            | zero =>
              intro x28102289 H locs ls hx28102289 hr28102299 hms hP hD hS hl
              exact absurd hms (Nat.not_lt_zero _)
            | succ n ih28102300 =>
              intro x28102289 H locs ls hx28102289 hr28102299 hms hP hD hS hl
              refine lv_iload_n hx hb dX11_isHere_35 rfl (lv_at hl 0 rfl) ?_
              refine lv_aload_n hx hb dX11_isHere_36 rfl (lv_at hl 1 rfl) ?_
              refine r_get (v := .int i3) C0 hE ffX11_3 mw_793 hP 1 rfl ox_3 dX11_isHere_37 ?_
              refine lv_icmp_ge (tgt := 61) hx hb dX11_isHere_40 (by decide) (fun c28102301 => ?_) (fun c28102301 => ?_)
              · skip
                have kc28102301 : i3.toInt ≤ x28102289.toInt := le_ti rfl rfl c28102301
                refine lv_iload_n hx hb dX11_isHere_61 rfl (lv_at hl 0 rfl) ?_
                refine lv_aload_n hx hb dX11_isHere_62 rfl (lv_at hl 1 rfl) ?_
                refine r_get (v := .int x28102270) C0 hE ffX11_2 mw_792 hP 1 rfl ox_2 dX11_isHere_63 ?_
                refine lv_isub hx hb dX11_isHere_66 ?_
                refine lv_topi (fun x28102302 ex28102302 => ?_)
                have hx28102302 : x28102302.toInt = x28102289.toInt - x28102270.toInt := ti_sub ex28102302 rfl rfl (by omega) (by omega)
                refine lv_aload_n hx hb dX11_isHere_67 rfl (lv_at hl 2 rfl) ?_
                refine va_alen (v := 6) hx hb hK hP 0 3 rfl rfl rfl dX11_isHere_68 ?_
                refine lv_icmp_eq (tgt := 74) hx hb dX11_isHere_69 (by decide) (fun c28102303 => ?_) (fun c28102303 => ?_)
                · skip
                  have kc28102303 : x28102302.toInt = 6 := eq_ti rfl (by decide) c28102303
                  refine lv_iconst (v := 0) hx hb dX11_isHere_74 (by decide) ?_
                  refine lv_istore_n (lv' := [(3, .int 0), (2, .int x28102289), (0, .ref a), (1, .ref q1)]) hx hb dX11_isHere_75 rfl hl (by decide) rfl (fun ls hl => ?_)
                  have L28102350 : ∀ (n : Nat) (x28102343 : Int32) (H : Heap) (locs : List Loc) (ls : Array Slot), (0 ≤ x28102343.toInt ∧ x28102343.toInt ≤ 6) → (7 - x28102343.toInt).toNat < n → va_P D vwCl [(q1, .inl (T 3, 6, .inl gq1)), (a, .inr (11, OX z i1 x28102270 i3 i4 i5 i6 i7 i8 i30 i43 i45 i46 i47 i48 i49 i50 i51 i58 i59 i65 i68 i69 i72 i78 i80 i81 i82 i87 i92 i96 i100 i103 i104)), ((z 0), .inl (T 0, 700, .inl g0))] H → va_D A [(q1, .inl (T 3, 6, .inl gq1)), (a, .inr (11, OX z i1 x28102270 i3 i4 i5 i6 i7 i8 i30 i43 i45 i46 i47 i48 i49 i50 i51 i58 i59 i65 i68 i69 i72 i78 i80 i81 i82 i87 i92 i96 i100 i103 i104)), ((z 0), .inl (T 0, 700, .inl g0))] → va_S A s.heap H locs → lv_has ls 4 [(3, .int x28102343), (2, .int x28102289), (0, .ref a), (1, .ref q1)] → W p l e { frames := 1, cells := 0, slots := 0, locals := 20 } s m args below meth c H locs 0 0 (MQ below ((Qi (S := Int32) (fun (r : Int32) (ui2 : Int32) => (0 ≤ ui2.toInt ∧ ui2.toInt ≤ 700) ∧ (i2.toInt ≤ ui2.toInt) ∧ (((r.toInt = 0 ∧ i2.toInt ≤ ui2.toInt)) ∨ ((r.toInt = 1 ∧ i2.toInt ≤ ui2.toInt ∧ ui2.toInt + 6 ≤ i3.toInt ∧ i5.toInt = 0))) ∧ (0 ≤ r.toInt ∧ r.toInt ≤ 1)) (fun (ui2 : Int32) => [(a, .inr (11, OX z i1 ui2 i3 i4 i5 i6 i7 i8 i30 i43 i45 i46 i47 i48 i49 i50 i51 i58 i59 i65 i68 i69 i72 i78 i80 i81 i82 i87 i92 i96 i100 i103 i104)), (q1, .inl (T 3, 6, .inl gq1)), ((z 0), .inl (T 0, 700, .inl g0))]) D) A) args s 0 0 A) (F0 m 76 ls []) := by
                    intro n
                    induction n with
                    | zero =>
                      intro x28102343 H locs ls hx28102343 hms hP hD hS hl
                      exact absurd hms (Nat.not_lt_zero _)
                    | succ n ih28102351 =>
                      intro x28102343 H locs ls hx28102343 hms hP hD hS hl
                      refine lv_iload_n hx hb dX11_isHere_76 rfl (lv_at hl 0 rfl) ?_
                      refine lv_aload_n hx hb dX11_isHere_77 rfl (lv_at hl 3 rfl) ?_
                      refine va_alen (v := 6) hx hb hK hP 0 3 rfl rfl rfl dX11_isHere_78 ?_
                      refine lv_icmp_ge (tgt := 107) hx hb dX11_isHere_79 (by decide) (fun c28102352 => ?_) (fun c28102352 => ?_)
                      · skip
                        have kc28102352 : 6 ≤ x28102343.toInt := le_ti (by decide) rfl c28102352
                        refine lv_iconst (v := 1) hx hb dX11_isHere_107 (by decide) ?_
                        have hl28102353 : (1 : Int32).toInt = 1 := by decide
                        have hl28102354 : (1 : Int32).toInt = 1 := by decide
                        exact r_zret (x28102270 : Int32) C0 hr (by decide +kernel) hlocks hS (Nat.le_refl _) (Nat.le_refl _) dX11_isHere_108 ⟨⟨by omega, by omega⟩, (by omega), (Or.inr (by omega)), ⟨by decide, by decide⟩⟩ (hP.sub (ws' := [(a, .inr (11, OX z i1 x28102270 i3 i4 i5 i6 i7 i8 i30 i43 i45 i46 i47 i48 i49 i50 i51 i58 i59 i65 i68 i69 i72 i78 i80 i81 i82 i87 i92 i96 i100 i103 i104)), (q1, .inl (T 3, 6, .inl gq1)), ((z 0), .inl (T 0, 700, .inl g0))]) [1, 0, 2] rfl) (hD.sub (ws' := [(a, .inr (11, OX z i1 x28102270 i3 i4 i5 i6 i7 i8 i30 i43 i45 i46 i47 i48 i49 i50 i51 i58 i59 i65 i68 i69 i72 i78 i80 i81 i82 i87 i92 i96 i100 i103 i104)), (q1, .inl (T 3, 6, .inl gq1)), ((z 0), .inl (T 0, 700, .inl g0))]) [1, 0, 2] (by decide +kernel) rfl)
                      · skip
                        have kc28102352 : x28102343.toInt < 6 := nle_ti (by decide) rfl c28102352
                        refine lv_aload_n hx hb dX11_isHere_82 rfl (lv_at hl 2 rfl) ?_
                        refine r_get (v := .ref (z 0)) C0 hE ffX11_0 mw_790 hP 1 rfl ox_0 dX11_isHere_83 ?_
                        refine lv_aload_n hx hb dX11_isHere_86 rfl (lv_at hl 2 rfl) ?_
                        refine r_get (v := .int x28102270) C0 hE ffX11_2 mw_792 hP 1 rfl ox_2 dX11_isHere_87 ?_
                        refine lv_iload_n hx hb dX11_isHere_90 rfl (lv_at hl 0 rfl) ?_
                        refine lv_iadd hx hb dX11_isHere_91 ?_
                        refine lv_topi (fun x28102355 ex28102355 => ?_)
                        have hx28102355 : x28102355.toInt = x28102270.toInt + x28102343.toInt := ti_add ex28102355 rfl rfl (by omega) (by omega)
                        refine va_iald hx hb hK hP 2 0 rfl rfl (in_ti rfl (by omega) (by omega)) dX11_isHere_92 ?_
                        refine lv_topi (fun x28102356 ex28102356 => ?_)
                        have tx28102356 : x28102356.toInt = (g0 (Int32.toNatClampNeg x28102355)).toInt := by rw [ex28102356]
                        refine lv_aload_n hx hb dX11_isHere_93 rfl (lv_at hl 3 rfl) ?_
                        refine lv_iload_n hx hb dX11_isHere_94 rfl (lv_at hl 0 rfl) ?_
                        refine va_cald hx hb hK hP 0 3 rfl rfl (in_ti rfl (by omega) (by omega)) dX11_isHere_95 ?_
                        refine lv_topi (fun x28102357 ex28102357 => ?_)
                        refine lv_icmp_eq (tgt := 101) hx hb dX11_isHere_96 (by decide) (fun c28102358 => ?_) (fun c28102358 => ?_)
                        · skip
                          have kc28102358 : x28102356.toInt = x28102357.toInt := eq_ti rfl rfl c28102358
                          obtain ⟨x28102359, ex28102359⟩ : ∃ y : Int32, y = x28102343 + 1 := ⟨_, rfl⟩
                          have hx28102359 : x28102359.toInt = x28102343.toInt + 1 := ti_add ex28102359 rfl (by decide) (by omega) (by omega)
                          refine lv_iinc (v := x28102359) (lv' := [(3, .int x28102359), (2, .int x28102289), (0, .ref a), (1, .ref q1)]) hx hb dX11_isHere_101 hl (k := 0) rfl (by rw [ex28102359]; rfl) (by decide) rfl (fun ls hl => ?_)
                          refine lv_goto (tgt := 76) hx hb dX11_isHere_104 (by decide) ?_
                          exact ih28102351 x28102359 _ _ ls ⟨by omega, by omega⟩ (by omega) (hP.sub (ws' := [(q1, .inl (T 3, 6, .inl gq1)), (a, .inr (11, OX z i1 x28102270 i3 i4 i5 i6 i7 i8 i30 i43 i45 i46 i47 i48 i49 i50 i51 i58 i59 i65 i68 i69 i72 i78 i80 i81 i82 i87 i92 i96 i100 i103 i104)), ((z 0), .inl (T 0, 700, .inl g0))]) [0, 1, 2] rfl) (hD.sub (ws' := [(q1, .inl (T 3, 6, .inl gq1)), (a, .inr (11, OX z i1 x28102270 i3 i4 i5 i6 i7 i8 i30 i43 i45 i46 i47 i48 i49 i50 i51 i58 i59 i65 i68 i69 i72 i78 i80 i81 i82 i87 i92 i96 i100 i103 i104)), ((z 0), .inl (T 0, 700, .inl g0))]) [0, 1, 2] (by decide +kernel) rfl) hS (lv_sub hl [0, 1, 2, 3] rfl)
                        · skip
                          have kc28102358 : x28102356.toInt ≠ x28102357.toInt := ne_ti rfl rfl c28102358
                          refine lv_iconst (v := 0) hx hb dX11_isHere_99 (by decide) ?_
                          have hl28102360 : (0 : Int32).toInt = 0 := by decide
                          have hl28102361 : (0 : Int32).toInt = 0 := by decide
                          exact r_zret (x28102270 : Int32) C0 hr (by decide +kernel) hlocks hS (Nat.le_refl _) (Nat.le_refl _) dX11_isHere_100 ⟨⟨by omega, by omega⟩, (by omega), (Or.inl (by omega)), ⟨by decide, by decide⟩⟩ (hP.sub (ws' := [(a, .inr (11, OX z i1 x28102270 i3 i4 i5 i6 i7 i8 i30 i43 i45 i46 i47 i48 i49 i50 i51 i58 i59 i65 i68 i69 i72 i78 i80 i81 i82 i87 i92 i96 i100 i103 i104)), (q1, .inl (T 3, 6, .inl gq1)), ((z 0), .inl (T 0, 700, .inl g0))]) [1, 0, 2] rfl) (hD.sub (ws' := [(a, .inr (11, OX z i1 x28102270 i3 i4 i5 i6 i7 i8 i30 i43 i45 i46 i47 i48 i49 i50 i51 i58 i59 i65 i68 i69 i72 i78 i80 i81 i82 i87 i92 i96 i100 i103 i104)), (q1, .inl (T 3, 6, .inl gq1)), ((z 0), .inl (T 0, 700, .inl g0))]) [1, 0, 2] (by decide +kernel) rfl)
                  exact L28102350 _ 0 _ _ ls ⟨by decide, by decide⟩ (Nat.lt_succ_self _) (hP.sub (ws' := [(q1, .inl (T 3, 6, .inl gq1)), (a, .inr (11, OX z i1 x28102270 i3 i4 i5 i6 i7 i8 i30 i43 i45 i46 i47 i48 i49 i50 i51 i58 i59 i65 i68 i69 i72 i78 i80 i81 i82 i87 i92 i96 i100 i103 i104)), ((z 0), .inl (T 0, 700, .inl g0))]) [0, 1, 2] rfl) (hD.sub (ws' := [(q1, .inl (T 3, 6, .inl gq1)), (a, .inr (11, OX z i1 x28102270 i3 i4 i5 i6 i7 i8 i30 i43 i45 i46 i47 i48 i49 i50 i51 i58 i59 i65 i68 i69 i72 i78 i80 i81 i82 i87 i92 i96 i100 i103 i104)), ((z 0), .inl (T 0, 700, .inl g0))]) [0, 1, 2] (by decide +kernel) rfl) hS (lv_sub hl [0, 1, 2, 3] rfl)
                · skip
                  have kc28102303 : x28102302.toInt ≠ 6 := ne_ti rfl (by decide) c28102303
                  refine lv_iconst (v := 0) hx hb dX11_isHere_72 (by decide) ?_
                  have hl28102362 : (0 : Int32).toInt = 0 := by decide
                  have hl28102363 : (0 : Int32).toInt = 0 := by decide
                  exact r_zret (x28102270 : Int32) C0 hr (by decide +kernel) hlocks hS (Nat.le_refl _) (Nat.le_refl _) dX11_isHere_73 ⟨⟨by omega, by omega⟩, (by omega), (Or.inl (by omega)), ⟨by decide, by decide⟩⟩ (hP.sub (ws' := [(a, .inr (11, OX z i1 x28102270 i3 i4 i5 i6 i7 i8 i30 i43 i45 i46 i47 i48 i49 i50 i51 i58 i59 i65 i68 i69 i72 i78 i80 i81 i82 i87 i92 i96 i100 i103 i104)), (q1, .inl (T 3, 6, .inl gq1)), ((z 0), .inl (T 0, 700, .inl g0))]) [1, 0, 2] rfl) (hD.sub (ws' := [(a, .inr (11, OX z i1 x28102270 i3 i4 i5 i6 i7 i8 i30 i43 i45 i46 i47 i48 i49 i50 i51 i58 i59 i65 i68 i69 i72 i78 i80 i81 i82 i87 i92 i96 i100 i103 i104)), (q1, .inl (T 3, 6, .inl gq1)), ((z 0), .inl (T 0, 700, .inl g0))]) [1, 0, 2] (by decide +kernel) rfl)
              · skip
                have kc28102301 : x28102289.toInt < i3.toInt := nle_ti rfl rfl c28102301
                refine lv_aload_n hx hb dX11_isHere_43 rfl (lv_at hl 1 rfl) ?_
                refine r_get (v := .ref (z 0)) C0 hE ffX11_0 mw_790 hP 1 rfl ox_0 dX11_isHere_44 ?_
                refine lv_iload_n hx hb dX11_isHere_47 rfl (lv_at hl 0 rfl) ?_
                refine va_iald hx hb hK hP 2 0 rfl rfl (in_ti rfl (by omega) (by omega)) dX11_isHere_48 ?_
                refine lv_topi (fun x28102364 ex28102364 => ?_)
                have tx28102364 : x28102364.toInt = (g0 (Int32.toNatClampNeg x28102289)).toInt := by rw [ex28102364]
                refine r_calli (wr := [(q1, .inl (T 3, 6, .inl gq1)), (a, .inr (11, OX z i1 x28102270 i3 i4 i5 i6 i7 i8 i30 i43 i45 i46 i47 i48 i49 i50 i51 i58 i59 i65 i68 i69 i72 i78 i80 i81 i82 i87 i92 i96 i100 i103 i104)), ((z 0), .inl (T 0, 700, .inl g0))]) (r_runS2 (As := [.int x28102364]) (rest := []) (wc := []) C0 hE hStr hS (va_free (wc := []) hD hS hA [] rfl) (h_X11_isLetter_20100005 l D T sq sv H.size x28102364) mw_928 mw_929 mw_14 mw_930 dn_1708 rfl rfl ⟨Nat.le_of_ble_eq_true rfl, Nat.le_of_ble_eq_true rfl⟩ (hP.sub (ws' := []) [] rfl) (hD.sub (ws' := []) [] (by decide +kernel) rfl) hl.1 rfl (Nat.le_of_ble_eq_true rfl) dX11_isHere_49 ⟨Nat.le_of_ble_eq_true rfl, Nat.le_of_ble_eq_true rfl⟩) hP hD hS hA [] [0, 1, 2] rfl rfl (by decide +kernel) (by decide +kernel) (fun x28102365 u H locs hq hP hD hS => ?_)
                obtain ⟨hAlt, hx28102365⟩ := hq
                have hx28102365 : 0 ≤ x28102365.toInt ∧ x28102365.toInt ≤ 1 := hx28102365
                have hP : va_P D vwCl [(q1, .inl (T 3, 6, .inl gq1)), (a, .inr (11, OX z i1 x28102270 i3 i4 i5 i6 i7 i8 i30 i43 i45 i46 i47 i48 i49 i50 i51 i58 i59 i65 i68 i69 i72 i78 i80 i81 i82 i87 i92 i96 i100 i103 i104)), ((z 0), .inl (T 0, 700, .inl g0))] H := hP
                have hD : va_D A [(q1, .inl (T 3, 6, .inl gq1)), (a, .inr (11, OX z i1 x28102270 i3 i4 i5 i6 i7 i8 i30 i43 i45 i46 i47 i48 i49 i50 i51 i58 i59 i65 i68 i69 i72 i78 i80 i81 i82 i87 i92 i96 i100 i103 i104)), ((z 0), .inl (T 0, 700, .inl g0))] := hD
                rcases hAlt with hAlt | hAlt
                · skip
                  have hp28102366 := hAlt
                  have hp28102366 : x28102365.toInt = 0 := hp28102366
                  clear hAlt
                  refine W.widen (k := 0) (n := 0) (Nat.le_refl _) (Nat.le_refl _) ?_
                  refine lv_if_eq (tgt := 61) hx hb dX11_isHere_52 (by decide) (fun c28102367 => ?_) (fun hc => by have hf : x28102365.toInt ≠ 0 := ne_ti rfl (by decide) hc; omega)
                  have kc28102367 : x28102365.toInt = 0 := eq_ti rfl (by decide) c28102367
                  refine lv_iload_n hx hb dX11_isHere_61 rfl (lv_at hl 0 rfl) ?_
                  refine lv_aload_n hx hb dX11_isHere_62 rfl (lv_at hl 1 rfl) ?_
                  refine r_get (v := .int x28102270) C0 hE ffX11_2 mw_792 hP 1 rfl ox_2 dX11_isHere_63 ?_
                  refine lv_isub hx hb dX11_isHere_66 ?_
                  refine lv_topi (fun x28102368 ex28102368 => ?_)
                  have hx28102368 : x28102368.toInt = x28102289.toInt - x28102270.toInt := ti_sub ex28102368 rfl rfl (by omega) (by omega)
                  refine lv_aload_n hx hb dX11_isHere_67 rfl (lv_at hl 2 rfl) ?_
                  refine va_alen (v := 6) hx hb hK hP 0 3 rfl rfl rfl dX11_isHere_68 ?_
                  refine lv_icmp_eq (tgt := 74) hx hb dX11_isHere_69 (by decide) (fun c28102369 => ?_) (fun c28102369 => ?_)
                  · skip
                    have kc28102369 : x28102368.toInt = 6 := eq_ti rfl (by decide) c28102369
                    refine lv_iconst (v := 0) hx hb dX11_isHere_74 (by decide) ?_
                    refine lv_istore_n (lv' := [(3, .int 0), (2, .int x28102289), (0, .ref a), (1, .ref q1)]) hx hb dX11_isHere_75 rfl hl (by decide) rfl (fun ls hl => ?_)
                    have L28102416 : ∀ (n : Nat) (x28102409 : Int32) (H : Heap) (locs : List Loc) (ls : Array Slot), (0 ≤ x28102409.toInt ∧ x28102409.toInt ≤ 6) → (7 - x28102409.toInt).toNat < n → va_P D vwCl [(q1, .inl (T 3, 6, .inl gq1)), (a, .inr (11, OX z i1 x28102270 i3 i4 i5 i6 i7 i8 i30 i43 i45 i46 i47 i48 i49 i50 i51 i58 i59 i65 i68 i69 i72 i78 i80 i81 i82 i87 i92 i96 i100 i103 i104)), ((z 0), .inl (T 0, 700, .inl g0))] H → va_D A [(q1, .inl (T 3, 6, .inl gq1)), (a, .inr (11, OX z i1 x28102270 i3 i4 i5 i6 i7 i8 i30 i43 i45 i46 i47 i48 i49 i50 i51 i58 i59 i65 i68 i69 i72 i78 i80 i81 i82 i87 i92 i96 i100 i103 i104)), ((z 0), .inl (T 0, 700, .inl g0))] → va_S A s.heap H locs → lv_has ls 4 [(3, .int x28102409), (2, .int x28102289), (0, .ref a), (1, .ref q1)] → W p l e { frames := 1, cells := 0, slots := 0, locals := 20 } s m args below meth c H locs 0 0 (MQ below ((Qi (S := Int32) (fun (r : Int32) (ui2 : Int32) => (0 ≤ ui2.toInt ∧ ui2.toInt ≤ 700) ∧ (i2.toInt ≤ ui2.toInt) ∧ (((r.toInt = 0 ∧ i2.toInt ≤ ui2.toInt)) ∨ ((r.toInt = 1 ∧ i2.toInt ≤ ui2.toInt ∧ ui2.toInt + 6 ≤ i3.toInt ∧ i5.toInt = 0))) ∧ (0 ≤ r.toInt ∧ r.toInt ≤ 1)) (fun (ui2 : Int32) => [(a, .inr (11, OX z i1 ui2 i3 i4 i5 i6 i7 i8 i30 i43 i45 i46 i47 i48 i49 i50 i51 i58 i59 i65 i68 i69 i72 i78 i80 i81 i82 i87 i92 i96 i100 i103 i104)), (q1, .inl (T 3, 6, .inl gq1)), ((z 0), .inl (T 0, 700, .inl g0))]) D) A) args s 0 0 A) (F0 m 76 ls []) := by
                      intro n
                      induction n with
                      | zero =>
                        intro x28102409 H locs ls hx28102409 hms hP hD hS hl
                        exact absurd hms (Nat.not_lt_zero _)
                      | succ n ih28102417 =>
                        intro x28102409 H locs ls hx28102409 hms hP hD hS hl
                        refine lv_iload_n hx hb dX11_isHere_76 rfl (lv_at hl 0 rfl) ?_
                        refine lv_aload_n hx hb dX11_isHere_77 rfl (lv_at hl 3 rfl) ?_
                        refine va_alen (v := 6) hx hb hK hP 0 3 rfl rfl rfl dX11_isHere_78 ?_
                        refine lv_icmp_ge (tgt := 107) hx hb dX11_isHere_79 (by decide) (fun c28102418 => ?_) (fun c28102418 => ?_)
                        · skip
                          have kc28102418 : 6 ≤ x28102409.toInt := le_ti (by decide) rfl c28102418
                          refine lv_iconst (v := 1) hx hb dX11_isHere_107 (by decide) ?_
                          have hl28102419 : (1 : Int32).toInt = 1 := by decide
                          have hl28102420 : (1 : Int32).toInt = 1 := by decide
                          exact r_zret (x28102270 : Int32) C0 hr (by decide +kernel) hlocks hS (Nat.le_refl _) (Nat.le_refl _) dX11_isHere_108 ⟨⟨by omega, by omega⟩, (by omega), (Or.inr (by omega)), ⟨by decide, by decide⟩⟩ (hP.sub (ws' := [(a, .inr (11, OX z i1 x28102270 i3 i4 i5 i6 i7 i8 i30 i43 i45 i46 i47 i48 i49 i50 i51 i58 i59 i65 i68 i69 i72 i78 i80 i81 i82 i87 i92 i96 i100 i103 i104)), (q1, .inl (T 3, 6, .inl gq1)), ((z 0), .inl (T 0, 700, .inl g0))]) [1, 0, 2] rfl) (hD.sub (ws' := [(a, .inr (11, OX z i1 x28102270 i3 i4 i5 i6 i7 i8 i30 i43 i45 i46 i47 i48 i49 i50 i51 i58 i59 i65 i68 i69 i72 i78 i80 i81 i82 i87 i92 i96 i100 i103 i104)), (q1, .inl (T 3, 6, .inl gq1)), ((z 0), .inl (T 0, 700, .inl g0))]) [1, 0, 2] (by decide +kernel) rfl)
                        · skip
                          have kc28102418 : x28102409.toInt < 6 := nle_ti (by decide) rfl c28102418
                          refine lv_aload_n hx hb dX11_isHere_82 rfl (lv_at hl 2 rfl) ?_
                          refine r_get (v := .ref (z 0)) C0 hE ffX11_0 mw_790 hP 1 rfl ox_0 dX11_isHere_83 ?_
                          refine lv_aload_n hx hb dX11_isHere_86 rfl (lv_at hl 2 rfl) ?_
                          refine r_get (v := .int x28102270) C0 hE ffX11_2 mw_792 hP 1 rfl ox_2 dX11_isHere_87 ?_
                          refine lv_iload_n hx hb dX11_isHere_90 rfl (lv_at hl 0 rfl) ?_
                          refine lv_iadd hx hb dX11_isHere_91 ?_
                          refine lv_topi (fun x28102421 ex28102421 => ?_)
                          have hx28102421 : x28102421.toInt = x28102270.toInt + x28102409.toInt := ti_add ex28102421 rfl rfl (by omega) (by omega)
                          refine va_iald hx hb hK hP 2 0 rfl rfl (in_ti rfl (by omega) (by omega)) dX11_isHere_92 ?_
                          refine lv_topi (fun x28102422 ex28102422 => ?_)
                          have tx28102422 : x28102422.toInt = (g0 (Int32.toNatClampNeg x28102421)).toInt := by rw [ex28102422]
                          refine lv_aload_n hx hb dX11_isHere_93 rfl (lv_at hl 3 rfl) ?_
                          refine lv_iload_n hx hb dX11_isHere_94 rfl (lv_at hl 0 rfl) ?_
                          refine va_cald hx hb hK hP 0 3 rfl rfl (in_ti rfl (by omega) (by omega)) dX11_isHere_95 ?_
                          refine lv_topi (fun x28102423 ex28102423 => ?_)
                          refine lv_icmp_eq (tgt := 101) hx hb dX11_isHere_96 (by decide) (fun c28102424 => ?_) (fun c28102424 => ?_)
                          · skip
                            have kc28102424 : x28102422.toInt = x28102423.toInt := eq_ti rfl rfl c28102424
                            obtain ⟨x28102425, ex28102425⟩ : ∃ y : Int32, y = x28102409 + 1 := ⟨_, rfl⟩
                            have hx28102425 : x28102425.toInt = x28102409.toInt + 1 := ti_add ex28102425 rfl (by decide) (by omega) (by omega)
                            refine lv_iinc (v := x28102425) (lv' := [(3, .int x28102425), (2, .int x28102289), (0, .ref a), (1, .ref q1)]) hx hb dX11_isHere_101 hl (k := 0) rfl (by rw [ex28102425]; rfl) (by decide) rfl (fun ls hl => ?_)
                            refine lv_goto (tgt := 76) hx hb dX11_isHere_104 (by decide) ?_
                            exact ih28102417 x28102425 _ _ ls ⟨by omega, by omega⟩ (by omega) (hP.sub (ws' := [(q1, .inl (T 3, 6, .inl gq1)), (a, .inr (11, OX z i1 x28102270 i3 i4 i5 i6 i7 i8 i30 i43 i45 i46 i47 i48 i49 i50 i51 i58 i59 i65 i68 i69 i72 i78 i80 i81 i82 i87 i92 i96 i100 i103 i104)), ((z 0), .inl (T 0, 700, .inl g0))]) [0, 1, 2] rfl) (hD.sub (ws' := [(q1, .inl (T 3, 6, .inl gq1)), (a, .inr (11, OX z i1 x28102270 i3 i4 i5 i6 i7 i8 i30 i43 i45 i46 i47 i48 i49 i50 i51 i58 i59 i65 i68 i69 i72 i78 i80 i81 i82 i87 i92 i96 i100 i103 i104)), ((z 0), .inl (T 0, 700, .inl g0))]) [0, 1, 2] (by decide +kernel) rfl) hS (lv_sub hl [0, 1, 2, 3] rfl)
                          · skip
                            have kc28102424 : x28102422.toInt ≠ x28102423.toInt := ne_ti rfl rfl c28102424
                            refine lv_iconst (v := 0) hx hb dX11_isHere_99 (by decide) ?_
                            have hl28102426 : (0 : Int32).toInt = 0 := by decide
                            have hl28102427 : (0 : Int32).toInt = 0 := by decide
                            exact r_zret (x28102270 : Int32) C0 hr (by decide +kernel) hlocks hS (Nat.le_refl _) (Nat.le_refl _) dX11_isHere_100 ⟨⟨by omega, by omega⟩, (by omega), (Or.inl (by omega)), ⟨by decide, by decide⟩⟩ (hP.sub (ws' := [(a, .inr (11, OX z i1 x28102270 i3 i4 i5 i6 i7 i8 i30 i43 i45 i46 i47 i48 i49 i50 i51 i58 i59 i65 i68 i69 i72 i78 i80 i81 i82 i87 i92 i96 i100 i103 i104)), (q1, .inl (T 3, 6, .inl gq1)), ((z 0), .inl (T 0, 700, .inl g0))]) [1, 0, 2] rfl) (hD.sub (ws' := [(a, .inr (11, OX z i1 x28102270 i3 i4 i5 i6 i7 i8 i30 i43 i45 i46 i47 i48 i49 i50 i51 i58 i59 i65 i68 i69 i72 i78 i80 i81 i82 i87 i92 i96 i100 i103 i104)), (q1, .inl (T 3, 6, .inl gq1)), ((z 0), .inl (T 0, 700, .inl g0))]) [1, 0, 2] (by decide +kernel) rfl)
                    exact L28102416 _ 0 _ _ ls ⟨by decide, by decide⟩ (Nat.lt_succ_self _) (hP.sub (ws' := [(q1, .inl (T 3, 6, .inl gq1)), (a, .inr (11, OX z i1 x28102270 i3 i4 i5 i6 i7 i8 i30 i43 i45 i46 i47 i48 i49 i50 i51 i58 i59 i65 i68 i69 i72 i78 i80 i81 i82 i87 i92 i96 i100 i103 i104)), ((z 0), .inl (T 0, 700, .inl g0))]) [0, 1, 2] rfl) (hD.sub (ws' := [(q1, .inl (T 3, 6, .inl gq1)), (a, .inr (11, OX z i1 x28102270 i3 i4 i5 i6 i7 i8 i30 i43 i45 i46 i47 i48 i49 i50 i51 i58 i59 i65 i68 i69 i72 i78 i80 i81 i82 i87 i92 i96 i100 i103 i104)), ((z 0), .inl (T 0, 700, .inl g0))]) [0, 1, 2] (by decide +kernel) rfl) hS (lv_sub hl [0, 1, 2, 3] rfl)
                  · skip
                    have kc28102369 : x28102368.toInt ≠ 6 := ne_ti rfl (by decide) c28102369
                    refine lv_iconst (v := 0) hx hb dX11_isHere_72 (by decide) ?_
                    have hl28102428 : (0 : Int32).toInt = 0 := by decide
                    have hl28102429 : (0 : Int32).toInt = 0 := by decide
                    exact r_zret (x28102270 : Int32) C0 hr (by decide +kernel) hlocks hS (Nat.le_refl _) (Nat.le_refl _) dX11_isHere_73 ⟨⟨by omega, by omega⟩, (by omega), (Or.inl (by omega)), ⟨by decide, by decide⟩⟩ (hP.sub (ws' := [(a, .inr (11, OX z i1 x28102270 i3 i4 i5 i6 i7 i8 i30 i43 i45 i46 i47 i48 i49 i50 i51 i58 i59 i65 i68 i69 i72 i78 i80 i81 i82 i87 i92 i96 i100 i103 i104)), (q1, .inl (T 3, 6, .inl gq1)), ((z 0), .inl (T 0, 700, .inl g0))]) [1, 0, 2] rfl) (hD.sub (ws' := [(a, .inr (11, OX z i1 x28102270 i3 i4 i5 i6 i7 i8 i30 i43 i45 i46 i47 i48 i49 i50 i51 i58 i59 i65 i68 i69 i72 i78 i80 i81 i82 i87 i92 i96 i100 i103 i104)), (q1, .inl (T 3, 6, .inl gq1)), ((z 0), .inl (T 0, 700, .inl g0))]) [1, 0, 2] (by decide +kernel) rfl)
                · skip
                  have hp28102430 := hAlt
                  have hp28102430 : x28102365.toInt = 1 ∧ 97 ≤ x28102364.toInt ∧ x28102364.toInt ≤ 122 := hp28102430
                  clear hAlt
                  refine W.widen (k := 0) (n := 0) (Nat.le_refl _) (Nat.le_refl _) ?_
                  refine lv_if_eq (tgt := 61) hx hb dX11_isHere_52 (by decide) (fun hc => by have hf : x28102365.toInt = 0 := eq_ti rfl (by decide) hc; omega) (fun c28102431 => ?_)
                  have kc28102431 : x28102365.toInt ≠ 0 := ne_ti rfl (by decide) c28102431
                  obtain ⟨x28102432, ex28102432⟩ : ∃ y : Int32, y = x28102289 + 1 := ⟨_, rfl⟩
                  have hx28102432 : x28102432.toInt = x28102289.toInt + 1 := ti_add ex28102432 rfl (by decide) (by omega) (by omega)
                  refine lv_iinc (v := x28102432) (lv' := [(2, .int x28102432), (0, .ref a), (1, .ref q1)]) hx hb dX11_isHere_55 hl (k := 0) rfl (by rw [ex28102432]; rfl) (by decide) rfl (fun ls hl => ?_)
                  refine lv_goto (tgt := 35) hx hb dX11_isHere_58 (by decide) ?_
                  exact ih28102300 x28102432 _ _ ls ⟨by omega, by omega⟩ (by omega) (by omega) (hP.sub (ws' := [(q1, .inl (T 3, 6, .inl gq1)), (a, .inr (11, OX z i1 x28102270 i3 i4 i5 i6 i7 i8 i30 i43 i45 i46 i47 i48 i49 i50 i51 i58 i59 i65 i68 i69 i72 i78 i80 i81 i82 i87 i92 i96 i100 i103 i104)), ((z 0), .inl (T 0, 700, .inl g0))]) [0, 1, 2] rfl) (hD.sub (ws' := [(q1, .inl (T 3, 6, .inl gq1)), (a, .inr (11, OX z i1 x28102270 i3 i4 i5 i6 i7 i8 i30 i43 i45 i46 i47 i48 i49 i50 i51 i58 i59 i65 i68 i69 i72 i78 i80 i81 i82 i87 i92 i96 i100 i103 i104)), ((z 0), .inl (T 0, 700, .inl g0))]) [0, 1, 2] (by decide +kernel) rfl) hS (lv_sub hl [0, 1, 2] rfl)
          exact L28102298 _ x28102270 _ _ ls ⟨by omega, by omega⟩ (by omega) (Nat.lt_succ_self _) (hP.sub (ws' := [(q1, .inl (T 3, 6, .inl gq1)), (a, .inr (11, OX z i1 x28102270 i3 i4 i5 i6 i7 i8 i30 i43 i45 i46 i47 i48 i49 i50 i51 i58 i59 i65 i68 i69 i72 i78 i80 i81 i82 i87 i92 i96 i100 i103 i104)), ((z 0), .inl (T 0, 700, .inl g0))]) [0, 1, 2] rfl) (hD.sub (ws' := [(q1, .inl (T 3, 6, .inl gq1)), (a, .inr (11, OX z i1 x28102270 i3 i4 i5 i6 i7 i8 i30 i43 i45 i46 i47 i48 i49 i50 i51 i58 i59 i65 i68 i69 i72 i78 i80 i81 i82 i87 i92 i96 i100 i103 i104)), ((z 0), .inl (T 0, 700, .inl g0))]) [0, 1, 2] (by decide +kernel) rfl) hS (lv_sub hl [0, 1, 2] rfl)
        · skip
          have kc28102280 : x28102270.toInt = i4.toInt := eq_ti rfl rfl c28102280
          refine lv_iconst (v := 0) hx hb dX11_isHere_28 (by decide) ?_
          have hl28102433 : (0 : Int32).toInt = 0 := by decide
          have hl28102434 : (0 : Int32).toInt = 0 := by decide
          exact r_zret (x28102270 : Int32) C0 hr (by decide +kernel) hlocks hS (Nat.le_refl _) (Nat.le_refl _) dX11_isHere_29 ⟨⟨by omega, by omega⟩, (by omega), (Or.inl (by omega)), ⟨by decide, by decide⟩⟩ (hP.sub (ws' := [(a, .inr (11, OX z i1 x28102270 i3 i4 i5 i6 i7 i8 i30 i43 i45 i46 i47 i48 i49 i50 i51 i58 i59 i65 i68 i69 i72 i78 i80 i81 i82 i87 i92 i96 i100 i103 i104)), (q1, .inl (T 3, 6, .inl gq1)), ((z 0), .inl (T 0, 700, .inl g0))]) [1, 0, 2] rfl) (hD.sub (ws' := [(a, .inr (11, OX z i1 x28102270 i3 i4 i5 i6 i7 i8 i30 i43 i45 i46 i47 i48 i49 i50 i51 i58 i59 i65 i68 i69 i72 i78 i80 i81 i82 i87 i92 i96 i100 i103 i104)), (q1, .inl (T 3, 6, .inl gq1)), ((z 0), .inl (T 0, 700, .inl g0))]) [1, 0, 2] (by decide +kernel) rfl)
    · skip
      have hp28102435 := hAlt
      have hp28102435 : i2.toInt ≤ x28102270.toInt ∧ x28102270.toInt < i3.toInt ∧ x28102269.toInt = (g0 (Int32.toNatClampNeg x28102270)).toInt := hp28102435
      clear hAlt
      refine W.widen (k := 0) (n := 0) (Nat.le_refl _) (Nat.le_refl _) ?_
      refine r_calli (wr := [(q1, .inl (T 3, 6, .inl gq1)), (a, .inr (11, OX z i1 x28102270 i3 i4 i5 i6 i7 i8 i30 i43 i45 i46 i47 i48 i49 i50 i51 i58 i59 i65 i68 i69 i72 i78 i80 i81 i82 i87 i92 i96 i100 i103 i104)), ((z 0), .inl (T 0, 700, .inl g0))]) (r_runS2 (As := [.int x28102269]) (rest := []) (wc := []) C0 hE hStr hS (va_free (wc := []) hD hS hA [] rfl) (h_X11_isLetter_20100005 l D T sq sv H.size x28102269) mw_928 mw_929 mw_14 mw_930 dn_1708 rfl rfl ⟨Nat.le_of_ble_eq_true rfl, Nat.le_of_ble_eq_true rfl⟩ (hP.sub (ws' := []) [] rfl) (hD.sub (ws' := []) [] (by decide +kernel) rfl) hl.1 rfl (Nat.le_of_ble_eq_true rfl) dX11_isHere_11 ⟨Nat.le_of_ble_eq_true rfl, Nat.le_of_ble_eq_true rfl⟩) hP hD hS hA [] [0, 1, 2] rfl rfl (by decide +kernel) (by decide +kernel) (fun x28102436 u H locs hq hP hD hS => ?_)
      obtain ⟨hAlt, hx28102436⟩ := hq
      have hx28102436 : 0 ≤ x28102436.toInt ∧ x28102436.toInt ≤ 1 := hx28102436
      have hP : va_P D vwCl [(q1, .inl (T 3, 6, .inl gq1)), (a, .inr (11, OX z i1 x28102270 i3 i4 i5 i6 i7 i8 i30 i43 i45 i46 i47 i48 i49 i50 i51 i58 i59 i65 i68 i69 i72 i78 i80 i81 i82 i87 i92 i96 i100 i103 i104)), ((z 0), .inl (T 0, 700, .inl g0))] H := hP
      have hD : va_D A [(q1, .inl (T 3, 6, .inl gq1)), (a, .inr (11, OX z i1 x28102270 i3 i4 i5 i6 i7 i8 i30 i43 i45 i46 i47 i48 i49 i50 i51 i58 i59 i65 i68 i69 i72 i78 i80 i81 i82 i87 i92 i96 i100 i103 i104)), ((z 0), .inl (T 0, 700, .inl g0))] := hD
      rcases hAlt with hAlt | hAlt
      · skip
        have hp28102437 := hAlt
        have hp28102437 : x28102436.toInt = 0 := hp28102437
        clear hAlt
        refine W.widen (k := 0) (n := 0) (Nat.le_refl _) (Nat.le_refl _) ?_
        refine lv_if_eq (tgt := 28) hx hb dX11_isHere_14 (by decide) (fun c28102438 => ?_) (fun hc => by have hf : x28102436.toInt ≠ 0 := ne_ti rfl (by decide) hc; omega)
        have kc28102438 : x28102436.toInt = 0 := eq_ti rfl (by decide) c28102438
        refine lv_iconst (v := 0) hx hb dX11_isHere_28 (by decide) ?_
        have hl28102439 : (0 : Int32).toInt = 0 := by decide
        have hl28102440 : (0 : Int32).toInt = 0 := by decide
        exact r_zret (x28102270 : Int32) C0 hr (by decide +kernel) hlocks hS (Nat.le_refl _) (Nat.le_refl _) dX11_isHere_29 ⟨⟨by omega, by omega⟩, (by omega), (Or.inl (by omega)), ⟨by decide, by decide⟩⟩ (hP.sub (ws' := [(a, .inr (11, OX z i1 x28102270 i3 i4 i5 i6 i7 i8 i30 i43 i45 i46 i47 i48 i49 i50 i51 i58 i59 i65 i68 i69 i72 i78 i80 i81 i82 i87 i92 i96 i100 i103 i104)), (q1, .inl (T 3, 6, .inl gq1)), ((z 0), .inl (T 0, 700, .inl g0))]) [1, 0, 2] rfl) (hD.sub (ws' := [(a, .inr (11, OX z i1 x28102270 i3 i4 i5 i6 i7 i8 i30 i43 i45 i46 i47 i48 i49 i50 i51 i58 i59 i65 i68 i69 i72 i78 i80 i81 i82 i87 i92 i96 i100 i103 i104)), (q1, .inl (T 3, 6, .inl gq1)), ((z 0), .inl (T 0, 700, .inl g0))]) [1, 0, 2] (by decide +kernel) rfl)
      · skip
        have hp28102441 := hAlt
        have hp28102441 : x28102436.toInt = 1 ∧ 97 ≤ x28102269.toInt ∧ x28102269.toInt ≤ 122 := hp28102441
        clear hAlt
        refine W.widen (k := 0) (n := 0) (Nat.le_refl _) (Nat.le_refl _) ?_
        refine lv_if_eq (tgt := 28) hx hb dX11_isHere_14 (by decide) (fun hc => by have hf : x28102436.toInt = 0 := eq_ti rfl (by decide) hc; omega) (fun c28102442 => ?_)
        have kc28102442 : x28102436.toInt ≠ 0 := ne_ti rfl (by decide) c28102442
        refine lv_aload_n hx hb dX11_isHere_17 rfl (lv_at hl 0 rfl) ?_
        refine r_get (v := .int x28102270) C0 hE ffX11_2 mw_792 hP 1 rfl ox_2 dX11_isHere_18 ?_
        refine lv_aload_n hx hb dX11_isHere_21 rfl (lv_at hl 0 rfl) ?_
        refine r_get (v := .int i4) C0 hE ffX11_4 mw_794 hP 1 rfl ox_4 dX11_isHere_22 ?_
        refine lv_icmp_ne (tgt := 30) hx hb dX11_isHere_25 (by decide) (fun c28102443 => ?_) (fun c28102443 => ?_)
        · skip
          have kc28102443 : x28102270.toInt ≠ i4.toInt := ne_ti rfl rfl c28102443
          refine lv_aload_n hx hb dX11_isHere_30 rfl (lv_at hl 0 rfl) ?_
          refine r_get (v := .int x28102270) C0 hE ffX11_2 mw_792 hP 1 rfl ox_2 dX11_isHere_31 ?_
          refine lv_istore_n (lv' := [(2, .int x28102270), (0, .ref a), (1, .ref q1)]) hx hb dX11_isHere_34 rfl hl (by decide) rfl (fun ls hl => ?_)
          have L28102461 : ∀ (n : Nat) (x28102452 : Int32) (H : Heap) (locs : List Loc) (ls : Array Slot), (0 ≤ x28102452.toInt ∧ x28102452.toInt ≤ 700) → (x28102270.toInt ≤ x28102452.toInt ∧ x28102452.toInt ≤ i3.toInt) → (701 - x28102452.toInt).toNat < n → va_P D vwCl [(q1, .inl (T 3, 6, .inl gq1)), (a, .inr (11, OX z i1 x28102270 i3 i4 i5 i6 i7 i8 i30 i43 i45 i46 i47 i48 i49 i50 i51 i58 i59 i65 i68 i69 i72 i78 i80 i81 i82 i87 i92 i96 i100 i103 i104)), ((z 0), .inl (T 0, 700, .inl g0))] H → va_D A [(q1, .inl (T 3, 6, .inl gq1)), (a, .inr (11, OX z i1 x28102270 i3 i4 i5 i6 i7 i8 i30 i43 i45 i46 i47 i48 i49 i50 i51 i58 i59 i65 i68 i69 i72 i78 i80 i81 i82 i87 i92 i96 i100 i103 i104)), ((z 0), .inl (T 0, 700, .inl g0))] → va_S A s.heap H locs → lv_has ls 4 [(2, .int x28102452), (0, .ref a), (1, .ref q1)] → W p l e { frames := 1, cells := 0, slots := 0, locals := 20 } s m args below meth c H locs 0 0 (MQ below ((Qi (S := Int32) (fun (r : Int32) (ui2 : Int32) => (0 ≤ ui2.toInt ∧ ui2.toInt ≤ 700) ∧ (i2.toInt ≤ ui2.toInt) ∧ (((r.toInt = 0 ∧ i2.toInt ≤ ui2.toInt)) ∨ ((r.toInt = 1 ∧ i2.toInt ≤ ui2.toInt ∧ ui2.toInt + 6 ≤ i3.toInt ∧ i5.toInt = 0))) ∧ (0 ≤ r.toInt ∧ r.toInt ≤ 1)) (fun (ui2 : Int32) => [(a, .inr (11, OX z i1 ui2 i3 i4 i5 i6 i7 i8 i30 i43 i45 i46 i47 i48 i49 i50 i51 i58 i59 i65 i68 i69 i72 i78 i80 i81 i82 i87 i92 i96 i100 i103 i104)), (q1, .inl (T 3, 6, .inl gq1)), ((z 0), .inl (T 0, 700, .inl g0))]) D) A) args s 0 0 A) (F0 m 35 ls []) := by
            intro n
            induction n with
            | zero =>
              intro x28102452 H locs ls hx28102452 hr28102462 hms hP hD hS hl
              exact absurd hms (Nat.not_lt_zero _)
            | succ n ih28102463 =>
              intro x28102452 H locs ls hx28102452 hr28102462 hms hP hD hS hl
              refine lv_iload_n hx hb dX11_isHere_35 rfl (lv_at hl 0 rfl) ?_
              refine lv_aload_n hx hb dX11_isHere_36 rfl (lv_at hl 1 rfl) ?_
              refine r_get (v := .int i3) C0 hE ffX11_3 mw_793 hP 1 rfl ox_3 dX11_isHere_37 ?_
              refine lv_icmp_ge (tgt := 61) hx hb dX11_isHere_40 (by decide) (fun c28102464 => ?_) (fun c28102464 => ?_)
              · skip
                have kc28102464 : i3.toInt ≤ x28102452.toInt := le_ti rfl rfl c28102464
                refine lv_iload_n hx hb dX11_isHere_61 rfl (lv_at hl 0 rfl) ?_
                refine lv_aload_n hx hb dX11_isHere_62 rfl (lv_at hl 1 rfl) ?_
                refine r_get (v := .int x28102270) C0 hE ffX11_2 mw_792 hP 1 rfl ox_2 dX11_isHere_63 ?_
                refine lv_isub hx hb dX11_isHere_66 ?_
                refine lv_topi (fun x28102465 ex28102465 => ?_)
                have hx28102465 : x28102465.toInt = x28102452.toInt - x28102270.toInt := ti_sub ex28102465 rfl rfl (by omega) (by omega)
                refine lv_aload_n hx hb dX11_isHere_67 rfl (lv_at hl 2 rfl) ?_
                refine va_alen (v := 6) hx hb hK hP 0 3 rfl rfl rfl dX11_isHere_68 ?_
                refine lv_icmp_eq (tgt := 74) hx hb dX11_isHere_69 (by decide) (fun c28102466 => ?_) (fun c28102466 => ?_)
                · skip
                  have kc28102466 : x28102465.toInt = 6 := eq_ti rfl (by decide) c28102466
                  refine lv_iconst (v := 0) hx hb dX11_isHere_74 (by decide) ?_
                  refine lv_istore_n (lv' := [(3, .int 0), (2, .int x28102452), (0, .ref a), (1, .ref q1)]) hx hb dX11_isHere_75 rfl hl (by decide) rfl (fun ls hl => ?_)
                  have L28102513 : ∀ (n : Nat) (x28102506 : Int32) (H : Heap) (locs : List Loc) (ls : Array Slot), (0 ≤ x28102506.toInt ∧ x28102506.toInt ≤ 6) → (7 - x28102506.toInt).toNat < n → va_P D vwCl [(q1, .inl (T 3, 6, .inl gq1)), (a, .inr (11, OX z i1 x28102270 i3 i4 i5 i6 i7 i8 i30 i43 i45 i46 i47 i48 i49 i50 i51 i58 i59 i65 i68 i69 i72 i78 i80 i81 i82 i87 i92 i96 i100 i103 i104)), ((z 0), .inl (T 0, 700, .inl g0))] H → va_D A [(q1, .inl (T 3, 6, .inl gq1)), (a, .inr (11, OX z i1 x28102270 i3 i4 i5 i6 i7 i8 i30 i43 i45 i46 i47 i48 i49 i50 i51 i58 i59 i65 i68 i69 i72 i78 i80 i81 i82 i87 i92 i96 i100 i103 i104)), ((z 0), .inl (T 0, 700, .inl g0))] → va_S A s.heap H locs → lv_has ls 4 [(3, .int x28102506), (2, .int x28102452), (0, .ref a), (1, .ref q1)] → W p l e { frames := 1, cells := 0, slots := 0, locals := 20 } s m args below meth c H locs 0 0 (MQ below ((Qi (S := Int32) (fun (r : Int32) (ui2 : Int32) => (0 ≤ ui2.toInt ∧ ui2.toInt ≤ 700) ∧ (i2.toInt ≤ ui2.toInt) ∧ (((r.toInt = 0 ∧ i2.toInt ≤ ui2.toInt)) ∨ ((r.toInt = 1 ∧ i2.toInt ≤ ui2.toInt ∧ ui2.toInt + 6 ≤ i3.toInt ∧ i5.toInt = 0))) ∧ (0 ≤ r.toInt ∧ r.toInt ≤ 1)) (fun (ui2 : Int32) => [(a, .inr (11, OX z i1 ui2 i3 i4 i5 i6 i7 i8 i30 i43 i45 i46 i47 i48 i49 i50 i51 i58 i59 i65 i68 i69 i72 i78 i80 i81 i82 i87 i92 i96 i100 i103 i104)), (q1, .inl (T 3, 6, .inl gq1)), ((z 0), .inl (T 0, 700, .inl g0))]) D) A) args s 0 0 A) (F0 m 76 ls []) := by
                    intro n
                    induction n with
                    | zero =>
                      intro x28102506 H locs ls hx28102506 hms hP hD hS hl
                      exact absurd hms (Nat.not_lt_zero _)
                    | succ n ih28102514 =>
                      intro x28102506 H locs ls hx28102506 hms hP hD hS hl
                      refine lv_iload_n hx hb dX11_isHere_76 rfl (lv_at hl 0 rfl) ?_
                      refine lv_aload_n hx hb dX11_isHere_77 rfl (lv_at hl 3 rfl) ?_
                      refine va_alen (v := 6) hx hb hK hP 0 3 rfl rfl rfl dX11_isHere_78 ?_
                      refine lv_icmp_ge (tgt := 107) hx hb dX11_isHere_79 (by decide) (fun c28102515 => ?_) (fun c28102515 => ?_)
                      · skip
                        have kc28102515 : 6 ≤ x28102506.toInt := le_ti (by decide) rfl c28102515
                        refine lv_iconst (v := 1) hx hb dX11_isHere_107 (by decide) ?_
                        have hl28102516 : (1 : Int32).toInt = 1 := by decide
                        have hl28102517 : (1 : Int32).toInt = 1 := by decide
                        exact r_zret (x28102270 : Int32) C0 hr (by decide +kernel) hlocks hS (Nat.le_refl _) (Nat.le_refl _) dX11_isHere_108 ⟨⟨by omega, by omega⟩, (by omega), (Or.inr (by omega)), ⟨by decide, by decide⟩⟩ (hP.sub (ws' := [(a, .inr (11, OX z i1 x28102270 i3 i4 i5 i6 i7 i8 i30 i43 i45 i46 i47 i48 i49 i50 i51 i58 i59 i65 i68 i69 i72 i78 i80 i81 i82 i87 i92 i96 i100 i103 i104)), (q1, .inl (T 3, 6, .inl gq1)), ((z 0), .inl (T 0, 700, .inl g0))]) [1, 0, 2] rfl) (hD.sub (ws' := [(a, .inr (11, OX z i1 x28102270 i3 i4 i5 i6 i7 i8 i30 i43 i45 i46 i47 i48 i49 i50 i51 i58 i59 i65 i68 i69 i72 i78 i80 i81 i82 i87 i92 i96 i100 i103 i104)), (q1, .inl (T 3, 6, .inl gq1)), ((z 0), .inl (T 0, 700, .inl g0))]) [1, 0, 2] (by decide +kernel) rfl)
                      · skip
                        have kc28102515 : x28102506.toInt < 6 := nle_ti (by decide) rfl c28102515
                        refine lv_aload_n hx hb dX11_isHere_82 rfl (lv_at hl 2 rfl) ?_
                        refine r_get (v := .ref (z 0)) C0 hE ffX11_0 mw_790 hP 1 rfl ox_0 dX11_isHere_83 ?_
                        refine lv_aload_n hx hb dX11_isHere_86 rfl (lv_at hl 2 rfl) ?_
                        refine r_get (v := .int x28102270) C0 hE ffX11_2 mw_792 hP 1 rfl ox_2 dX11_isHere_87 ?_
                        refine lv_iload_n hx hb dX11_isHere_90 rfl (lv_at hl 0 rfl) ?_
                        refine lv_iadd hx hb dX11_isHere_91 ?_
                        refine lv_topi (fun x28102518 ex28102518 => ?_)
                        have hx28102518 : x28102518.toInt = x28102270.toInt + x28102506.toInt := ti_add ex28102518 rfl rfl (by omega) (by omega)
                        refine va_iald hx hb hK hP 2 0 rfl rfl (in_ti rfl (by omega) (by omega)) dX11_isHere_92 ?_
                        refine lv_topi (fun x28102519 ex28102519 => ?_)
                        have tx28102519 : x28102519.toInt = (g0 (Int32.toNatClampNeg x28102518)).toInt := by rw [ex28102519]
                        refine lv_aload_n hx hb dX11_isHere_93 rfl (lv_at hl 3 rfl) ?_
                        refine lv_iload_n hx hb dX11_isHere_94 rfl (lv_at hl 0 rfl) ?_
                        refine va_cald hx hb hK hP 0 3 rfl rfl (in_ti rfl (by omega) (by omega)) dX11_isHere_95 ?_
                        refine lv_topi (fun x28102520 ex28102520 => ?_)
                        refine lv_icmp_eq (tgt := 101) hx hb dX11_isHere_96 (by decide) (fun c28102521 => ?_) (fun c28102521 => ?_)
                        · skip
                          have kc28102521 : x28102519.toInt = x28102520.toInt := eq_ti rfl rfl c28102521
                          obtain ⟨x28102522, ex28102522⟩ : ∃ y : Int32, y = x28102506 + 1 := ⟨_, rfl⟩
                          have hx28102522 : x28102522.toInt = x28102506.toInt + 1 := ti_add ex28102522 rfl (by decide) (by omega) (by omega)
                          refine lv_iinc (v := x28102522) (lv' := [(3, .int x28102522), (2, .int x28102452), (0, .ref a), (1, .ref q1)]) hx hb dX11_isHere_101 hl (k := 0) rfl (by rw [ex28102522]; rfl) (by decide) rfl (fun ls hl => ?_)
                          refine lv_goto (tgt := 76) hx hb dX11_isHere_104 (by decide) ?_
                          exact ih28102514 x28102522 _ _ ls ⟨by omega, by omega⟩ (by omega) (hP.sub (ws' := [(q1, .inl (T 3, 6, .inl gq1)), (a, .inr (11, OX z i1 x28102270 i3 i4 i5 i6 i7 i8 i30 i43 i45 i46 i47 i48 i49 i50 i51 i58 i59 i65 i68 i69 i72 i78 i80 i81 i82 i87 i92 i96 i100 i103 i104)), ((z 0), .inl (T 0, 700, .inl g0))]) [0, 1, 2] rfl) (hD.sub (ws' := [(q1, .inl (T 3, 6, .inl gq1)), (a, .inr (11, OX z i1 x28102270 i3 i4 i5 i6 i7 i8 i30 i43 i45 i46 i47 i48 i49 i50 i51 i58 i59 i65 i68 i69 i72 i78 i80 i81 i82 i87 i92 i96 i100 i103 i104)), ((z 0), .inl (T 0, 700, .inl g0))]) [0, 1, 2] (by decide +kernel) rfl) hS (lv_sub hl [0, 1, 2, 3] rfl)
                        · skip
                          have kc28102521 : x28102519.toInt ≠ x28102520.toInt := ne_ti rfl rfl c28102521
                          refine lv_iconst (v := 0) hx hb dX11_isHere_99 (by decide) ?_
                          have hl28102523 : (0 : Int32).toInt = 0 := by decide
                          have hl28102524 : (0 : Int32).toInt = 0 := by decide
                          exact r_zret (x28102270 : Int32) C0 hr (by decide +kernel) hlocks hS (Nat.le_refl _) (Nat.le_refl _) dX11_isHere_100 ⟨⟨by omega, by omega⟩, (by omega), (Or.inl (by omega)), ⟨by decide, by decide⟩⟩ (hP.sub (ws' := [(a, .inr (11, OX z i1 x28102270 i3 i4 i5 i6 i7 i8 i30 i43 i45 i46 i47 i48 i49 i50 i51 i58 i59 i65 i68 i69 i72 i78 i80 i81 i82 i87 i92 i96 i100 i103 i104)), (q1, .inl (T 3, 6, .inl gq1)), ((z 0), .inl (T 0, 700, .inl g0))]) [1, 0, 2] rfl) (hD.sub (ws' := [(a, .inr (11, OX z i1 x28102270 i3 i4 i5 i6 i7 i8 i30 i43 i45 i46 i47 i48 i49 i50 i51 i58 i59 i65 i68 i69 i72 i78 i80 i81 i82 i87 i92 i96 i100 i103 i104)), (q1, .inl (T 3, 6, .inl gq1)), ((z 0), .inl (T 0, 700, .inl g0))]) [1, 0, 2] (by decide +kernel) rfl)
                  exact L28102513 _ 0 _ _ ls ⟨by decide, by decide⟩ (Nat.lt_succ_self _) (hP.sub (ws' := [(q1, .inl (T 3, 6, .inl gq1)), (a, .inr (11, OX z i1 x28102270 i3 i4 i5 i6 i7 i8 i30 i43 i45 i46 i47 i48 i49 i50 i51 i58 i59 i65 i68 i69 i72 i78 i80 i81 i82 i87 i92 i96 i100 i103 i104)), ((z 0), .inl (T 0, 700, .inl g0))]) [0, 1, 2] rfl) (hD.sub (ws' := [(q1, .inl (T 3, 6, .inl gq1)), (a, .inr (11, OX z i1 x28102270 i3 i4 i5 i6 i7 i8 i30 i43 i45 i46 i47 i48 i49 i50 i51 i58 i59 i65 i68 i69 i72 i78 i80 i81 i82 i87 i92 i96 i100 i103 i104)), ((z 0), .inl (T 0, 700, .inl g0))]) [0, 1, 2] (by decide +kernel) rfl) hS (lv_sub hl [0, 1, 2, 3] rfl)
                · skip
                  have kc28102466 : x28102465.toInt ≠ 6 := ne_ti rfl (by decide) c28102466
                  refine lv_iconst (v := 0) hx hb dX11_isHere_72 (by decide) ?_
                  have hl28102525 : (0 : Int32).toInt = 0 := by decide
                  have hl28102526 : (0 : Int32).toInt = 0 := by decide
                  exact r_zret (x28102270 : Int32) C0 hr (by decide +kernel) hlocks hS (Nat.le_refl _) (Nat.le_refl _) dX11_isHere_73 ⟨⟨by omega, by omega⟩, (by omega), (Or.inl (by omega)), ⟨by decide, by decide⟩⟩ (hP.sub (ws' := [(a, .inr (11, OX z i1 x28102270 i3 i4 i5 i6 i7 i8 i30 i43 i45 i46 i47 i48 i49 i50 i51 i58 i59 i65 i68 i69 i72 i78 i80 i81 i82 i87 i92 i96 i100 i103 i104)), (q1, .inl (T 3, 6, .inl gq1)), ((z 0), .inl (T 0, 700, .inl g0))]) [1, 0, 2] rfl) (hD.sub (ws' := [(a, .inr (11, OX z i1 x28102270 i3 i4 i5 i6 i7 i8 i30 i43 i45 i46 i47 i48 i49 i50 i51 i58 i59 i65 i68 i69 i72 i78 i80 i81 i82 i87 i92 i96 i100 i103 i104)), (q1, .inl (T 3, 6, .inl gq1)), ((z 0), .inl (T 0, 700, .inl g0))]) [1, 0, 2] (by decide +kernel) rfl)
              · skip
                have kc28102464 : x28102452.toInt < i3.toInt := nle_ti rfl rfl c28102464
                refine lv_aload_n hx hb dX11_isHere_43 rfl (lv_at hl 1 rfl) ?_
                refine r_get (v := .ref (z 0)) C0 hE ffX11_0 mw_790 hP 1 rfl ox_0 dX11_isHere_44 ?_
                refine lv_iload_n hx hb dX11_isHere_47 rfl (lv_at hl 0 rfl) ?_
                refine va_iald hx hb hK hP 2 0 rfl rfl (in_ti rfl (by omega) (by omega)) dX11_isHere_48 ?_
                refine lv_topi (fun x28102527 ex28102527 => ?_)
                have tx28102527 : x28102527.toInt = (g0 (Int32.toNatClampNeg x28102452)).toInt := by rw [ex28102527]
                refine r_calli (wr := [(q1, .inl (T 3, 6, .inl gq1)), (a, .inr (11, OX z i1 x28102270 i3 i4 i5 i6 i7 i8 i30 i43 i45 i46 i47 i48 i49 i50 i51 i58 i59 i65 i68 i69 i72 i78 i80 i81 i82 i87 i92 i96 i100 i103 i104)), ((z 0), .inl (T 0, 700, .inl g0))]) (r_runS2 (As := [.int x28102527]) (rest := []) (wc := []) C0 hE hStr hS (va_free (wc := []) hD hS hA [] rfl) (h_X11_isLetter_20100005 l D T sq sv H.size x28102527) mw_928 mw_929 mw_14 mw_930 dn_1708 rfl rfl ⟨Nat.le_of_ble_eq_true rfl, Nat.le_of_ble_eq_true rfl⟩ (hP.sub (ws' := []) [] rfl) (hD.sub (ws' := []) [] (by decide +kernel) rfl) hl.1 rfl (Nat.le_of_ble_eq_true rfl) dX11_isHere_49 ⟨Nat.le_of_ble_eq_true rfl, Nat.le_of_ble_eq_true rfl⟩) hP hD hS hA [] [0, 1, 2] rfl rfl (by decide +kernel) (by decide +kernel) (fun x28102528 u H locs hq hP hD hS => ?_)
                obtain ⟨hAlt, hx28102528⟩ := hq
                have hx28102528 : 0 ≤ x28102528.toInt ∧ x28102528.toInt ≤ 1 := hx28102528
                have hP : va_P D vwCl [(q1, .inl (T 3, 6, .inl gq1)), (a, .inr (11, OX z i1 x28102270 i3 i4 i5 i6 i7 i8 i30 i43 i45 i46 i47 i48 i49 i50 i51 i58 i59 i65 i68 i69 i72 i78 i80 i81 i82 i87 i92 i96 i100 i103 i104)), ((z 0), .inl (T 0, 700, .inl g0))] H := hP
                have hD : va_D A [(q1, .inl (T 3, 6, .inl gq1)), (a, .inr (11, OX z i1 x28102270 i3 i4 i5 i6 i7 i8 i30 i43 i45 i46 i47 i48 i49 i50 i51 i58 i59 i65 i68 i69 i72 i78 i80 i81 i82 i87 i92 i96 i100 i103 i104)), ((z 0), .inl (T 0, 700, .inl g0))] := hD
                rcases hAlt with hAlt | hAlt
                · skip
                  have hp28102529 := hAlt
                  have hp28102529 : x28102528.toInt = 0 := hp28102529
                  clear hAlt
                  refine W.widen (k := 0) (n := 0) (Nat.le_refl _) (Nat.le_refl _) ?_
                  refine lv_if_eq (tgt := 61) hx hb dX11_isHere_52 (by decide) (fun c28102530 => ?_) (fun hc => by have hf : x28102528.toInt ≠ 0 := ne_ti rfl (by decide) hc; omega)
                  have kc28102530 : x28102528.toInt = 0 := eq_ti rfl (by decide) c28102530
                  refine lv_iload_n hx hb dX11_isHere_61 rfl (lv_at hl 0 rfl) ?_
                  refine lv_aload_n hx hb dX11_isHere_62 rfl (lv_at hl 1 rfl) ?_
                  refine r_get (v := .int x28102270) C0 hE ffX11_2 mw_792 hP 1 rfl ox_2 dX11_isHere_63 ?_
                  refine lv_isub hx hb dX11_isHere_66 ?_
                  refine lv_topi (fun x28102531 ex28102531 => ?_)
                  have hx28102531 : x28102531.toInt = x28102452.toInt - x28102270.toInt := ti_sub ex28102531 rfl rfl (by omega) (by omega)
                  refine lv_aload_n hx hb dX11_isHere_67 rfl (lv_at hl 2 rfl) ?_
                  refine va_alen (v := 6) hx hb hK hP 0 3 rfl rfl rfl dX11_isHere_68 ?_
                  refine lv_icmp_eq (tgt := 74) hx hb dX11_isHere_69 (by decide) (fun c28102532 => ?_) (fun c28102532 => ?_)
                  · skip
                    have kc28102532 : x28102531.toInt = 6 := eq_ti rfl (by decide) c28102532
                    refine lv_iconst (v := 0) hx hb dX11_isHere_74 (by decide) ?_
                    refine lv_istore_n (lv' := [(3, .int 0), (2, .int x28102452), (0, .ref a), (1, .ref q1)]) hx hb dX11_isHere_75 rfl hl (by decide) rfl (fun ls hl => ?_)
                    have L28102579 : ∀ (n : Nat) (x28102572 : Int32) (H : Heap) (locs : List Loc) (ls : Array Slot), (0 ≤ x28102572.toInt ∧ x28102572.toInt ≤ 6) → (7 - x28102572.toInt).toNat < n → va_P D vwCl [(q1, .inl (T 3, 6, .inl gq1)), (a, .inr (11, OX z i1 x28102270 i3 i4 i5 i6 i7 i8 i30 i43 i45 i46 i47 i48 i49 i50 i51 i58 i59 i65 i68 i69 i72 i78 i80 i81 i82 i87 i92 i96 i100 i103 i104)), ((z 0), .inl (T 0, 700, .inl g0))] H → va_D A [(q1, .inl (T 3, 6, .inl gq1)), (a, .inr (11, OX z i1 x28102270 i3 i4 i5 i6 i7 i8 i30 i43 i45 i46 i47 i48 i49 i50 i51 i58 i59 i65 i68 i69 i72 i78 i80 i81 i82 i87 i92 i96 i100 i103 i104)), ((z 0), .inl (T 0, 700, .inl g0))] → va_S A s.heap H locs → lv_has ls 4 [(3, .int x28102572), (2, .int x28102452), (0, .ref a), (1, .ref q1)] → W p l e { frames := 1, cells := 0, slots := 0, locals := 20 } s m args below meth c H locs 0 0 (MQ below ((Qi (S := Int32) (fun (r : Int32) (ui2 : Int32) => (0 ≤ ui2.toInt ∧ ui2.toInt ≤ 700) ∧ (i2.toInt ≤ ui2.toInt) ∧ (((r.toInt = 0 ∧ i2.toInt ≤ ui2.toInt)) ∨ ((r.toInt = 1 ∧ i2.toInt ≤ ui2.toInt ∧ ui2.toInt + 6 ≤ i3.toInt ∧ i5.toInt = 0))) ∧ (0 ≤ r.toInt ∧ r.toInt ≤ 1)) (fun (ui2 : Int32) => [(a, .inr (11, OX z i1 ui2 i3 i4 i5 i6 i7 i8 i30 i43 i45 i46 i47 i48 i49 i50 i51 i58 i59 i65 i68 i69 i72 i78 i80 i81 i82 i87 i92 i96 i100 i103 i104)), (q1, .inl (T 3, 6, .inl gq1)), ((z 0), .inl (T 0, 700, .inl g0))]) D) A) args s 0 0 A) (F0 m 76 ls []) := by
                      intro n
                      induction n with
                      | zero =>
                        intro x28102572 H locs ls hx28102572 hms hP hD hS hl
                        exact absurd hms (Nat.not_lt_zero _)
                      | succ n ih28102580 =>
                        intro x28102572 H locs ls hx28102572 hms hP hD hS hl
                        refine lv_iload_n hx hb dX11_isHere_76 rfl (lv_at hl 0 rfl) ?_
                        refine lv_aload_n hx hb dX11_isHere_77 rfl (lv_at hl 3 rfl) ?_
                        refine va_alen (v := 6) hx hb hK hP 0 3 rfl rfl rfl dX11_isHere_78 ?_
                        refine lv_icmp_ge (tgt := 107) hx hb dX11_isHere_79 (by decide) (fun c28102581 => ?_) (fun c28102581 => ?_)
                        · skip
                          have kc28102581 : 6 ≤ x28102572.toInt := le_ti (by decide) rfl c28102581
                          refine lv_iconst (v := 1) hx hb dX11_isHere_107 (by decide) ?_
                          have hl28102582 : (1 : Int32).toInt = 1 := by decide
                          have hl28102583 : (1 : Int32).toInt = 1 := by decide
                          exact r_zret (x28102270 : Int32) C0 hr (by decide +kernel) hlocks hS (Nat.le_refl _) (Nat.le_refl _) dX11_isHere_108 ⟨⟨by omega, by omega⟩, (by omega), (Or.inr (by omega)), ⟨by decide, by decide⟩⟩ (hP.sub (ws' := [(a, .inr (11, OX z i1 x28102270 i3 i4 i5 i6 i7 i8 i30 i43 i45 i46 i47 i48 i49 i50 i51 i58 i59 i65 i68 i69 i72 i78 i80 i81 i82 i87 i92 i96 i100 i103 i104)), (q1, .inl (T 3, 6, .inl gq1)), ((z 0), .inl (T 0, 700, .inl g0))]) [1, 0, 2] rfl) (hD.sub (ws' := [(a, .inr (11, OX z i1 x28102270 i3 i4 i5 i6 i7 i8 i30 i43 i45 i46 i47 i48 i49 i50 i51 i58 i59 i65 i68 i69 i72 i78 i80 i81 i82 i87 i92 i96 i100 i103 i104)), (q1, .inl (T 3, 6, .inl gq1)), ((z 0), .inl (T 0, 700, .inl g0))]) [1, 0, 2] (by decide +kernel) rfl)
                        · skip
                          have kc28102581 : x28102572.toInt < 6 := nle_ti (by decide) rfl c28102581
                          refine lv_aload_n hx hb dX11_isHere_82 rfl (lv_at hl 2 rfl) ?_
                          refine r_get (v := .ref (z 0)) C0 hE ffX11_0 mw_790 hP 1 rfl ox_0 dX11_isHere_83 ?_
                          refine lv_aload_n hx hb dX11_isHere_86 rfl (lv_at hl 2 rfl) ?_
                          refine r_get (v := .int x28102270) C0 hE ffX11_2 mw_792 hP 1 rfl ox_2 dX11_isHere_87 ?_
                          refine lv_iload_n hx hb dX11_isHere_90 rfl (lv_at hl 0 rfl) ?_
                          refine lv_iadd hx hb dX11_isHere_91 ?_
                          refine lv_topi (fun x28102584 ex28102584 => ?_)
                          have hx28102584 : x28102584.toInt = x28102270.toInt + x28102572.toInt := ti_add ex28102584 rfl rfl (by omega) (by omega)
                          refine va_iald hx hb hK hP 2 0 rfl rfl (in_ti rfl (by omega) (by omega)) dX11_isHere_92 ?_
                          refine lv_topi (fun x28102585 ex28102585 => ?_)
                          have tx28102585 : x28102585.toInt = (g0 (Int32.toNatClampNeg x28102584)).toInt := by rw [ex28102585]
                          refine lv_aload_n hx hb dX11_isHere_93 rfl (lv_at hl 3 rfl) ?_
                          refine lv_iload_n hx hb dX11_isHere_94 rfl (lv_at hl 0 rfl) ?_
                          refine va_cald hx hb hK hP 0 3 rfl rfl (in_ti rfl (by omega) (by omega)) dX11_isHere_95 ?_
                          refine lv_topi (fun x28102586 ex28102586 => ?_)
                          refine lv_icmp_eq (tgt := 101) hx hb dX11_isHere_96 (by decide) (fun c28102587 => ?_) (fun c28102587 => ?_)
                          · skip
                            have kc28102587 : x28102585.toInt = x28102586.toInt := eq_ti rfl rfl c28102587
                            obtain ⟨x28102588, ex28102588⟩ : ∃ y : Int32, y = x28102572 + 1 := ⟨_, rfl⟩
                            have hx28102588 : x28102588.toInt = x28102572.toInt + 1 := ti_add ex28102588 rfl (by decide) (by omega) (by omega)
                            refine lv_iinc (v := x28102588) (lv' := [(3, .int x28102588), (2, .int x28102452), (0, .ref a), (1, .ref q1)]) hx hb dX11_isHere_101 hl (k := 0) rfl (by rw [ex28102588]; rfl) (by decide) rfl (fun ls hl => ?_)
                            refine lv_goto (tgt := 76) hx hb dX11_isHere_104 (by decide) ?_
                            exact ih28102580 x28102588 _ _ ls ⟨by omega, by omega⟩ (by omega) (hP.sub (ws' := [(q1, .inl (T 3, 6, .inl gq1)), (a, .inr (11, OX z i1 x28102270 i3 i4 i5 i6 i7 i8 i30 i43 i45 i46 i47 i48 i49 i50 i51 i58 i59 i65 i68 i69 i72 i78 i80 i81 i82 i87 i92 i96 i100 i103 i104)), ((z 0), .inl (T 0, 700, .inl g0))]) [0, 1, 2] rfl) (hD.sub (ws' := [(q1, .inl (T 3, 6, .inl gq1)), (a, .inr (11, OX z i1 x28102270 i3 i4 i5 i6 i7 i8 i30 i43 i45 i46 i47 i48 i49 i50 i51 i58 i59 i65 i68 i69 i72 i78 i80 i81 i82 i87 i92 i96 i100 i103 i104)), ((z 0), .inl (T 0, 700, .inl g0))]) [0, 1, 2] (by decide +kernel) rfl) hS (lv_sub hl [0, 1, 2, 3] rfl)
                          · skip
                            have kc28102587 : x28102585.toInt ≠ x28102586.toInt := ne_ti rfl rfl c28102587
                            refine lv_iconst (v := 0) hx hb dX11_isHere_99 (by decide) ?_
                            have hl28102589 : (0 : Int32).toInt = 0 := by decide
                            have hl28102590 : (0 : Int32).toInt = 0 := by decide
                            exact r_zret (x28102270 : Int32) C0 hr (by decide +kernel) hlocks hS (Nat.le_refl _) (Nat.le_refl _) dX11_isHere_100 ⟨⟨by omega, by omega⟩, (by omega), (Or.inl (by omega)), ⟨by decide, by decide⟩⟩ (hP.sub (ws' := [(a, .inr (11, OX z i1 x28102270 i3 i4 i5 i6 i7 i8 i30 i43 i45 i46 i47 i48 i49 i50 i51 i58 i59 i65 i68 i69 i72 i78 i80 i81 i82 i87 i92 i96 i100 i103 i104)), (q1, .inl (T 3, 6, .inl gq1)), ((z 0), .inl (T 0, 700, .inl g0))]) [1, 0, 2] rfl) (hD.sub (ws' := [(a, .inr (11, OX z i1 x28102270 i3 i4 i5 i6 i7 i8 i30 i43 i45 i46 i47 i48 i49 i50 i51 i58 i59 i65 i68 i69 i72 i78 i80 i81 i82 i87 i92 i96 i100 i103 i104)), (q1, .inl (T 3, 6, .inl gq1)), ((z 0), .inl (T 0, 700, .inl g0))]) [1, 0, 2] (by decide +kernel) rfl)
                    exact L28102579 _ 0 _ _ ls ⟨by decide, by decide⟩ (Nat.lt_succ_self _) (hP.sub (ws' := [(q1, .inl (T 3, 6, .inl gq1)), (a, .inr (11, OX z i1 x28102270 i3 i4 i5 i6 i7 i8 i30 i43 i45 i46 i47 i48 i49 i50 i51 i58 i59 i65 i68 i69 i72 i78 i80 i81 i82 i87 i92 i96 i100 i103 i104)), ((z 0), .inl (T 0, 700, .inl g0))]) [0, 1, 2] rfl) (hD.sub (ws' := [(q1, .inl (T 3, 6, .inl gq1)), (a, .inr (11, OX z i1 x28102270 i3 i4 i5 i6 i7 i8 i30 i43 i45 i46 i47 i48 i49 i50 i51 i58 i59 i65 i68 i69 i72 i78 i80 i81 i82 i87 i92 i96 i100 i103 i104)), ((z 0), .inl (T 0, 700, .inl g0))]) [0, 1, 2] (by decide +kernel) rfl) hS (lv_sub hl [0, 1, 2, 3] rfl)
                  · skip
                    have kc28102532 : x28102531.toInt ≠ 6 := ne_ti rfl (by decide) c28102532
                    refine lv_iconst (v := 0) hx hb dX11_isHere_72 (by decide) ?_
                    have hl28102591 : (0 : Int32).toInt = 0 := by decide
                    have hl28102592 : (0 : Int32).toInt = 0 := by decide
                    exact r_zret (x28102270 : Int32) C0 hr (by decide +kernel) hlocks hS (Nat.le_refl _) (Nat.le_refl _) dX11_isHere_73 ⟨⟨by omega, by omega⟩, (by omega), (Or.inl (by omega)), ⟨by decide, by decide⟩⟩ (hP.sub (ws' := [(a, .inr (11, OX z i1 x28102270 i3 i4 i5 i6 i7 i8 i30 i43 i45 i46 i47 i48 i49 i50 i51 i58 i59 i65 i68 i69 i72 i78 i80 i81 i82 i87 i92 i96 i100 i103 i104)), (q1, .inl (T 3, 6, .inl gq1)), ((z 0), .inl (T 0, 700, .inl g0))]) [1, 0, 2] rfl) (hD.sub (ws' := [(a, .inr (11, OX z i1 x28102270 i3 i4 i5 i6 i7 i8 i30 i43 i45 i46 i47 i48 i49 i50 i51 i58 i59 i65 i68 i69 i72 i78 i80 i81 i82 i87 i92 i96 i100 i103 i104)), (q1, .inl (T 3, 6, .inl gq1)), ((z 0), .inl (T 0, 700, .inl g0))]) [1, 0, 2] (by decide +kernel) rfl)
                · skip
                  have hp28102593 := hAlt
                  have hp28102593 : x28102528.toInt = 1 ∧ 97 ≤ x28102527.toInt ∧ x28102527.toInt ≤ 122 := hp28102593
                  clear hAlt
                  refine W.widen (k := 0) (n := 0) (Nat.le_refl _) (Nat.le_refl _) ?_
                  refine lv_if_eq (tgt := 61) hx hb dX11_isHere_52 (by decide) (fun hc => by have hf : x28102528.toInt = 0 := eq_ti rfl (by decide) hc; omega) (fun c28102594 => ?_)
                  have kc28102594 : x28102528.toInt ≠ 0 := ne_ti rfl (by decide) c28102594
                  obtain ⟨x28102595, ex28102595⟩ : ∃ y : Int32, y = x28102452 + 1 := ⟨_, rfl⟩
                  have hx28102595 : x28102595.toInt = x28102452.toInt + 1 := ti_add ex28102595 rfl (by decide) (by omega) (by omega)
                  refine lv_iinc (v := x28102595) (lv' := [(2, .int x28102595), (0, .ref a), (1, .ref q1)]) hx hb dX11_isHere_55 hl (k := 0) rfl (by rw [ex28102595]; rfl) (by decide) rfl (fun ls hl => ?_)
                  refine lv_goto (tgt := 35) hx hb dX11_isHere_58 (by decide) ?_
                  exact ih28102463 x28102595 _ _ ls ⟨by omega, by omega⟩ (by omega) (by omega) (hP.sub (ws' := [(q1, .inl (T 3, 6, .inl gq1)), (a, .inr (11, OX z i1 x28102270 i3 i4 i5 i6 i7 i8 i30 i43 i45 i46 i47 i48 i49 i50 i51 i58 i59 i65 i68 i69 i72 i78 i80 i81 i82 i87 i92 i96 i100 i103 i104)), ((z 0), .inl (T 0, 700, .inl g0))]) [0, 1, 2] rfl) (hD.sub (ws' := [(q1, .inl (T 3, 6, .inl gq1)), (a, .inr (11, OX z i1 x28102270 i3 i4 i5 i6 i7 i8 i30 i43 i45 i46 i47 i48 i49 i50 i51 i58 i59 i65 i68 i69 i72 i78 i80 i81 i82 i87 i92 i96 i100 i103 i104)), ((z 0), .inl (T 0, 700, .inl g0))]) [0, 1, 2] (by decide +kernel) rfl) hS (lv_sub hl [0, 1, 2] rfl)
          exact L28102461 _ x28102270 _ _ ls ⟨by omega, by omega⟩ (by omega) (Nat.lt_succ_self _) (hP.sub (ws' := [(q1, .inl (T 3, 6, .inl gq1)), (a, .inr (11, OX z i1 x28102270 i3 i4 i5 i6 i7 i8 i30 i43 i45 i46 i47 i48 i49 i50 i51 i58 i59 i65 i68 i69 i72 i78 i80 i81 i82 i87 i92 i96 i100 i103 i104)), ((z 0), .inl (T 0, 700, .inl g0))]) [0, 1, 2] rfl) (hD.sub (ws' := [(q1, .inl (T 3, 6, .inl gq1)), (a, .inr (11, OX z i1 x28102270 i3 i4 i5 i6 i7 i8 i30 i43 i45 i46 i47 i48 i49 i50 i51 i58 i59 i65 i68 i69 i72 i78 i80 i81 i82 i87 i92 i96 i100 i103 i104)), ((z 0), .inl (T 0, 700, .inl g0))]) [0, 1, 2] (by decide +kernel) rfl) hS (lv_sub hl [0, 1, 2] rfl)
        · skip
          have kc28102443 : x28102270.toInt = i4.toInt := eq_ti rfl rfl c28102443
          refine lv_iconst (v := 0) hx hb dX11_isHere_28 (by decide) ?_
          have hl28102596 : (0 : Int32).toInt = 0 := by decide
          have hl28102597 : (0 : Int32).toInt = 0 := by decide
          exact r_zret (x28102270 : Int32) C0 hr (by decide +kernel) hlocks hS (Nat.le_refl _) (Nat.le_refl _) dX11_isHere_29 ⟨⟨by omega, by omega⟩, (by omega), (Or.inl (by omega)), ⟨by decide, by decide⟩⟩ (hP.sub (ws' := [(a, .inr (11, OX z i1 x28102270 i3 i4 i5 i6 i7 i8 i30 i43 i45 i46 i47 i48 i49 i50 i51 i58 i59 i65 i68 i69 i72 i78 i80 i81 i82 i87 i92 i96 i100 i103 i104)), (q1, .inl (T 3, 6, .inl gq1)), ((z 0), .inl (T 0, 700, .inl g0))]) [1, 0, 2] rfl) (hD.sub (ws' := [(a, .inr (11, OX z i1 x28102270 i3 i4 i5 i6 i7 i8 i30 i43 i45 i46 i47 i48 i49 i50 i51 i58 i59 i65 i68 i69 i72 i78 i80 i81 i82 i87 i92 i96 i100 i103 i104)), (q1, .inl (T 3, 6, .inl gq1)), ((z 0), .inl (T 0, 700, .inl g0))]) [1, 0, 2] (by decide +kernel) rfl)
