set_option maxHeartbeats 4000000 in
set_option maxRecDepth 100000 in
theorem h_X11_isHere_28101271 (l : Launch) (D : va_G) (T : Nat → ClassId) (sq sv sz : Nat) (a : Nat) (z : Nat → Nat) (i1 i2 i3 i4 i5 i6 i7 i8 i30 i43 i45 i46 i47 i48 i49 i50 i51 i58 i59 i65 i68 i69 i72 i78 i80 i81 i82 i87 i92 i96 i100 i103 i104 : Int32) (q1 : Nat) (gq1 : Nat → Int32) (g0 : Nat → Int32) (hi2 : 0 ≤ i2.toInt ∧ i2.toInt ≤ 700) (hi3 : 0 ≤ i3.toInt ∧ i3.toInt ≤ 700) : Met l yX11_isHere (.code yX11_isHere cX11_isHere 4 (some .boolean) :: TB) { frames := 1, cells := 0, slots := 0, locals := 20 } (PC2 D T sq sv [.ref a, .ref q1] [(a, .inr (11, OX z i1 i2 i3 i4 i5 i6 i7 i8 i30 i43 i45 i46 i47 i48 i49 i50 i51 i58 i59 i65 i68 i69 i72 i78 i80 i81 i82 i87 i92 i96 i100 i103 i104)), (q1, .inl (T 3, 2, .inl gq1)), ((z 0), .inl (T 0, 700, .inl g0))] sz) (Qi (S := Int32) (fun (r : Int32) (ui2 : Int32) => (0 ≤ ui2.toInt ∧ ui2.toInt ≤ 700) ∧ (i2.toInt ≤ ui2.toInt) ∧ (((r.toInt = 0 ∧ i2.toInt ≤ ui2.toInt)) ∨ ((r.toInt = 1 ∧ i2.toInt ≤ ui2.toInt ∧ ui2.toInt + 2 ≤ i3.toInt ∧ i5.toInt = 0))) ∧ (0 ≤ r.toInt ∧ r.toInt ≤ 1)) (fun (ui2 : Int32) => [(a, .inr (11, OX z i1 ui2 i3 i4 i5 i6 i7 i8 i30 i43 i45 i46 i47 i48 i49 i50 i51 i58 i59 i65 i68 i69 i72 i78 i80 i81 i82 i87 i92 i96 i100 i103 i104)), (q1, .inl (T 3, 2, .inl gq1)), ((z 0), .inl (T 0, 700, .inl g0))]) D (va_A [(a, .inr (11, OX z i1 i2 i3 i4 i5 i6 i7 i8 i30 i43 i45 i46 i47 i48 i49 i50 i51 i58 i59 i65 i68 i69 i72 i78 i80 i81 i82 i87 i92 i96 i100 i103 i104)), (q1, .inl (T 3, 2, .inl gq1)), ((z 0), .inl (T 0, 700, .inl g0))] sz)) 0 0 (va_A [(a, .inr (11, OX z i1 i2 i3 i4 i5 i6 i7 i8 i30 i43 i45 i46 i47 i48 i49 i50 i51 i58 i59 i65 i68 i69 i72 i78 i80 i81 i82 i87 i92 i96 i100 i103 i104)), (q1, .inl (T 3, 2, .inl gq1)), ((z 0), .inl (T 0, 700, .inl g0))] sz) := by
  refine ct_begin2 (Qc := Qi (S := Int32) (fun (r : Int32) (ui2 : Int32) => (0 ≤ ui2.toInt ∧ ui2.toInt ≤ 700) ∧ (i2.toInt ≤ ui2.toInt) ∧ (((r.toInt = 0 ∧ i2.toInt ≤ ui2.toInt)) ∨ ((r.toInt = 1 ∧ i2.toInt ≤ ui2.toInt ∧ ui2.toInt + 2 ≤ i3.toInt ∧ i5.toInt = 0))) ∧ (0 ≤ r.toInt ∧ r.toInt ≤ 1)) (fun (ui2 : Int32) => [(a, .inr (11, OX z i1 ui2 i3 i4 i5 i6 i7 i8 i30 i43 i45 i46 i47 i48 i49 i50 i51 i58 i59 i65 i68 i69 i72 i78 i80 i81 i82 i87 i92 i96 i100 i103 i104)), (q1, .inl (T 3, 2, .inl gq1)), ((z 0), .inl (T 0, 700, .inl g0))]) D) (by decide +kernel) (Nat.le_of_ble_eq_true rfl) ?_
  intro p e s m below meth c A ls C0 hr hlocks hnm hE hStr hA hP hD hl
  generalize ([.ref a, .ref q1] : List Value).toArray = args at C0 ⊢
  have hx := C0.1
  have hb := C0.2.1
  have hml := C0.2.2.1
  have hown := C0.2.2.2.1
  have hT := C0.2.2.2.2
  have hK := hE.1
  generalize hH : s.heap = H at hP ⊢
  have hS : va_S A s.heap H [] := by rw [← hH]; exact va_S.rf
  have hP : va_P D vwCl [(a, .inr (11, OX z i1 i2 i3 i4 i5 i6 i7 i8 i30 i43 i45 i46 i47 i48 i49 i50 i51 i58 i59 i65 i68 i69 i72 i78 i80 i81 i82 i87 i92 i96 i100 i103 i104)), (q1, .inl (T 3, 2, .inl gq1)), ((z 0), .inl (T 0, 700, .inl g0))] H := hP
  have hD : va_D A [(a, .inr (11, OX z i1 i2 i3 i4 i5 i6 i7 i8 i30 i43 i45 i46 i47 i48 i49 i50 i51 i58 i59 i65 i68 i69 i72 i78 i80 i81 i82 i87 i92 i96 i100 i103 i104)), (q1, .inl (T 3, 2, .inl gq1)), ((z 0), .inl (T 0, 700, .inl g0))] := hD
  have hl : lv_has ls 4 [(0, .ref a), (1, .ref q1)] := hl
  refine lv_aload_n hx hb dX11_isHere_0 rfl (lv_at hl 0 rfl) ?_
  refine r_get (v := .int i5) C0 hE ffX11_5 mw_795 hP 0 rfl ox_5 dX11_isHere_1 ?_
  refine lv_if_ne (tgt := 28) hx hb dX11_isHere_4 (by decide) (fun c28101272 => ?_) (fun c28101272 => ?_)
  · skip
    have kc28101272 : i5.toInt ≠ 0 := ne_ti rfl (by decide) c28101272
    have nzi5 : ¬ i5 = 0 := c28101272
    refine lv_iconst (v := 0) hx hb dX11_isHere_28 (by decide) ?_
    have hl28101273 : (0 : Int32).toInt = 0 := by decide
    have hl28101274 : (0 : Int32).toInt = 0 := by decide
    exact r_zret (i2 : Int32) C0 hr (by decide +kernel) hlocks hS (Nat.le_refl _) (Nat.le_refl _) dX11_isHere_29 ⟨⟨by omega, by omega⟩, (by omega), (Or.inl (by omega)), ⟨by decide, by decide⟩⟩ (hP.sub (ws' := [(a, .inr (11, OX z i1 i2 i3 i4 i5 i6 i7 i8 i30 i43 i45 i46 i47 i48 i49 i50 i51 i58 i59 i65 i68 i69 i72 i78 i80 i81 i82 i87 i92 i96 i100 i103 i104)), (q1, .inl (T 3, 2, .inl gq1)), ((z 0), .inl (T 0, 700, .inl g0))]) [0, 1, 2] rfl) (hD.sub (ws' := [(a, .inr (11, OX z i1 i2 i3 i4 i5 i6 i7 i8 i30 i43 i45 i46 i47 i48 i49 i50 i51 i58 i59 i65 i68 i69 i72 i78 i80 i81 i82 i87 i92 i96 i100 i103 i104)), (q1, .inl (T 3, 2, .inl gq1)), ((z 0), .inl (T 0, 700, .inl g0))]) [0, 1, 2] (by decide +kernel) rfl)
  · skip
    have kc28101272 : i5.toInt = 0 := eq_ti rfl (by decide) c28101272
    refine lv_aload_n hx hb dX11_isHere_7 rfl (lv_at hl 0 rfl) ?_
    refine r_calli (wr := [(q1, .inl (T 3, 2, .inl gq1))]) (r_runV2 (As := []) (rest := []) (wc := [(a, .inr (11, OX z i1 i2 i3 i4 i5 i6 i7 i8 i30 i43 i45 i46 i47 i48 i49 i50 i51 i58 i59 i65 i68 i69 i72 i78 i80 i81 i82 i87 i92 i96 i100 i103 i104)), ((z 0), .inl (T 0, 700, .inl g0))]) (ci := 11) C0 hE hStr hS (va_free (wc := [(a, .inr (11, OX z i1 i2 i3 i4 i5 i6 i7 i8 i30 i43 i45 i46 i47 i48 i49 i50 i51 i58 i59 i65 i68 i69 i72 i78 i80 i81 i82 i87 i92 i96 i100 i103 i104)), ((z 0), .inl (T 0, 700, .inl g0))]) hD hS hA [0, 2] rfl) (h_X11_look_20600027 l D T sq sv H.size a z i1 i2 i3 i4 i5 i6 i7 i8 i30 i43 i45 i46 i47 i48 i49 i50 i51 i58 i59 i65 i68 i69 i72 i78 i80 i81 i82 i87 i92 i96 i100 i103 i104 g0 ⟨by omega, by omega⟩ ⟨by omega, by omega⟩) mw_913 mw_914 mw_1297 mw_14 mw_915 dn_1710 rfl rfl ⟨Nat.le_of_ble_eq_true rfl, Nat.le_of_ble_eq_true rfl⟩ (hP.sub (ws' := [(a, .inr (11, OX z i1 i2 i3 i4 i5 i6 i7 i8 i30 i43 i45 i46 i47 i48 i49 i50 i51 i58 i59 i65 i68 i69 i72 i78 i80 i81 i82 i87 i92 i96 i100 i103 i104)), ((z 0), .inl (T 0, 700, .inl g0))]) [0, 2] rfl) (hD.sub (ws' := [(a, .inr (11, OX z i1 i2 i3 i4 i5 i6 i7 i8 i30 i43 i45 i46 i47 i48 i49 i50 i51 i58 i59 i65 i68 i69 i72 i78 i80 i81 i82 i87 i92 i96 i100 i103 i104)), ((z 0), .inl (T 0, 700, .inl g0))]) [0, 2] (by decide +kernel) rfl) rfl rfl rfl hl.1 rfl (Nat.le_of_ble_eq_true rfl) dX11_isHere_8 ⟨Nat.le_of_ble_eq_true rfl, Nat.le_of_ble_eq_true rfl⟩) hP hD hS hA [0, 2] [1] rfl rfl (by decide +kernel) (by decide +kernel) (fun x28101275 u H locs hq hP hD hS => ?_)
    obtain ⟨x28101276, rfl⟩ : ∃ y, y = u := ⟨_, rfl⟩
    obtain ⟨hx28101276, hp28101277, hAlt⟩ := hq
    have hx28101276 : 0 ≤ x28101276.toInt ∧ x28101276.toInt ≤ 700 := hx28101276
    have hp28101277 : i2.toInt ≤ x28101276.toInt := hp28101277
    have hP : va_P D vwCl [(q1, .inl (T 3, 2, .inl gq1)), (a, .inr (11, OX z i1 x28101276 i3 i4 i5 i6 i7 i8 i30 i43 i45 i46 i47 i48 i49 i50 i51 i58 i59 i65 i68 i69 i72 i78 i80 i81 i82 i87 i92 i96 i100 i103 i104)), ((z 0), .inl (T 0, 700, .inl g0))] H := hP
    have hD : va_D A [(q1, .inl (T 3, 2, .inl gq1)), (a, .inr (11, OX z i1 x28101276 i3 i4 i5 i6 i7 i8 i30 i43 i45 i46 i47 i48 i49 i50 i51 i58 i59 i65 i68 i69 i72 i78 i80 i81 i82 i87 i92 i96 i100 i103 i104)), ((z 0), .inl (T 0, 700, .inl g0))] := hD
    rcases hAlt with hAlt | hAlt
    · skip
      have hp28101278 := hAlt
      have hp28101278 : x28101275.toInt = -1 ∧ i2.toInt ≤ x28101276.toInt := hp28101278
      clear hAlt
      refine W.widen (k := 0) (n := 0) (Nat.le_refl _) (Nat.le_refl _) ?_
      refine r_calli (wr := [(q1, .inl (T 3, 2, .inl gq1)), (a, .inr (11, OX z i1 x28101276 i3 i4 i5 i6 i7 i8 i30 i43 i45 i46 i47 i48 i49 i50 i51 i58 i59 i65 i68 i69 i72 i78 i80 i81 i82 i87 i92 i96 i100 i103 i104)), ((z 0), .inl (T 0, 700, .inl g0))]) (r_runS2 (As := [.int x28101275]) (rest := []) (wc := []) C0 hE hStr hS (va_free (wc := []) hD hS hA [] rfl) (h_X11_isLetter_20100005 l D T sq sv H.size x28101275) mw_928 mw_929 mw_14 mw_930 dn_1708 rfl rfl ⟨Nat.le_of_ble_eq_true rfl, Nat.le_of_ble_eq_true rfl⟩ (hP.sub (ws' := []) [] rfl) (hD.sub (ws' := []) [] (by decide +kernel) rfl) hl.1 rfl (Nat.le_of_ble_eq_true rfl) dX11_isHere_11 ⟨Nat.le_of_ble_eq_true rfl, Nat.le_of_ble_eq_true rfl⟩) hP hD hS hA [] [0, 1, 2] rfl rfl (by decide +kernel) (by decide +kernel) (fun x28101279 u H locs hq hP hD hS => ?_)
      obtain ⟨hAlt, hx28101279⟩ := hq
      have hx28101279 : 0 ≤ x28101279.toInt ∧ x28101279.toInt ≤ 1 := hx28101279
      have hP : va_P D vwCl [(q1, .inl (T 3, 2, .inl gq1)), (a, .inr (11, OX z i1 x28101276 i3 i4 i5 i6 i7 i8 i30 i43 i45 i46 i47 i48 i49 i50 i51 i58 i59 i65 i68 i69 i72 i78 i80 i81 i82 i87 i92 i96 i100 i103 i104)), ((z 0), .inl (T 0, 700, .inl g0))] H := hP
      have hD : va_D A [(q1, .inl (T 3, 2, .inl gq1)), (a, .inr (11, OX z i1 x28101276 i3 i4 i5 i6 i7 i8 i30 i43 i45 i46 i47 i48 i49 i50 i51 i58 i59 i65 i68 i69 i72 i78 i80 i81 i82 i87 i92 i96 i100 i103 i104)), ((z 0), .inl (T 0, 700, .inl g0))] := hD
      rcases hAlt with hAlt | hAlt
      · skip
        have hp28101280 := hAlt
        have hp28101280 : x28101279.toInt = 0 := hp28101280
        clear hAlt
        refine W.widen (k := 0) (n := 0) (Nat.le_refl _) (Nat.le_refl _) ?_
        refine lv_if_eq (tgt := 28) hx hb dX11_isHere_14 (by decide) (fun c28101281 => ?_) (fun hc => by have hf : x28101279.toInt ≠ 0 := ne_ti rfl (by decide) hc; omega)
        have kc28101281 : x28101279.toInt = 0 := eq_ti rfl (by decide) c28101281
        refine lv_iconst (v := 0) hx hb dX11_isHere_28 (by decide) ?_
        have hl28101282 : (0 : Int32).toInt = 0 := by decide
        have hl28101283 : (0 : Int32).toInt = 0 := by decide
        exact r_zret (x28101276 : Int32) C0 hr (by decide +kernel) hlocks hS (Nat.le_refl _) (Nat.le_refl _) dX11_isHere_29 ⟨⟨by omega, by omega⟩, (by omega), (Or.inl (by omega)), ⟨by decide, by decide⟩⟩ (hP.sub (ws' := [(a, .inr (11, OX z i1 x28101276 i3 i4 i5 i6 i7 i8 i30 i43 i45 i46 i47 i48 i49 i50 i51 i58 i59 i65 i68 i69 i72 i78 i80 i81 i82 i87 i92 i96 i100 i103 i104)), (q1, .inl (T 3, 2, .inl gq1)), ((z 0), .inl (T 0, 700, .inl g0))]) [1, 0, 2] rfl) (hD.sub (ws' := [(a, .inr (11, OX z i1 x28101276 i3 i4 i5 i6 i7 i8 i30 i43 i45 i46 i47 i48 i49 i50 i51 i58 i59 i65 i68 i69 i72 i78 i80 i81 i82 i87 i92 i96 i100 i103 i104)), (q1, .inl (T 3, 2, .inl gq1)), ((z 0), .inl (T 0, 700, .inl g0))]) [1, 0, 2] (by decide +kernel) rfl)
      · skip
        have hp28101284 := hAlt
        have hp28101284 : x28101279.toInt = 1 ∧ 97 ≤ x28101275.toInt ∧ x28101275.toInt ≤ 122 := hp28101284
        clear hAlt
        refine W.widen (k := 0) (n := 0) (Nat.le_refl _) (Nat.le_refl _) ?_
        refine lv_if_eq (tgt := 28) hx hb dX11_isHere_14 (by decide) (fun hc => by have hf : x28101279.toInt = 0 := eq_ti rfl (by decide) hc; omega) (fun c28101285 => ?_)
        have kc28101285 : x28101279.toInt ≠ 0 := ne_ti rfl (by decide) c28101285
        refine lv_aload_n hx hb dX11_isHere_17 rfl (lv_at hl 0 rfl) ?_
        refine r_get (v := .int x28101276) C0 hE ffX11_2 mw_792 hP 1 rfl ox_2 dX11_isHere_18 ?_
        refine lv_aload_n hx hb dX11_isHere_21 rfl (lv_at hl 0 rfl) ?_
        refine r_get (v := .int i4) C0 hE ffX11_4 mw_794 hP 1 rfl ox_4 dX11_isHere_22 ?_
        refine lv_icmp_ne (tgt := 30) hx hb dX11_isHere_25 (by decide) (fun c28101286 => ?_) (fun c28101286 => ?_)
        · skip
          have kc28101286 : x28101276.toInt ≠ i4.toInt := ne_ti rfl rfl c28101286
          refine lv_aload_n hx hb dX11_isHere_30 rfl (lv_at hl 0 rfl) ?_
          refine r_get (v := .int x28101276) C0 hE ffX11_2 mw_792 hP 1 rfl ox_2 dX11_isHere_31 ?_
          refine lv_istore_n (lv' := [(2, .int x28101276), (0, .ref a), (1, .ref q1)]) hx hb dX11_isHere_34 rfl hl (by decide) rfl (fun ls hl => ?_)
          have L28101304 : ∀ (n : Nat) (x28101295 : Int32) (H : Heap) (locs : List Loc) (ls : Array Slot), (0 ≤ x28101295.toInt ∧ x28101295.toInt ≤ 700) → (x28101276.toInt ≤ x28101295.toInt ∧ x28101295.toInt ≤ i3.toInt) → (701 - x28101295.toInt).toNat < n → va_P D vwCl [(q1, .inl (T 3, 2, .inl gq1)), (a, .inr (11, OX z i1 x28101276 i3 i4 i5 i6 i7 i8 i30 i43 i45 i46 i47 i48 i49 i50 i51 i58 i59 i65 i68 i69 i72 i78 i80 i81 i82 i87 i92 i96 i100 i103 i104)), ((z 0), .inl (T 0, 700, .inl g0))] H → va_D A [(q1, .inl (T 3, 2, .inl gq1)), (a, .inr (11, OX z i1 x28101276 i3 i4 i5 i6 i7 i8 i30 i43 i45 i46 i47 i48 i49 i50 i51 i58 i59 i65 i68 i69 i72 i78 i80 i81 i82 i87 i92 i96 i100 i103 i104)), ((z 0), .inl (T 0, 700, .inl g0))] → va_S A s.heap H locs → lv_has ls 4 [(2, .int x28101295), (0, .ref a), (1, .ref q1)] → W p l e { frames := 1, cells := 0, slots := 0, locals := 20 } s m args below meth c H locs 0 0 (MQ below ((Qi (S := Int32) (fun (r : Int32) (ui2 : Int32) => (0 ≤ ui2.toInt ∧ ui2.toInt ≤ 700) ∧ (i2.toInt ≤ ui2.toInt) ∧ (((r.toInt = 0 ∧ i2.toInt ≤ ui2.toInt)) ∨ ((r.toInt = 1 ∧ i2.toInt ≤ ui2.toInt ∧ ui2.toInt + 2 ≤ i3.toInt ∧ i5.toInt = 0))) ∧ (0 ≤ r.toInt ∧ r.toInt ≤ 1)) (fun (ui2 : Int32) => [(a, .inr (11, OX z i1 ui2 i3 i4 i5 i6 i7 i8 i30 i43 i45 i46 i47 i48 i49 i50 i51 i58 i59 i65 i68 i69 i72 i78 i80 i81 i82 i87 i92 i96 i100 i103 i104)), (q1, .inl (T 3, 2, .inl gq1)), ((z 0), .inl (T 0, 700, .inl g0))]) D) A) args s 0 0 A) (F0 m 35 ls []) := by
            intro n
            induction n with
            | zero =>
              intro x28101295 H locs ls hx28101295 hr28101305 hms hP hD hS hl
              exact absurd hms (Nat.not_lt_zero _)
            | succ n ih28101306 =>
              intro x28101295 H locs ls hx28101295 hr28101305 hms hP hD hS hl
              refine lv_iload_n hx hb dX11_isHere_35 rfl (lv_at hl 0 rfl) ?_
              refine lv_aload_n hx hb dX11_isHere_36 rfl (lv_at hl 1 rfl) ?_
              refine r_get (v := .int i3) C0 hE ffX11_3 mw_793 hP 1 rfl ox_3 dX11_isHere_37 ?_
              refine lv_icmp_ge (tgt := 61) hx hb dX11_isHere_40 (by decide) (fun c28101307 => ?_) (fun c28101307 => ?_)
              · skip
                have kc28101307 : i3.toInt ≤ x28101295.toInt := le_ti rfl rfl c28101307
                refine lv_iload_n hx hb dX11_isHere_61 rfl (lv_at hl 0 rfl) ?_
                refine lv_aload_n hx hb dX11_isHere_62 rfl (lv_at hl 1 rfl) ?_
                refine r_get (v := .int x28101276) C0 hE ffX11_2 mw_792 hP 1 rfl ox_2 dX11_isHere_63 ?_
                refine lv_isub hx hb dX11_isHere_66 ?_
                refine lv_topi (fun x28101308 ex28101308 => ?_)
                have hx28101308 : x28101308.toInt = x28101295.toInt - x28101276.toInt := ti_sub ex28101308 rfl rfl (by omega) (by omega)
                refine lv_aload_n hx hb dX11_isHere_67 rfl (lv_at hl 2 rfl) ?_
                refine va_alen (v := 2) hx hb hK hP 0 3 rfl rfl rfl dX11_isHere_68 ?_
                refine lv_icmp_eq (tgt := 74) hx hb dX11_isHere_69 (by decide) (fun c28101309 => ?_) (fun c28101309 => ?_)
                · skip
                  have kc28101309 : x28101308.toInt = 2 := eq_ti rfl (by decide) c28101309
                  refine lv_iconst (v := 0) hx hb dX11_isHere_74 (by decide) ?_
                  refine lv_istore_n (lv' := [(3, .int 0), (2, .int x28101295), (0, .ref a), (1, .ref q1)]) hx hb dX11_isHere_75 rfl hl (by decide) rfl (fun ls hl => ?_)
                  have L28101328 : ∀ (n : Nat) (x28101321 : Int32) (H : Heap) (locs : List Loc) (ls : Array Slot), (0 ≤ x28101321.toInt ∧ x28101321.toInt ≤ 2) → (3 - x28101321.toInt).toNat < n → va_P D vwCl [(q1, .inl (T 3, 2, .inl gq1)), (a, .inr (11, OX z i1 x28101276 i3 i4 i5 i6 i7 i8 i30 i43 i45 i46 i47 i48 i49 i50 i51 i58 i59 i65 i68 i69 i72 i78 i80 i81 i82 i87 i92 i96 i100 i103 i104)), ((z 0), .inl (T 0, 700, .inl g0))] H → va_D A [(q1, .inl (T 3, 2, .inl gq1)), (a, .inr (11, OX z i1 x28101276 i3 i4 i5 i6 i7 i8 i30 i43 i45 i46 i47 i48 i49 i50 i51 i58 i59 i65 i68 i69 i72 i78 i80 i81 i82 i87 i92 i96 i100 i103 i104)), ((z 0), .inl (T 0, 700, .inl g0))] → va_S A s.heap H locs → lv_has ls 4 [(3, .int x28101321), (2, .int x28101295), (0, .ref a), (1, .ref q1)] → W p l e { frames := 1, cells := 0, slots := 0, locals := 20 } s m args below meth c H locs 0 0 (MQ below ((Qi (S := Int32) (fun (r : Int32) (ui2 : Int32) => (0 ≤ ui2.toInt ∧ ui2.toInt ≤ 700) ∧ (i2.toInt ≤ ui2.toInt) ∧ (((r.toInt = 0 ∧ i2.toInt ≤ ui2.toInt)) ∨ ((r.toInt = 1 ∧ i2.toInt ≤ ui2.toInt ∧ ui2.toInt + 2 ≤ i3.toInt ∧ i5.toInt = 0))) ∧ (0 ≤ r.toInt ∧ r.toInt ≤ 1)) (fun (ui2 : Int32) => [(a, .inr (11, OX z i1 ui2 i3 i4 i5 i6 i7 i8 i30 i43 i45 i46 i47 i48 i49 i50 i51 i58 i59 i65 i68 i69 i72 i78 i80 i81 i82 i87 i92 i96 i100 i103 i104)), (q1, .inl (T 3, 2, .inl gq1)), ((z 0), .inl (T 0, 700, .inl g0))]) D) A) args s 0 0 A) (F0 m 76 ls []) := by
                    intro n
                    induction n with
                    | zero =>
                      intro x28101321 H locs ls hx28101321 hms hP hD hS hl
                      exact absurd hms (Nat.not_lt_zero _)
                    | succ n ih28101329 =>
                      intro x28101321 H locs ls hx28101321 hms hP hD hS hl
                      refine lv_iload_n hx hb dX11_isHere_76 rfl (lv_at hl 0 rfl) ?_
                      refine lv_aload_n hx hb dX11_isHere_77 rfl (lv_at hl 3 rfl) ?_
                      refine va_alen (v := 2) hx hb hK hP 0 3 rfl rfl rfl dX11_isHere_78 ?_
                      refine lv_icmp_ge (tgt := 107) hx hb dX11_isHere_79 (by decide) (fun c28101330 => ?_) (fun c28101330 => ?_)
                      · skip
                        have kc28101330 : 2 ≤ x28101321.toInt := le_ti (by decide) rfl c28101330
                        refine lv_iconst (v := 1) hx hb dX11_isHere_107 (by decide) ?_
                        have hl28101331 : (1 : Int32).toInt = 1 := by decide
                        have hl28101332 : (1 : Int32).toInt = 1 := by decide
                        exact r_zret (x28101276 : Int32) C0 hr (by decide +kernel) hlocks hS (Nat.le_refl _) (Nat.le_refl _) dX11_isHere_108 ⟨⟨by omega, by omega⟩, (by omega), (Or.inr (by omega)), ⟨by decide, by decide⟩⟩ (hP.sub (ws' := [(a, .inr (11, OX z i1 x28101276 i3 i4 i5 i6 i7 i8 i30 i43 i45 i46 i47 i48 i49 i50 i51 i58 i59 i65 i68 i69 i72 i78 i80 i81 i82 i87 i92 i96 i100 i103 i104)), (q1, .inl (T 3, 2, .inl gq1)), ((z 0), .inl (T 0, 700, .inl g0))]) [1, 0, 2] rfl) (hD.sub (ws' := [(a, .inr (11, OX z i1 x28101276 i3 i4 i5 i6 i7 i8 i30 i43 i45 i46 i47 i48 i49 i50 i51 i58 i59 i65 i68 i69 i72 i78 i80 i81 i82 i87 i92 i96 i100 i103 i104)), (q1, .inl (T 3, 2, .inl gq1)), ((z 0), .inl (T 0, 700, .inl g0))]) [1, 0, 2] (by decide +kernel) rfl)
                      · skip
                        have kc28101330 : x28101321.toInt < 2 := nle_ti (by decide) rfl c28101330
                        refine lv_aload_n hx hb dX11_isHere_82 rfl (lv_at hl 2 rfl) ?_
                        refine r_get (v := .ref (z 0)) C0 hE ffX11_0 mw_790 hP 1 rfl ox_0 dX11_isHere_83 ?_
                        refine lv_aload_n hx hb dX11_isHere_86 rfl (lv_at hl 2 rfl) ?_
                        refine r_get (v := .int x28101276) C0 hE ffX11_2 mw_792 hP 1 rfl ox_2 dX11_isHere_87 ?_
                        refine lv_iload_n hx hb dX11_isHere_90 rfl (lv_at hl 0 rfl) ?_
                        refine lv_iadd hx hb dX11_isHere_91 ?_
                        refine lv_topi (fun x28101333 ex28101333 => ?_)
                        have hx28101333 : x28101333.toInt = x28101276.toInt + x28101321.toInt := ti_add ex28101333 rfl rfl (by omega) (by omega)
                        refine va_iald hx hb hK hP 2 0 rfl rfl (in_ti rfl (by omega) (by omega)) dX11_isHere_92 ?_
                        refine lv_topi (fun x28101334 ex28101334 => ?_)
                        have tx28101334 : x28101334.toInt = (g0 (Int32.toNatClampNeg x28101333)).toInt := by rw [ex28101334]
                        refine lv_aload_n hx hb dX11_isHere_93 rfl (lv_at hl 3 rfl) ?_
                        refine lv_iload_n hx hb dX11_isHere_94 rfl (lv_at hl 0 rfl) ?_
                        refine va_cald hx hb hK hP 0 3 rfl rfl (in_ti rfl (by omega) (by omega)) dX11_isHere_95 ?_
                        refine lv_topi (fun x28101335 ex28101335 => ?_)
                        refine lv_icmp_eq (tgt := 101) hx hb dX11_isHere_96 (by decide) (fun c28101336 => ?_) (fun c28101336 => ?_)
                        · skip
                          have kc28101336 : x28101334.toInt = x28101335.toInt := eq_ti rfl rfl c28101336
                          obtain ⟨x28101337, ex28101337⟩ : ∃ y : Int32, y = x28101321 + 1 := ⟨_, rfl⟩
                          have hx28101337 : x28101337.toInt = x28101321.toInt + 1 := ti_add ex28101337 rfl (by decide) (by omega) (by omega)
                          refine lv_iinc (v := x28101337) (lv' := [(3, .int x28101337), (2, .int x28101295), (0, .ref a), (1, .ref q1)]) hx hb dX11_isHere_101 hl (k := 0) rfl (by rw [ex28101337]; rfl) (by decide) rfl (fun ls hl => ?_)
                          refine lv_goto (tgt := 76) hx hb dX11_isHere_104 (by decide) ?_
                          exact ih28101329 x28101337 _ _ ls ⟨by omega, by omega⟩ (by omega) (hP.sub (ws' := [(q1, .inl (T 3, 2, .inl gq1)), (a, .inr (11, OX z i1 x28101276 i3 i4 i5 i6 i7 i8 i30 i43 i45 i46 i47 i48 i49 i50 i51 i58 i59 i65 i68 i69 i72 i78 i80 i81 i82 i87 i92 i96 i100 i103 i104)), ((z 0), .inl (T 0, 700, .inl g0))]) [0, 1, 2] rfl) (hD.sub (ws' := [(q1, .inl (T 3, 2, .inl gq1)), (a, .inr (11, OX z i1 x28101276 i3 i4 i5 i6 i7 i8 i30 i43 i45 i46 i47 i48 i49 i50 i51 i58 i59 i65 i68 i69 i72 i78 i80 i81 i82 i87 i92 i96 i100 i103 i104)), ((z 0), .inl (T 0, 700, .inl g0))]) [0, 1, 2] (by decide +kernel) rfl) hS (lv_sub hl [0, 1, 2, 3] rfl)
                        · skip
                          have kc28101336 : x28101334.toInt ≠ x28101335.toInt := ne_ti rfl rfl c28101336
                          refine lv_iconst (v := 0) hx hb dX11_isHere_99 (by decide) ?_
                          have hl28101338 : (0 : Int32).toInt = 0 := by decide
                          have hl28101339 : (0 : Int32).toInt = 0 := by decide
                          exact r_zret (x28101276 : Int32) C0 hr (by decide +kernel) hlocks hS (Nat.le_refl _) (Nat.le_refl _) dX11_isHere_100 ⟨⟨by omega, by omega⟩, (by omega), (Or.inl (by omega)), ⟨by decide, by decide⟩⟩ (hP.sub (ws' := [(a, .inr (11, OX z i1 x28101276 i3 i4 i5 i6 i7 i8 i30 i43 i45 i46 i47 i48 i49 i50 i51 i58 i59 i65 i68 i69 i72 i78 i80 i81 i82 i87 i92 i96 i100 i103 i104)), (q1, .inl (T 3, 2, .inl gq1)), ((z 0), .inl (T 0, 700, .inl g0))]) [1, 0, 2] rfl) (hD.sub (ws' := [(a, .inr (11, OX z i1 x28101276 i3 i4 i5 i6 i7 i8 i30 i43 i45 i46 i47 i48 i49 i50 i51 i58 i59 i65 i68 i69 i72 i78 i80 i81 i82 i87 i92 i96 i100 i103 i104)), (q1, .inl (T 3, 2, .inl gq1)), ((z 0), .inl (T 0, 700, .inl g0))]) [1, 0, 2] (by decide +kernel) rfl)
                  exact L28101328 _ 0 _ _ ls ⟨by decide, by decide⟩ (Nat.lt_succ_self _) (hP.sub (ws' := [(q1, .inl (T 3, 2, .inl gq1)), (a, .inr (11, OX z i1 x28101276 i3 i4 i5 i6 i7 i8 i30 i43 i45 i46 i47 i48 i49 i50 i51 i58 i59 i65 i68 i69 i72 i78 i80 i81 i82 i87 i92 i96 i100 i103 i104)), ((z 0), .inl (T 0, 700, .inl g0))]) [0, 1, 2] rfl) (hD.sub (ws' := [(q1, .inl (T 3, 2, .inl gq1)), (a, .inr (11, OX z i1 x28101276 i3 i4 i5 i6 i7 i8 i30 i43 i45 i46 i47 i48 i49 i50 i51 i58 i59 i65 i68 i69 i72 i78 i80 i81 i82 i87 i92 i96 i100 i103 i104)), ((z 0), .inl (T 0, 700, .inl g0))]) [0, 1, 2] (by decide +kernel) rfl) hS (lv_sub hl [0, 1, 2, 3] rfl)
                · skip
                  have kc28101309 : x28101308.toInt ≠ 2 := ne_ti rfl (by decide) c28101309
                  refine lv_iconst (v := 0) hx hb dX11_isHere_72 (by decide) ?_
                  have hl28101340 : (0 : Int32).toInt = 0 := by decide
                  have hl28101341 : (0 : Int32).toInt = 0 := by decide
                  exact r_zret (x28101276 : Int32) C0 hr (by decide +kernel) hlocks hS (Nat.le_refl _) (Nat.le_refl _) dX11_isHere_73 ⟨⟨by omega, by omega⟩, (by omega), (Or.inl (by omega)), ⟨by decide, by decide⟩⟩ (hP.sub (ws' := [(a, .inr (11, OX z i1 x28101276 i3 i4 i5 i6 i7 i8 i30 i43 i45 i46 i47 i48 i49 i50 i51 i58 i59 i65 i68 i69 i72 i78 i80 i81 i82 i87 i92 i96 i100 i103 i104)), (q1, .inl (T 3, 2, .inl gq1)), ((z 0), .inl (T 0, 700, .inl g0))]) [1, 0, 2] rfl) (hD.sub (ws' := [(a, .inr (11, OX z i1 x28101276 i3 i4 i5 i6 i7 i8 i30 i43 i45 i46 i47 i48 i49 i50 i51 i58 i59 i65 i68 i69 i72 i78 i80 i81 i82 i87 i92 i96 i100 i103 i104)), (q1, .inl (T 3, 2, .inl gq1)), ((z 0), .inl (T 0, 700, .inl g0))]) [1, 0, 2] (by decide +kernel) rfl)
              · skip
                have kc28101307 : x28101295.toInt < i3.toInt := nle_ti rfl rfl c28101307
                refine lv_aload_n hx hb dX11_isHere_43 rfl (lv_at hl 1 rfl) ?_
                refine r_get (v := .ref (z 0)) C0 hE ffX11_0 mw_790 hP 1 rfl ox_0 dX11_isHere_44 ?_
                refine lv_iload_n hx hb dX11_isHere_47 rfl (lv_at hl 0 rfl) ?_
                refine va_iald hx hb hK hP 2 0 rfl rfl (in_ti rfl (by omega) (by omega)) dX11_isHere_48 ?_
                refine lv_topi (fun x28101342 ex28101342 => ?_)
                have tx28101342 : x28101342.toInt = (g0 (Int32.toNatClampNeg x28101295)).toInt := by rw [ex28101342]
                refine r_calli (wr := [(q1, .inl (T 3, 2, .inl gq1)), (a, .inr (11, OX z i1 x28101276 i3 i4 i5 i6 i7 i8 i30 i43 i45 i46 i47 i48 i49 i50 i51 i58 i59 i65 i68 i69 i72 i78 i80 i81 i82 i87 i92 i96 i100 i103 i104)), ((z 0), .inl (T 0, 700, .inl g0))]) (r_runS2 (As := [.int x28101342]) (rest := []) (wc := []) C0 hE hStr hS (va_free (wc := []) hD hS hA [] rfl) (h_X11_isLetter_20100005 l D T sq sv H.size x28101342) mw_928 mw_929 mw_14 mw_930 dn_1708 rfl rfl ⟨Nat.le_of_ble_eq_true rfl, Nat.le_of_ble_eq_true rfl⟩ (hP.sub (ws' := []) [] rfl) (hD.sub (ws' := []) [] (by decide +kernel) rfl) hl.1 rfl (Nat.le_of_ble_eq_true rfl) dX11_isHere_49 ⟨Nat.le_of_ble_eq_true rfl, Nat.le_of_ble_eq_true rfl⟩) hP hD hS hA [] [0, 1, 2] rfl rfl (by decide +kernel) (by decide +kernel) (fun x28101343 u H locs hq hP hD hS => ?_)
                obtain ⟨hAlt, hx28101343⟩ := hq
                have hx28101343 : 0 ≤ x28101343.toInt ∧ x28101343.toInt ≤ 1 := hx28101343
                have hP : va_P D vwCl [(q1, .inl (T 3, 2, .inl gq1)), (a, .inr (11, OX z i1 x28101276 i3 i4 i5 i6 i7 i8 i30 i43 i45 i46 i47 i48 i49 i50 i51 i58 i59 i65 i68 i69 i72 i78 i80 i81 i82 i87 i92 i96 i100 i103 i104)), ((z 0), .inl (T 0, 700, .inl g0))] H := hP
                have hD : va_D A [(q1, .inl (T 3, 2, .inl gq1)), (a, .inr (11, OX z i1 x28101276 i3 i4 i5 i6 i7 i8 i30 i43 i45 i46 i47 i48 i49 i50 i51 i58 i59 i65 i68 i69 i72 i78 i80 i81 i82 i87 i92 i96 i100 i103 i104)), ((z 0), .inl (T 0, 700, .inl g0))] := hD
                rcases hAlt with hAlt | hAlt
                · skip
                  have hp28101344 := hAlt
                  have hp28101344 : x28101343.toInt = 0 := hp28101344
                  clear hAlt
                  refine W.widen (k := 0) (n := 0) (Nat.le_refl _) (Nat.le_refl _) ?_
                  refine lv_if_eq (tgt := 61) hx hb dX11_isHere_52 (by decide) (fun c28101345 => ?_) (fun hc => by have hf : x28101343.toInt ≠ 0 := ne_ti rfl (by decide) hc; omega)
                  have kc28101345 : x28101343.toInt = 0 := eq_ti rfl (by decide) c28101345
                  refine lv_iload_n hx hb dX11_isHere_61 rfl (lv_at hl 0 rfl) ?_
                  refine lv_aload_n hx hb dX11_isHere_62 rfl (lv_at hl 1 rfl) ?_
                  refine r_get (v := .int x28101276) C0 hE ffX11_2 mw_792 hP 1 rfl ox_2 dX11_isHere_63 ?_
                  refine lv_isub hx hb dX11_isHere_66 ?_
                  refine lv_topi (fun x28101346 ex28101346 => ?_)
                  have hx28101346 : x28101346.toInt = x28101295.toInt - x28101276.toInt := ti_sub ex28101346 rfl rfl (by omega) (by omega)
                  refine lv_aload_n hx hb dX11_isHere_67 rfl (lv_at hl 2 rfl) ?_
                  refine va_alen (v := 2) hx hb hK hP 0 3 rfl rfl rfl dX11_isHere_68 ?_
                  refine lv_icmp_eq (tgt := 74) hx hb dX11_isHere_69 (by decide) (fun c28101347 => ?_) (fun c28101347 => ?_)
                  · skip
                    have kc28101347 : x28101346.toInt = 2 := eq_ti rfl (by decide) c28101347
                    refine lv_iconst (v := 0) hx hb dX11_isHere_74 (by decide) ?_
                    refine lv_istore_n (lv' := [(3, .int 0), (2, .int x28101295), (0, .ref a), (1, .ref q1)]) hx hb dX11_isHere_75 rfl hl (by decide) rfl (fun ls hl => ?_)
                    have L28101366 : ∀ (n : Nat) (x28101359 : Int32) (H : Heap) (locs : List Loc) (ls : Array Slot), (0 ≤ x28101359.toInt ∧ x28101359.toInt ≤ 2) → (3 - x28101359.toInt).toNat < n → va_P D vwCl [(q1, .inl (T 3, 2, .inl gq1)), (a, .inr (11, OX z i1 x28101276 i3 i4 i5 i6 i7 i8 i30 i43 i45 i46 i47 i48 i49 i50 i51 i58 i59 i65 i68 i69 i72 i78 i80 i81 i82 i87 i92 i96 i100 i103 i104)), ((z 0), .inl (T 0, 700, .inl g0))] H → va_D A [(q1, .inl (T 3, 2, .inl gq1)), (a, .inr (11, OX z i1 x28101276 i3 i4 i5 i6 i7 i8 i30 i43 i45 i46 i47 i48 i49 i50 i51 i58 i59 i65 i68 i69 i72 i78 i80 i81 i82 i87 i92 i96 i100 i103 i104)), ((z 0), .inl (T 0, 700, .inl g0))] → va_S A s.heap H locs → lv_has ls 4 [(3, .int x28101359), (2, .int x28101295), (0, .ref a), (1, .ref q1)] → W p l e { frames := 1, cells := 0, slots := 0, locals := 20 } s m args below meth c H locs 0 0 (MQ below ((Qi (S := Int32) (fun (r : Int32) (ui2 : Int32) => (0 ≤ ui2.toInt ∧ ui2.toInt ≤ 700) ∧ (i2.toInt ≤ ui2.toInt) ∧ (((r.toInt = 0 ∧ i2.toInt ≤ ui2.toInt)) ∨ ((r.toInt = 1 ∧ i2.toInt ≤ ui2.toInt ∧ ui2.toInt + 2 ≤ i3.toInt ∧ i5.toInt = 0))) ∧ (0 ≤ r.toInt ∧ r.toInt ≤ 1)) (fun (ui2 : Int32) => [(a, .inr (11, OX z i1 ui2 i3 i4 i5 i6 i7 i8 i30 i43 i45 i46 i47 i48 i49 i50 i51 i58 i59 i65 i68 i69 i72 i78 i80 i81 i82 i87 i92 i96 i100 i103 i104)), (q1, .inl (T 3, 2, .inl gq1)), ((z 0), .inl (T 0, 700, .inl g0))]) D) A) args s 0 0 A) (F0 m 76 ls []) := by
                      intro n
                      induction n with
                      | zero =>
                        intro x28101359 H locs ls hx28101359 hms hP hD hS hl
                        exact absurd hms (Nat.not_lt_zero _)
                      | succ n ih28101367 =>
                        intro x28101359 H locs ls hx28101359 hms hP hD hS hl
                        refine lv_iload_n hx hb dX11_isHere_76 rfl (lv_at hl 0 rfl) ?_
                        refine lv_aload_n hx hb dX11_isHere_77 rfl (lv_at hl 3 rfl) ?_
                        refine va_alen (v := 2) hx hb hK hP 0 3 rfl rfl rfl dX11_isHere_78 ?_
                        refine lv_icmp_ge (tgt := 107) hx hb dX11_isHere_79 (by decide) (fun c28101368 => ?_) (fun c28101368 => ?_)
                        · skip
                          have kc28101368 : 2 ≤ x28101359.toInt := le_ti (by decide) rfl c28101368
                          refine lv_iconst (v := 1) hx hb dX11_isHere_107 (by decide) ?_
                          have hl28101369 : (1 : Int32).toInt = 1 := by decide
                          have hl28101370 : (1 : Int32).toInt = 1 := by decide
                          exact r_zret (x28101276 : Int32) C0 hr (by decide +kernel) hlocks hS (Nat.le_refl _) (Nat.le_refl _) dX11_isHere_108 ⟨⟨by omega, by omega⟩, (by omega), (Or.inr (by omega)), ⟨by decide, by decide⟩⟩ (hP.sub (ws' := [(a, .inr (11, OX z i1 x28101276 i3 i4 i5 i6 i7 i8 i30 i43 i45 i46 i47 i48 i49 i50 i51 i58 i59 i65 i68 i69 i72 i78 i80 i81 i82 i87 i92 i96 i100 i103 i104)), (q1, .inl (T 3, 2, .inl gq1)), ((z 0), .inl (T 0, 700, .inl g0))]) [1, 0, 2] rfl) (hD.sub (ws' := [(a, .inr (11, OX z i1 x28101276 i3 i4 i5 i6 i7 i8 i30 i43 i45 i46 i47 i48 i49 i50 i51 i58 i59 i65 i68 i69 i72 i78 i80 i81 i82 i87 i92 i96 i100 i103 i104)), (q1, .inl (T 3, 2, .inl gq1)), ((z 0), .inl (T 0, 700, .inl g0))]) [1, 0, 2] (by decide +kernel) rfl)
                        · skip
                          have kc28101368 : x28101359.toInt < 2 := nle_ti (by decide) rfl c28101368
                          refine lv_aload_n hx hb dX11_isHere_82 rfl (lv_at hl 2 rfl) ?_
                          refine r_get (v := .ref (z 0)) C0 hE ffX11_0 mw_790 hP 1 rfl ox_0 dX11_isHere_83 ?_
                          refine lv_aload_n hx hb dX11_isHere_86 rfl (lv_at hl 2 rfl) ?_
                          refine r_get (v := .int x28101276) C0 hE ffX11_2 mw_792 hP 1 rfl ox_2 dX11_isHere_87 ?_
                          refine lv_iload_n hx hb dX11_isHere_90 rfl (lv_at hl 0 rfl) ?_
                          refine lv_iadd hx hb dX11_isHere_91 ?_
                          refine lv_topi (fun x28101371 ex28101371 => ?_)
                          have hx28101371 : x28101371.toInt = x28101276.toInt + x28101359.toInt := ti_add ex28101371 rfl rfl (by omega) (by omega)
                          refine va_iald hx hb hK hP 2 0 rfl rfl (in_ti rfl (by omega) (by omega)) dX11_isHere_92 ?_
                          refine lv_topi (fun x28101372 ex28101372 => ?_)
                          have tx28101372 : x28101372.toInt = (g0 (Int32.toNatClampNeg x28101371)).toInt := by rw [ex28101372]
                          refine lv_aload_n hx hb dX11_isHere_93 rfl (lv_at hl 3 rfl) ?_
                          refine lv_iload_n hx hb dX11_isHere_94 rfl (lv_at hl 0 rfl) ?_
                          refine va_cald hx hb hK hP 0 3 rfl rfl (in_ti rfl (by omega) (by omega)) dX11_isHere_95 ?_
                          refine lv_topi (fun x28101373 ex28101373 => ?_)
                          refine lv_icmp_eq (tgt := 101) hx hb dX11_isHere_96 (by decide) (fun c28101374 => ?_) (fun c28101374 => ?_)
                          · skip
                            have kc28101374 : x28101372.toInt = x28101373.toInt := eq_ti rfl rfl c28101374
                            obtain ⟨x28101375, ex28101375⟩ : ∃ y : Int32, y = x28101359 + 1 := ⟨_, rfl⟩
                            have hx28101375 : x28101375.toInt = x28101359.toInt + 1 := ti_add ex28101375 rfl (by decide) (by omega) (by omega)
                            refine lv_iinc (v := x28101375) (lv' := [(3, .int x28101375), (2, .int x28101295), (0, .ref a), (1, .ref q1)]) hx hb dX11_isHere_101 hl (k := 0) rfl (by rw [ex28101375]; rfl) (by decide) rfl (fun ls hl => ?_)
                            refine lv_goto (tgt := 76) hx hb dX11_isHere_104 (by decide) ?_
                            exact ih28101367 x28101375 _ _ ls ⟨by omega, by omega⟩ (by omega) (hP.sub (ws' := [(q1, .inl (T 3, 2, .inl gq1)), (a, .inr (11, OX z i1 x28101276 i3 i4 i5 i6 i7 i8 i30 i43 i45 i46 i47 i48 i49 i50 i51 i58 i59 i65 i68 i69 i72 i78 i80 i81 i82 i87 i92 i96 i100 i103 i104)), ((z 0), .inl (T 0, 700, .inl g0))]) [0, 1, 2] rfl) (hD.sub (ws' := [(q1, .inl (T 3, 2, .inl gq1)), (a, .inr (11, OX z i1 x28101276 i3 i4 i5 i6 i7 i8 i30 i43 i45 i46 i47 i48 i49 i50 i51 i58 i59 i65 i68 i69 i72 i78 i80 i81 i82 i87 i92 i96 i100 i103 i104)), ((z 0), .inl (T 0, 700, .inl g0))]) [0, 1, 2] (by decide +kernel) rfl) hS (lv_sub hl [0, 1, 2, 3] rfl)
                          · skip
                            have kc28101374 : x28101372.toInt ≠ x28101373.toInt := ne_ti rfl rfl c28101374
                            refine lv_iconst (v := 0) hx hb dX11_isHere_99 (by decide) ?_
                            have hl28101376 : (0 : Int32).toInt = 0 := by decide
                            have hl28101377 : (0 : Int32).toInt = 0 := by decide
                            exact r_zret (x28101276 : Int32) C0 hr (by decide +kernel) hlocks hS (Nat.le_refl _) (Nat.le_refl _) dX11_isHere_100 ⟨⟨by omega, by omega⟩, (by omega), (Or.inl (by omega)), ⟨by decide, by decide⟩⟩ (hP.sub (ws' := [(a, .inr (11, OX z i1 x28101276 i3 i4 i5 i6 i7 i8 i30 i43 i45 i46 i47 i48 i49 i50 i51 i58 i59 i65 i68 i69 i72 i78 i80 i81 i82 i87 i92 i96 i100 i103 i104)), (q1, .inl (T 3, 2, .inl gq1)), ((z 0), .inl (T 0, 700, .inl g0))]) [1, 0, 2] rfl) (hD.sub (ws' := [(a, .inr (11, OX z i1 x28101276 i3 i4 i5 i6 i7 i8 i30 i43 i45 i46 i47 i48 i49 i50 i51 i58 i59 i65 i68 i69 i72 i78 i80 i81 i82 i87 i92 i96 i100 i103 i104)), (q1, .inl (T 3, 2, .inl gq1)), ((z 0), .inl (T 0, 700, .inl g0))]) [1, 0, 2] (by decide +kernel) rfl)
                    exact L28101366 _ 0 _ _ ls ⟨by decide, by decide⟩ (Nat.lt_succ_self _) (hP.sub (ws' := [(q1, .inl (T 3, 2, .inl gq1)), (a, .inr (11, OX z i1 x28101276 i3 i4 i5 i6 i7 i8 i30 i43 i45 i46 i47 i48 i49 i50 i51 i58 i59 i65 i68 i69 i72 i78 i80 i81 i82 i87 i92 i96 i100 i103 i104)), ((z 0), .inl (T 0, 700, .inl g0))]) [0, 1, 2] rfl) (hD.sub (ws' := [(q1, .inl (T 3, 2, .inl gq1)), (a, .inr (11, OX z i1 x28101276 i3 i4 i5 i6 i7 i8 i30 i43 i45 i46 i47 i48 i49 i50 i51 i58 i59 i65 i68 i69 i72 i78 i80 i81 i82 i87 i92 i96 i100 i103 i104)), ((z 0), .inl (T 0, 700, .inl g0))]) [0, 1, 2] (by decide +kernel) rfl) hS (lv_sub hl [0, 1, 2, 3] rfl)
                  · skip
                    have kc28101347 : x28101346.toInt ≠ 2 := ne_ti rfl (by decide) c28101347
                    refine lv_iconst (v := 0) hx hb dX11_isHere_72 (by decide) ?_
                    have hl28101378 : (0 : Int32).toInt = 0 := by decide
                    have hl28101379 : (0 : Int32).toInt = 0 := by decide
                    exact r_zret (x28101276 : Int32) C0 hr (by decide +kernel) hlocks hS (Nat.le_refl _) (Nat.le_refl _) dX11_isHere_73 ⟨⟨by omega, by omega⟩, (by omega), (Or.inl (by omega)), ⟨by decide, by decide⟩⟩ (hP.sub (ws' := [(a, .inr (11, OX z i1 x28101276 i3 i4 i5 i6 i7 i8 i30 i43 i45 i46 i47 i48 i49 i50 i51 i58 i59 i65 i68 i69 i72 i78 i80 i81 i82 i87 i92 i96 i100 i103 i104)), (q1, .inl (T 3, 2, .inl gq1)), ((z 0), .inl (T 0, 700, .inl g0))]) [1, 0, 2] rfl) (hD.sub (ws' := [(a, .inr (11, OX z i1 x28101276 i3 i4 i5 i6 i7 i8 i30 i43 i45 i46 i47 i48 i49 i50 i51 i58 i59 i65 i68 i69 i72 i78 i80 i81 i82 i87 i92 i96 i100 i103 i104)), (q1, .inl (T 3, 2, .inl gq1)), ((z 0), .inl (T 0, 700, .inl g0))]) [1, 0, 2] (by decide +kernel) rfl)
                · skip
                  have hp28101380 := hAlt
                  have hp28101380 : x28101343.toInt = 1 ∧ 97 ≤ x28101342.toInt ∧ x28101342.toInt ≤ 122 := hp28101380
                  clear hAlt
                  refine W.widen (k := 0) (n := 0) (Nat.le_refl _) (Nat.le_refl _) ?_
                  refine lv_if_eq (tgt := 61) hx hb dX11_isHere_52 (by decide) (fun hc => by have hf : x28101343.toInt = 0 := eq_ti rfl (by decide) hc; omega) (fun c28101381 => ?_)
                  have kc28101381 : x28101343.toInt ≠ 0 := ne_ti rfl (by decide) c28101381
                  obtain ⟨x28101382, ex28101382⟩ : ∃ y : Int32, y = x28101295 + 1 := ⟨_, rfl⟩
                  have hx28101382 : x28101382.toInt = x28101295.toInt + 1 := ti_add ex28101382 rfl (by decide) (by omega) (by omega)
                  refine lv_iinc (v := x28101382) (lv' := [(2, .int x28101382), (0, .ref a), (1, .ref q1)]) hx hb dX11_isHere_55 hl (k := 0) rfl (by rw [ex28101382]; rfl) (by decide) rfl (fun ls hl => ?_)
                  refine lv_goto (tgt := 35) hx hb dX11_isHere_58 (by decide) ?_
                  exact ih28101306 x28101382 _ _ ls ⟨by omega, by omega⟩ (by omega) (by omega) (hP.sub (ws' := [(q1, .inl (T 3, 2, .inl gq1)), (a, .inr (11, OX z i1 x28101276 i3 i4 i5 i6 i7 i8 i30 i43 i45 i46 i47 i48 i49 i50 i51 i58 i59 i65 i68 i69 i72 i78 i80 i81 i82 i87 i92 i96 i100 i103 i104)), ((z 0), .inl (T 0, 700, .inl g0))]) [0, 1, 2] rfl) (hD.sub (ws' := [(q1, .inl (T 3, 2, .inl gq1)), (a, .inr (11, OX z i1 x28101276 i3 i4 i5 i6 i7 i8 i30 i43 i45 i46 i47 i48 i49 i50 i51 i58 i59 i65 i68 i69 i72 i78 i80 i81 i82 i87 i92 i96 i100 i103 i104)), ((z 0), .inl (T 0, 700, .inl g0))]) [0, 1, 2] (by decide +kernel) rfl) hS (lv_sub hl [0, 1, 2] rfl)
          exact L28101304 _ x28101276 _ _ ls ⟨by omega, by omega⟩ (by omega) (Nat.lt_succ_self _) (hP.sub (ws' := [(q1, .inl (T 3, 2, .inl gq1)), (a, .inr (11, OX z i1 x28101276 i3 i4 i5 i6 i7 i8 i30 i43 i45 i46 i47 i48 i49 i50 i51 i58 i59 i65 i68 i69 i72 i78 i80 i81 i82 i87 i92 i96 i100 i103 i104)), ((z 0), .inl (T 0, 700, .inl g0))]) [0, 1, 2] rfl) (hD.sub (ws' := [(q1, .inl (T 3, 2, .inl gq1)), (a, .inr (11, OX z i1 x28101276 i3 i4 i5 i6 i7 i8 i30 i43 i45 i46 i47 i48 i49 i50 i51 i58 i59 i65 i68 i69 i72 i78 i80 i81 i82 i87 i92 i96 i100 i103 i104)), ((z 0), .inl (T 0, 700, .inl g0))]) [0, 1, 2] (by decide +kernel) rfl) hS (lv_sub hl [0, 1, 2] rfl)
        · skip
          have kc28101286 : x28101276.toInt = i4.toInt := eq_ti rfl rfl c28101286
          refine lv_iconst (v := 0) hx hb dX11_isHere_28 (by decide) ?_
          have hl28101383 : (0 : Int32).toInt = 0 := by decide
          have hl28101384 : (0 : Int32).toInt = 0 := by decide
          exact r_zret (x28101276 : Int32) C0 hr (by decide +kernel) hlocks hS (Nat.le_refl _) (Nat.le_refl _) dX11_isHere_29 ⟨⟨by omega, by omega⟩, (by omega), (Or.inl (by omega)), ⟨by decide, by decide⟩⟩ (hP.sub (ws' := [(a, .inr (11, OX z i1 x28101276 i3 i4 i5 i6 i7 i8 i30 i43 i45 i46 i47 i48 i49 i50 i51 i58 i59 i65 i68 i69 i72 i78 i80 i81 i82 i87 i92 i96 i100 i103 i104)), (q1, .inl (T 3, 2, .inl gq1)), ((z 0), .inl (T 0, 700, .inl g0))]) [1, 0, 2] rfl) (hD.sub (ws' := [(a, .inr (11, OX z i1 x28101276 i3 i4 i5 i6 i7 i8 i30 i43 i45 i46 i47 i48 i49 i50 i51 i58 i59 i65 i68 i69 i72 i78 i80 i81 i82 i87 i92 i96 i100 i103 i104)), (q1, .inl (T 3, 2, .inl gq1)), ((z 0), .inl (T 0, 700, .inl g0))]) [1, 0, 2] (by decide +kernel) rfl)
    · skip
      have hp28101385 := hAlt
      have hp28101385 : i2.toInt ≤ x28101276.toInt ∧ x28101276.toInt < i3.toInt ∧ x28101275.toInt = (g0 (Int32.toNatClampNeg x28101276)).toInt := hp28101385
      clear hAlt
      refine W.widen (k := 0) (n := 0) (Nat.le_refl _) (Nat.le_refl _) ?_
      refine r_calli (wr := [(q1, .inl (T 3, 2, .inl gq1)), (a, .inr (11, OX z i1 x28101276 i3 i4 i5 i6 i7 i8 i30 i43 i45 i46 i47 i48 i49 i50 i51 i58 i59 i65 i68 i69 i72 i78 i80 i81 i82 i87 i92 i96 i100 i103 i104)), ((z 0), .inl (T 0, 700, .inl g0))]) (r_runS2 (As := [.int x28101275]) (rest := []) (wc := []) C0 hE hStr hS (va_free (wc := []) hD hS hA [] rfl) (h_X11_isLetter_20100005 l D T sq sv H.size x28101275) mw_928 mw_929 mw_14 mw_930 dn_1708 rfl rfl ⟨Nat.le_of_ble_eq_true rfl, Nat.le_of_ble_eq_true rfl⟩ (hP.sub (ws' := []) [] rfl) (hD.sub (ws' := []) [] (by decide +kernel) rfl) hl.1 rfl (Nat.le_of_ble_eq_true rfl) dX11_isHere_11 ⟨Nat.le_of_ble_eq_true rfl, Nat.le_of_ble_eq_true rfl⟩) hP hD hS hA [] [0, 1, 2] rfl rfl (by decide +kernel) (by decide +kernel) (fun x28101386 u H locs hq hP hD hS => ?_)
      obtain ⟨hAlt, hx28101386⟩ := hq
      have hx28101386 : 0 ≤ x28101386.toInt ∧ x28101386.toInt ≤ 1 := hx28101386
      have hP : va_P D vwCl [(q1, .inl (T 3, 2, .inl gq1)), (a, .inr (11, OX z i1 x28101276 i3 i4 i5 i6 i7 i8 i30 i43 i45 i46 i47 i48 i49 i50 i51 i58 i59 i65 i68 i69 i72 i78 i80 i81 i82 i87 i92 i96 i100 i103 i104)), ((z 0), .inl (T 0, 700, .inl g0))] H := hP
      have hD : va_D A [(q1, .inl (T 3, 2, .inl gq1)), (a, .inr (11, OX z i1 x28101276 i3 i4 i5 i6 i7 i8 i30 i43 i45 i46 i47 i48 i49 i50 i51 i58 i59 i65 i68 i69 i72 i78 i80 i81 i82 i87 i92 i96 i100 i103 i104)), ((z 0), .inl (T 0, 700, .inl g0))] := hD
      rcases hAlt with hAlt | hAlt
      · skip
        have hp28101387 := hAlt
        have hp28101387 : x28101386.toInt = 0 := hp28101387
        clear hAlt
        refine W.widen (k := 0) (n := 0) (Nat.le_refl _) (Nat.le_refl _) ?_
        refine lv_if_eq (tgt := 28) hx hb dX11_isHere_14 (by decide) (fun c28101388 => ?_) (fun hc => by have hf : x28101386.toInt ≠ 0 := ne_ti rfl (by decide) hc; omega)
        have kc28101388 : x28101386.toInt = 0 := eq_ti rfl (by decide) c28101388
        refine lv_iconst (v := 0) hx hb dX11_isHere_28 (by decide) ?_
        have hl28101389 : (0 : Int32).toInt = 0 := by decide
        have hl28101390 : (0 : Int32).toInt = 0 := by decide
        exact r_zret (x28101276 : Int32) C0 hr (by decide +kernel) hlocks hS (Nat.le_refl _) (Nat.le_refl _) dX11_isHere_29 ⟨⟨by omega, by omega⟩, (by omega), (Or.inl (by omega)), ⟨by decide, by decide⟩⟩ (hP.sub (ws' := [(a, .inr (11, OX z i1 x28101276 i3 i4 i5 i6 i7 i8 i30 i43 i45 i46 i47 i48 i49 i50 i51 i58 i59 i65 i68 i69 i72 i78 i80 i81 i82 i87 i92 i96 i100 i103 i104)), (q1, .inl (T 3, 2, .inl gq1)), ((z 0), .inl (T 0, 700, .inl g0))]) [1, 0, 2] rfl) (hD.sub (ws' := [(a, .inr (11, OX z i1 x28101276 i3 i4 i5 i6 i7 i8 i30 i43 i45 i46 i47 i48 i49 i50 i51 i58 i59 i65 i68 i69 i72 i78 i80 i81 i82 i87 i92 i96 i100 i103 i104)), (q1, .inl (T 3, 2, .inl gq1)), ((z 0), .inl (T 0, 700, .inl g0))]) [1, 0, 2] (by decide +kernel) rfl)
      · skip
        have hp28101391 := hAlt
        have hp28101391 : x28101386.toInt = 1 ∧ 97 ≤ x28101275.toInt ∧ x28101275.toInt ≤ 122 := hp28101391
        clear hAlt
        refine W.widen (k := 0) (n := 0) (Nat.le_refl _) (Nat.le_refl _) ?_
        refine lv_if_eq (tgt := 28) hx hb dX11_isHere_14 (by decide) (fun hc => by have hf : x28101386.toInt = 0 := eq_ti rfl (by decide) hc; omega) (fun c28101392 => ?_)
        have kc28101392 : x28101386.toInt ≠ 0 := ne_ti rfl (by decide) c28101392
        refine lv_aload_n hx hb dX11_isHere_17 rfl (lv_at hl 0 rfl) ?_
        refine r_get (v := .int x28101276) C0 hE ffX11_2 mw_792 hP 1 rfl ox_2 dX11_isHere_18 ?_
        refine lv_aload_n hx hb dX11_isHere_21 rfl (lv_at hl 0 rfl) ?_
        refine r_get (v := .int i4) C0 hE ffX11_4 mw_794 hP 1 rfl ox_4 dX11_isHere_22 ?_
        refine lv_icmp_ne (tgt := 30) hx hb dX11_isHere_25 (by decide) (fun c28101393 => ?_) (fun c28101393 => ?_)
        · skip
          have kc28101393 : x28101276.toInt ≠ i4.toInt := ne_ti rfl rfl c28101393
          refine lv_aload_n hx hb dX11_isHere_30 rfl (lv_at hl 0 rfl) ?_
          refine r_get (v := .int x28101276) C0 hE ffX11_2 mw_792 hP 1 rfl ox_2 dX11_isHere_31 ?_
          refine lv_istore_n (lv' := [(2, .int x28101276), (0, .ref a), (1, .ref q1)]) hx hb dX11_isHere_34 rfl hl (by decide) rfl (fun ls hl => ?_)
          have L28101411 : ∀ (n : Nat) (x28101402 : Int32) (H : Heap) (locs : List Loc) (ls : Array Slot), (0 ≤ x28101402.toInt ∧ x28101402.toInt ≤ 700) → (x28101276.toInt ≤ x28101402.toInt ∧ x28101402.toInt ≤ i3.toInt) → (701 - x28101402.toInt).toNat < n → va_P D vwCl [(q1, .inl (T 3, 2, .inl gq1)), (a, .inr (11, OX z i1 x28101276 i3 i4 i5 i6 i7 i8 i30 i43 i45 i46 i47 i48 i49 i50 i51 i58 i59 i65 i68 i69 i72 i78 i80 i81 i82 i87 i92 i96 i100 i103 i104)), ((z 0), .inl (T 0, 700, .inl g0))] H → va_D A [(q1, .inl (T 3, 2, .inl gq1)), (a, .inr (11, OX z i1 x28101276 i3 i4 i5 i6 i7 i8 i30 i43 i45 i46 i47 i48 i49 i50 i51 i58 i59 i65 i68 i69 i72 i78 i80 i81 i82 i87 i92 i96 i100 i103 i104)), ((z 0), .inl (T 0, 700, .inl g0))] → va_S A s.heap H locs → lv_has ls 4 [(2, .int x28101402), (0, .ref a), (1, .ref q1)] → W p l e { frames := 1, cells := 0, slots := 0, locals := 20 } s m args below meth c H locs 0 0 (MQ below ((Qi (S := Int32) (fun (r : Int32) (ui2 : Int32) => (0 ≤ ui2.toInt ∧ ui2.toInt ≤ 700) ∧ (i2.toInt ≤ ui2.toInt) ∧ (((r.toInt = 0 ∧ i2.toInt ≤ ui2.toInt)) ∨ ((r.toInt = 1 ∧ i2.toInt ≤ ui2.toInt ∧ ui2.toInt + 2 ≤ i3.toInt ∧ i5.toInt = 0))) ∧ (0 ≤ r.toInt ∧ r.toInt ≤ 1)) (fun (ui2 : Int32) => [(a, .inr (11, OX z i1 ui2 i3 i4 i5 i6 i7 i8 i30 i43 i45 i46 i47 i48 i49 i50 i51 i58 i59 i65 i68 i69 i72 i78 i80 i81 i82 i87 i92 i96 i100 i103 i104)), (q1, .inl (T 3, 2, .inl gq1)), ((z 0), .inl (T 0, 700, .inl g0))]) D) A) args s 0 0 A) (F0 m 35 ls []) := by
            intro n
            induction n with
            | zero =>
              intro x28101402 H locs ls hx28101402 hr28101412 hms hP hD hS hl
              exact absurd hms (Nat.not_lt_zero _)
            | succ n ih28101413 =>
              intro x28101402 H locs ls hx28101402 hr28101412 hms hP hD hS hl
              refine lv_iload_n hx hb dX11_isHere_35 rfl (lv_at hl 0 rfl) ?_
              refine lv_aload_n hx hb dX11_isHere_36 rfl (lv_at hl 1 rfl) ?_
              refine r_get (v := .int i3) C0 hE ffX11_3 mw_793 hP 1 rfl ox_3 dX11_isHere_37 ?_
              refine lv_icmp_ge (tgt := 61) hx hb dX11_isHere_40 (by decide) (fun c28101414 => ?_) (fun c28101414 => ?_)
              · skip
                have kc28101414 : i3.toInt ≤ x28101402.toInt := le_ti rfl rfl c28101414
                refine lv_iload_n hx hb dX11_isHere_61 rfl (lv_at hl 0 rfl) ?_
                refine lv_aload_n hx hb dX11_isHere_62 rfl (lv_at hl 1 rfl) ?_
                refine r_get (v := .int x28101276) C0 hE ffX11_2 mw_792 hP 1 rfl ox_2 dX11_isHere_63 ?_
                refine lv_isub hx hb dX11_isHere_66 ?_
                refine lv_topi (fun x28101415 ex28101415 => ?_)
                have hx28101415 : x28101415.toInt = x28101402.toInt - x28101276.toInt := ti_sub ex28101415 rfl rfl (by omega) (by omega)
                refine lv_aload_n hx hb dX11_isHere_67 rfl (lv_at hl 2 rfl) ?_
                refine va_alen (v := 2) hx hb hK hP 0 3 rfl rfl rfl dX11_isHere_68 ?_
                refine lv_icmp_eq (tgt := 74) hx hb dX11_isHere_69 (by decide) (fun c28101416 => ?_) (fun c28101416 => ?_)
                · skip
                  have kc28101416 : x28101415.toInt = 2 := eq_ti rfl (by decide) c28101416
                  refine lv_iconst (v := 0) hx hb dX11_isHere_74 (by decide) ?_
                  refine lv_istore_n (lv' := [(3, .int 0), (2, .int x28101402), (0, .ref a), (1, .ref q1)]) hx hb dX11_isHere_75 rfl hl (by decide) rfl (fun ls hl => ?_)
                  have L28101435 : ∀ (n : Nat) (x28101428 : Int32) (H : Heap) (locs : List Loc) (ls : Array Slot), (0 ≤ x28101428.toInt ∧ x28101428.toInt ≤ 2) → (3 - x28101428.toInt).toNat < n → va_P D vwCl [(q1, .inl (T 3, 2, .inl gq1)), (a, .inr (11, OX z i1 x28101276 i3 i4 i5 i6 i7 i8 i30 i43 i45 i46 i47 i48 i49 i50 i51 i58 i59 i65 i68 i69 i72 i78 i80 i81 i82 i87 i92 i96 i100 i103 i104)), ((z 0), .inl (T 0, 700, .inl g0))] H → va_D A [(q1, .inl (T 3, 2, .inl gq1)), (a, .inr (11, OX z i1 x28101276 i3 i4 i5 i6 i7 i8 i30 i43 i45 i46 i47 i48 i49 i50 i51 i58 i59 i65 i68 i69 i72 i78 i80 i81 i82 i87 i92 i96 i100 i103 i104)), ((z 0), .inl (T 0, 700, .inl g0))] → va_S A s.heap H locs → lv_has ls 4 [(3, .int x28101428), (2, .int x28101402), (0, .ref a), (1, .ref q1)] → W p l e { frames := 1, cells := 0, slots := 0, locals := 20 } s m args below meth c H locs 0 0 (MQ below ((Qi (S := Int32) (fun (r : Int32) (ui2 : Int32) => (0 ≤ ui2.toInt ∧ ui2.toInt ≤ 700) ∧ (i2.toInt ≤ ui2.toInt) ∧ (((r.toInt = 0 ∧ i2.toInt ≤ ui2.toInt)) ∨ ((r.toInt = 1 ∧ i2.toInt ≤ ui2.toInt ∧ ui2.toInt + 2 ≤ i3.toInt ∧ i5.toInt = 0))) ∧ (0 ≤ r.toInt ∧ r.toInt ≤ 1)) (fun (ui2 : Int32) => [(a, .inr (11, OX z i1 ui2 i3 i4 i5 i6 i7 i8 i30 i43 i45 i46 i47 i48 i49 i50 i51 i58 i59 i65 i68 i69 i72 i78 i80 i81 i82 i87 i92 i96 i100 i103 i104)), (q1, .inl (T 3, 2, .inl gq1)), ((z 0), .inl (T 0, 700, .inl g0))]) D) A) args s 0 0 A) (F0 m 76 ls []) := by
                    intro n
                    induction n with
                    | zero =>
                      intro x28101428 H locs ls hx28101428 hms hP hD hS hl
                      exact absurd hms (Nat.not_lt_zero _)
                    | succ n ih28101436 =>
                      intro x28101428 H locs ls hx28101428 hms hP hD hS hl
                      refine lv_iload_n hx hb dX11_isHere_76 rfl (lv_at hl 0 rfl) ?_
                      refine lv_aload_n hx hb dX11_isHere_77 rfl (lv_at hl 3 rfl) ?_
                      refine va_alen (v := 2) hx hb hK hP 0 3 rfl rfl rfl dX11_isHere_78 ?_
                      refine lv_icmp_ge (tgt := 107) hx hb dX11_isHere_79 (by decide) (fun c28101437 => ?_) (fun c28101437 => ?_)
                      · skip
                        have kc28101437 : 2 ≤ x28101428.toInt := le_ti (by decide) rfl c28101437
                        refine lv_iconst (v := 1) hx hb dX11_isHere_107 (by decide) ?_
                        have hl28101438 : (1 : Int32).toInt = 1 := by decide
                        have hl28101439 : (1 : Int32).toInt = 1 := by decide
                        exact r_zret (x28101276 : Int32) C0 hr (by decide +kernel) hlocks hS (Nat.le_refl _) (Nat.le_refl _) dX11_isHere_108 ⟨⟨by omega, by omega⟩, (by omega), (Or.inr (by omega)), ⟨by decide, by decide⟩⟩ (hP.sub (ws' := [(a, .inr (11, OX z i1 x28101276 i3 i4 i5 i6 i7 i8 i30 i43 i45 i46 i47 i48 i49 i50 i51 i58 i59 i65 i68 i69 i72 i78 i80 i81 i82 i87 i92 i96 i100 i103 i104)), (q1, .inl (T 3, 2, .inl gq1)), ((z 0), .inl (T 0, 700, .inl g0))]) [1, 0, 2] rfl) (hD.sub (ws' := [(a, .inr (11, OX z i1 x28101276 i3 i4 i5 i6 i7 i8 i30 i43 i45 i46 i47 i48 i49 i50 i51 i58 i59 i65 i68 i69 i72 i78 i80 i81 i82 i87 i92 i96 i100 i103 i104)), (q1, .inl (T 3, 2, .inl gq1)), ((z 0), .inl (T 0, 700, .inl g0))]) [1, 0, 2] (by decide +kernel) rfl)
                      · skip
                        have kc28101437 : x28101428.toInt < 2 := nle_ti (by decide) rfl c28101437
                        refine lv_aload_n hx hb dX11_isHere_82 rfl (lv_at hl 2 rfl) ?_
                        refine r_get (v := .ref (z 0)) C0 hE ffX11_0 mw_790 hP 1 rfl ox_0 dX11_isHere_83 ?_
                        refine lv_aload_n hx hb dX11_isHere_86 rfl (lv_at hl 2 rfl) ?_
                        refine r_get (v := .int x28101276) C0 hE ffX11_2 mw_792 hP 1 rfl ox_2 dX11_isHere_87 ?_
                        refine lv_iload_n hx hb dX11_isHere_90 rfl (lv_at hl 0 rfl) ?_
                        refine lv_iadd hx hb dX11_isHere_91 ?_
                        refine lv_topi (fun x28101440 ex28101440 => ?_)
                        have hx28101440 : x28101440.toInt = x28101276.toInt + x28101428.toInt := ti_add ex28101440 rfl rfl (by omega) (by omega)
                        refine va_iald hx hb hK hP 2 0 rfl rfl (in_ti rfl (by omega) (by omega)) dX11_isHere_92 ?_
                        refine lv_topi (fun x28101441 ex28101441 => ?_)
                        have tx28101441 : x28101441.toInt = (g0 (Int32.toNatClampNeg x28101440)).toInt := by rw [ex28101441]
                        refine lv_aload_n hx hb dX11_isHere_93 rfl (lv_at hl 3 rfl) ?_
                        refine lv_iload_n hx hb dX11_isHere_94 rfl (lv_at hl 0 rfl) ?_
                        refine va_cald hx hb hK hP 0 3 rfl rfl (in_ti rfl (by omega) (by omega)) dX11_isHere_95 ?_
                        refine lv_topi (fun x28101442 ex28101442 => ?_)
                        refine lv_icmp_eq (tgt := 101) hx hb dX11_isHere_96 (by decide) (fun c28101443 => ?_) (fun c28101443 => ?_)
                        · skip
                          have kc28101443 : x28101441.toInt = x28101442.toInt := eq_ti rfl rfl c28101443
                          obtain ⟨x28101444, ex28101444⟩ : ∃ y : Int32, y = x28101428 + 1 := ⟨_, rfl⟩
                          have hx28101444 : x28101444.toInt = x28101428.toInt + 1 := ti_add ex28101444 rfl (by decide) (by omega) (by omega)
                          refine lv_iinc (v := x28101444) (lv' := [(3, .int x28101444), (2, .int x28101402), (0, .ref a), (1, .ref q1)]) hx hb dX11_isHere_101 hl (k := 0) rfl (by rw [ex28101444]; rfl) (by decide) rfl (fun ls hl => ?_)
                          refine lv_goto (tgt := 76) hx hb dX11_isHere_104 (by decide) ?_
                          exact ih28101436 x28101444 _ _ ls ⟨by omega, by omega⟩ (by omega) (hP.sub (ws' := [(q1, .inl (T 3, 2, .inl gq1)), (a, .inr (11, OX z i1 x28101276 i3 i4 i5 i6 i7 i8 i30 i43 i45 i46 i47 i48 i49 i50 i51 i58 i59 i65 i68 i69 i72 i78 i80 i81 i82 i87 i92 i96 i100 i103 i104)), ((z 0), .inl (T 0, 700, .inl g0))]) [0, 1, 2] rfl) (hD.sub (ws' := [(q1, .inl (T 3, 2, .inl gq1)), (a, .inr (11, OX z i1 x28101276 i3 i4 i5 i6 i7 i8 i30 i43 i45 i46 i47 i48 i49 i50 i51 i58 i59 i65 i68 i69 i72 i78 i80 i81 i82 i87 i92 i96 i100 i103 i104)), ((z 0), .inl (T 0, 700, .inl g0))]) [0, 1, 2] (by decide +kernel) rfl) hS (lv_sub hl [0, 1, 2, 3] rfl)
                        · skip
                          have kc28101443 : x28101441.toInt ≠ x28101442.toInt := ne_ti rfl rfl c28101443
                          refine lv_iconst (v := 0) hx hb dX11_isHere_99 (by decide) ?_
                          have hl28101445 : (0 : Int32).toInt = 0 := by decide
                          have hl28101446 : (0 : Int32).toInt = 0 := by decide
                          exact r_zret (x28101276 : Int32) C0 hr (by decide +kernel) hlocks hS (Nat.le_refl _) (Nat.le_refl _) dX11_isHere_100 ⟨⟨by omega, by omega⟩, (by omega), (Or.inl (by omega)), ⟨by decide, by decide⟩⟩ (hP.sub (ws' := [(a, .inr (11, OX z i1 x28101276 i3 i4 i5 i6 i7 i8 i30 i43 i45 i46 i47 i48 i49 i50 i51 i58 i59 i65 i68 i69 i72 i78 i80 i81 i82 i87 i92 i96 i100 i103 i104)), (q1, .inl (T 3, 2, .inl gq1)), ((z 0), .inl (T 0, 700, .inl g0))]) [1, 0, 2] rfl) (hD.sub (ws' := [(a, .inr (11, OX z i1 x28101276 i3 i4 i5 i6 i7 i8 i30 i43 i45 i46 i47 i48 i49 i50 i51 i58 i59 i65 i68 i69 i72 i78 i80 i81 i82 i87 i92 i96 i100 i103 i104)), (q1, .inl (T 3, 2, .inl gq1)), ((z 0), .inl (T 0, 700, .inl g0))]) [1, 0, 2] (by decide +kernel) rfl)
                  exact L28101435 _ 0 _ _ ls ⟨by decide, by decide⟩ (Nat.lt_succ_self _) (hP.sub (ws' := [(q1, .inl (T 3, 2, .inl gq1)), (a, .inr (11, OX z i1 x28101276 i3 i4 i5 i6 i7 i8 i30 i43 i45 i46 i47 i48 i49 i50 i51 i58 i59 i65 i68 i69 i72 i78 i80 i81 i82 i87 i92 i96 i100 i103 i104)), ((z 0), .inl (T 0, 700, .inl g0))]) [0, 1, 2] rfl) (hD.sub (ws' := [(q1, .inl (T 3, 2, .inl gq1)), (a, .inr (11, OX z i1 x28101276 i3 i4 i5 i6 i7 i8 i30 i43 i45 i46 i47 i48 i49 i50 i51 i58 i59 i65 i68 i69 i72 i78 i80 i81 i82 i87 i92 i96 i100 i103 i104)), ((z 0), .inl (T 0, 700, .inl g0))]) [0, 1, 2] (by decide +kernel) rfl) hS (lv_sub hl [0, 1, 2, 3] rfl)
                · skip
                  have kc28101416 : x28101415.toInt ≠ 2 := ne_ti rfl (by decide) c28101416
                  refine lv_iconst (v := 0) hx hb dX11_isHere_72 (by decide) ?_
                  have hl28101447 : (0 : Int32).toInt = 0 := by decide
                  have hl28101448 : (0 : Int32).toInt = 0 := by decide
                  exact r_zret (x28101276 : Int32) C0 hr (by decide +kernel) hlocks hS (Nat.le_refl _) (Nat.le_refl _) dX11_isHere_73 ⟨⟨by omega, by omega⟩, (by omega), (Or.inl (by omega)), ⟨by decide, by decide⟩⟩ (hP.sub (ws' := [(a, .inr (11, OX z i1 x28101276 i3 i4 i5 i6 i7 i8 i30 i43 i45 i46 i47 i48 i49 i50 i51 i58 i59 i65 i68 i69 i72 i78 i80 i81 i82 i87 i92 i96 i100 i103 i104)), (q1, .inl (T 3, 2, .inl gq1)), ((z 0), .inl (T 0, 700, .inl g0))]) [1, 0, 2] rfl) (hD.sub (ws' := [(a, .inr (11, OX z i1 x28101276 i3 i4 i5 i6 i7 i8 i30 i43 i45 i46 i47 i48 i49 i50 i51 i58 i59 i65 i68 i69 i72 i78 i80 i81 i82 i87 i92 i96 i100 i103 i104)), (q1, .inl (T 3, 2, .inl gq1)), ((z 0), .inl (T 0, 700, .inl g0))]) [1, 0, 2] (by decide +kernel) rfl)
              · skip
                have kc28101414 : x28101402.toInt < i3.toInt := nle_ti rfl rfl c28101414
                refine lv_aload_n hx hb dX11_isHere_43 rfl (lv_at hl 1 rfl) ?_
                refine r_get (v := .ref (z 0)) C0 hE ffX11_0 mw_790 hP 1 rfl ox_0 dX11_isHere_44 ?_
                refine lv_iload_n hx hb dX11_isHere_47 rfl (lv_at hl 0 rfl) ?_
                refine va_iald hx hb hK hP 2 0 rfl rfl (in_ti rfl (by omega) (by omega)) dX11_isHere_48 ?_
                refine lv_topi (fun x28101449 ex28101449 => ?_)
                have tx28101449 : x28101449.toInt = (g0 (Int32.toNatClampNeg x28101402)).toInt := by rw [ex28101449]
                refine r_calli (wr := [(q1, .inl (T 3, 2, .inl gq1)), (a, .inr (11, OX z i1 x28101276 i3 i4 i5 i6 i7 i8 i30 i43 i45 i46 i47 i48 i49 i50 i51 i58 i59 i65 i68 i69 i72 i78 i80 i81 i82 i87 i92 i96 i100 i103 i104)), ((z 0), .inl (T 0, 700, .inl g0))]) (r_runS2 (As := [.int x28101449]) (rest := []) (wc := []) C0 hE hStr hS (va_free (wc := []) hD hS hA [] rfl) (h_X11_isLetter_20100005 l D T sq sv H.size x28101449) mw_928 mw_929 mw_14 mw_930 dn_1708 rfl rfl ⟨Nat.le_of_ble_eq_true rfl, Nat.le_of_ble_eq_true rfl⟩ (hP.sub (ws' := []) [] rfl) (hD.sub (ws' := []) [] (by decide +kernel) rfl) hl.1 rfl (Nat.le_of_ble_eq_true rfl) dX11_isHere_49 ⟨Nat.le_of_ble_eq_true rfl, Nat.le_of_ble_eq_true rfl⟩) hP hD hS hA [] [0, 1, 2] rfl rfl (by decide +kernel) (by decide +kernel) (fun x28101450 u H locs hq hP hD hS => ?_)
                obtain ⟨hAlt, hx28101450⟩ := hq
                have hx28101450 : 0 ≤ x28101450.toInt ∧ x28101450.toInt ≤ 1 := hx28101450
                have hP : va_P D vwCl [(q1, .inl (T 3, 2, .inl gq1)), (a, .inr (11, OX z i1 x28101276 i3 i4 i5 i6 i7 i8 i30 i43 i45 i46 i47 i48 i49 i50 i51 i58 i59 i65 i68 i69 i72 i78 i80 i81 i82 i87 i92 i96 i100 i103 i104)), ((z 0), .inl (T 0, 700, .inl g0))] H := hP
                have hD : va_D A [(q1, .inl (T 3, 2, .inl gq1)), (a, .inr (11, OX z i1 x28101276 i3 i4 i5 i6 i7 i8 i30 i43 i45 i46 i47 i48 i49 i50 i51 i58 i59 i65 i68 i69 i72 i78 i80 i81 i82 i87 i92 i96 i100 i103 i104)), ((z 0), .inl (T 0, 700, .inl g0))] := hD
                rcases hAlt with hAlt | hAlt
                · skip
                  have hp28101451 := hAlt
                  have hp28101451 : x28101450.toInt = 0 := hp28101451
                  clear hAlt
                  refine W.widen (k := 0) (n := 0) (Nat.le_refl _) (Nat.le_refl _) ?_
                  refine lv_if_eq (tgt := 61) hx hb dX11_isHere_52 (by decide) (fun c28101452 => ?_) (fun hc => by have hf : x28101450.toInt ≠ 0 := ne_ti rfl (by decide) hc; omega)
                  have kc28101452 : x28101450.toInt = 0 := eq_ti rfl (by decide) c28101452
                  refine lv_iload_n hx hb dX11_isHere_61 rfl (lv_at hl 0 rfl) ?_
                  refine lv_aload_n hx hb dX11_isHere_62 rfl (lv_at hl 1 rfl) ?_
                  refine r_get (v := .int x28101276) C0 hE ffX11_2 mw_792 hP 1 rfl ox_2 dX11_isHere_63 ?_
                  refine lv_isub hx hb dX11_isHere_66 ?_
                  refine lv_topi (fun x28101453 ex28101453 => ?_)
                  have hx28101453 : x28101453.toInt = x28101402.toInt - x28101276.toInt := ti_sub ex28101453 rfl rfl (by omega) (by omega)
                  refine lv_aload_n hx hb dX11_isHere_67 rfl (lv_at hl 2 rfl) ?_
                  refine va_alen (v := 2) hx hb hK hP 0 3 rfl rfl rfl dX11_isHere_68 ?_
                  refine lv_icmp_eq (tgt := 74) hx hb dX11_isHere_69 (by decide) (fun c28101454 => ?_) (fun c28101454 => ?_)
                  · skip
                    have kc28101454 : x28101453.toInt = 2 := eq_ti rfl (by decide) c28101454
                    refine lv_iconst (v := 0) hx hb dX11_isHere_74 (by decide) ?_
                    refine lv_istore_n (lv' := [(3, .int 0), (2, .int x28101402), (0, .ref a), (1, .ref q1)]) hx hb dX11_isHere_75 rfl hl (by decide) rfl (fun ls hl => ?_)
                    have L28101473 : ∀ (n : Nat) (x28101466 : Int32) (H : Heap) (locs : List Loc) (ls : Array Slot), (0 ≤ x28101466.toInt ∧ x28101466.toInt ≤ 2) → (3 - x28101466.toInt).toNat < n → va_P D vwCl [(q1, .inl (T 3, 2, .inl gq1)), (a, .inr (11, OX z i1 x28101276 i3 i4 i5 i6 i7 i8 i30 i43 i45 i46 i47 i48 i49 i50 i51 i58 i59 i65 i68 i69 i72 i78 i80 i81 i82 i87 i92 i96 i100 i103 i104)), ((z 0), .inl (T 0, 700, .inl g0))] H → va_D A [(q1, .inl (T 3, 2, .inl gq1)), (a, .inr (11, OX z i1 x28101276 i3 i4 i5 i6 i7 i8 i30 i43 i45 i46 i47 i48 i49 i50 i51 i58 i59 i65 i68 i69 i72 i78 i80 i81 i82 i87 i92 i96 i100 i103 i104)), ((z 0), .inl (T 0, 700, .inl g0))] → va_S A s.heap H locs → lv_has ls 4 [(3, .int x28101466), (2, .int x28101402), (0, .ref a), (1, .ref q1)] → W p l e { frames := 1, cells := 0, slots := 0, locals := 20 } s m args below meth c H locs 0 0 (MQ below ((Qi (S := Int32) (fun (r : Int32) (ui2 : Int32) => (0 ≤ ui2.toInt ∧ ui2.toInt ≤ 700) ∧ (i2.toInt ≤ ui2.toInt) ∧ (((r.toInt = 0 ∧ i2.toInt ≤ ui2.toInt)) ∨ ((r.toInt = 1 ∧ i2.toInt ≤ ui2.toInt ∧ ui2.toInt + 2 ≤ i3.toInt ∧ i5.toInt = 0))) ∧ (0 ≤ r.toInt ∧ r.toInt ≤ 1)) (fun (ui2 : Int32) => [(a, .inr (11, OX z i1 ui2 i3 i4 i5 i6 i7 i8 i30 i43 i45 i46 i47 i48 i49 i50 i51 i58 i59 i65 i68 i69 i72 i78 i80 i81 i82 i87 i92 i96 i100 i103 i104)), (q1, .inl (T 3, 2, .inl gq1)), ((z 0), .inl (T 0, 700, .inl g0))]) D) A) args s 0 0 A) (F0 m 76 ls []) := by
                      intro n
                      induction n with
                      | zero =>
                        intro x28101466 H locs ls hx28101466 hms hP hD hS hl
                        exact absurd hms (Nat.not_lt_zero _)
                      | succ n ih28101474 =>
                        intro x28101466 H locs ls hx28101466 hms hP hD hS hl
                        refine lv_iload_n hx hb dX11_isHere_76 rfl (lv_at hl 0 rfl) ?_
                        refine lv_aload_n hx hb dX11_isHere_77 rfl (lv_at hl 3 rfl) ?_
                        refine va_alen (v := 2) hx hb hK hP 0 3 rfl rfl rfl dX11_isHere_78 ?_
                        refine lv_icmp_ge (tgt := 107) hx hb dX11_isHere_79 (by decide) (fun c28101475 => ?_) (fun c28101475 => ?_)
                        · skip
                          have kc28101475 : 2 ≤ x28101466.toInt := le_ti (by decide) rfl c28101475
                          refine lv_iconst (v := 1) hx hb dX11_isHere_107 (by decide) ?_
                          have hl28101476 : (1 : Int32).toInt = 1 := by decide
                          have hl28101477 : (1 : Int32).toInt = 1 := by decide
                          exact r_zret (x28101276 : Int32) C0 hr (by decide +kernel) hlocks hS (Nat.le_refl _) (Nat.le_refl _) dX11_isHere_108 ⟨⟨by omega, by omega⟩, (by omega), (Or.inr (by omega)), ⟨by decide, by decide⟩⟩ (hP.sub (ws' := [(a, .inr (11, OX z i1 x28101276 i3 i4 i5 i6 i7 i8 i30 i43 i45 i46 i47 i48 i49 i50 i51 i58 i59 i65 i68 i69 i72 i78 i80 i81 i82 i87 i92 i96 i100 i103 i104)), (q1, .inl (T 3, 2, .inl gq1)), ((z 0), .inl (T 0, 700, .inl g0))]) [1, 0, 2] rfl) (hD.sub (ws' := [(a, .inr (11, OX z i1 x28101276 i3 i4 i5 i6 i7 i8 i30 i43 i45 i46 i47 i48 i49 i50 i51 i58 i59 i65 i68 i69 i72 i78 i80 i81 i82 i87 i92 i96 i100 i103 i104)), (q1, .inl (T 3, 2, .inl gq1)), ((z 0), .inl (T 0, 700, .inl g0))]) [1, 0, 2] (by decide +kernel) rfl)
                        · skip
                          have kc28101475 : x28101466.toInt < 2 := nle_ti (by decide) rfl c28101475
                          refine lv_aload_n hx hb dX11_isHere_82 rfl (lv_at hl 2 rfl) ?_
                          refine r_get (v := .ref (z 0)) C0 hE ffX11_0 mw_790 hP 1 rfl ox_0 dX11_isHere_83 ?_
                          refine lv_aload_n hx hb dX11_isHere_86 rfl (lv_at hl 2 rfl) ?_
                          refine r_get (v := .int x28101276) C0 hE ffX11_2 mw_792 hP 1 rfl ox_2 dX11_isHere_87 ?_
                          refine lv_iload_n hx hb dX11_isHere_90 rfl (lv_at hl 0 rfl) ?_
                          refine lv_iadd hx hb dX11_isHere_91 ?_
                          refine lv_topi (fun x28101478 ex28101478 => ?_)
                          have hx28101478 : x28101478.toInt = x28101276.toInt + x28101466.toInt := ti_add ex28101478 rfl rfl (by omega) (by omega)
                          refine va_iald hx hb hK hP 2 0 rfl rfl (in_ti rfl (by omega) (by omega)) dX11_isHere_92 ?_
                          refine lv_topi (fun x28101479 ex28101479 => ?_)
                          have tx28101479 : x28101479.toInt = (g0 (Int32.toNatClampNeg x28101478)).toInt := by rw [ex28101479]
                          refine lv_aload_n hx hb dX11_isHere_93 rfl (lv_at hl 3 rfl) ?_
                          refine lv_iload_n hx hb dX11_isHere_94 rfl (lv_at hl 0 rfl) ?_
                          refine va_cald hx hb hK hP 0 3 rfl rfl (in_ti rfl (by omega) (by omega)) dX11_isHere_95 ?_
                          refine lv_topi (fun x28101480 ex28101480 => ?_)
                          refine lv_icmp_eq (tgt := 101) hx hb dX11_isHere_96 (by decide) (fun c28101481 => ?_) (fun c28101481 => ?_)
                          · skip
                            have kc28101481 : x28101479.toInt = x28101480.toInt := eq_ti rfl rfl c28101481
                            obtain ⟨x28101482, ex28101482⟩ : ∃ y : Int32, y = x28101466 + 1 := ⟨_, rfl⟩
                            have hx28101482 : x28101482.toInt = x28101466.toInt + 1 := ti_add ex28101482 rfl (by decide) (by omega) (by omega)
                            refine lv_iinc (v := x28101482) (lv' := [(3, .int x28101482), (2, .int x28101402), (0, .ref a), (1, .ref q1)]) hx hb dX11_isHere_101 hl (k := 0) rfl (by rw [ex28101482]; rfl) (by decide) rfl (fun ls hl => ?_)
                            refine lv_goto (tgt := 76) hx hb dX11_isHere_104 (by decide) ?_
                            exact ih28101474 x28101482 _ _ ls ⟨by omega, by omega⟩ (by omega) (hP.sub (ws' := [(q1, .inl (T 3, 2, .inl gq1)), (a, .inr (11, OX z i1 x28101276 i3 i4 i5 i6 i7 i8 i30 i43 i45 i46 i47 i48 i49 i50 i51 i58 i59 i65 i68 i69 i72 i78 i80 i81 i82 i87 i92 i96 i100 i103 i104)), ((z 0), .inl (T 0, 700, .inl g0))]) [0, 1, 2] rfl) (hD.sub (ws' := [(q1, .inl (T 3, 2, .inl gq1)), (a, .inr (11, OX z i1 x28101276 i3 i4 i5 i6 i7 i8 i30 i43 i45 i46 i47 i48 i49 i50 i51 i58 i59 i65 i68 i69 i72 i78 i80 i81 i82 i87 i92 i96 i100 i103 i104)), ((z 0), .inl (T 0, 700, .inl g0))]) [0, 1, 2] (by decide +kernel) rfl) hS (lv_sub hl [0, 1, 2, 3] rfl)
                          · skip
                            have kc28101481 : x28101479.toInt ≠ x28101480.toInt := ne_ti rfl rfl c28101481
                            refine lv_iconst (v := 0) hx hb dX11_isHere_99 (by decide) ?_
                            have hl28101483 : (0 : Int32).toInt = 0 := by decide
                            have hl28101484 : (0 : Int32).toInt = 0 := by decide
                            exact r_zret (x28101276 : Int32) C0 hr (by decide +kernel) hlocks hS (Nat.le_refl _) (Nat.le_refl _) dX11_isHere_100 ⟨⟨by omega, by omega⟩, (by omega), (Or.inl (by omega)), ⟨by decide, by decide⟩⟩ (hP.sub (ws' := [(a, .inr (11, OX z i1 x28101276 i3 i4 i5 i6 i7 i8 i30 i43 i45 i46 i47 i48 i49 i50 i51 i58 i59 i65 i68 i69 i72 i78 i80 i81 i82 i87 i92 i96 i100 i103 i104)), (q1, .inl (T 3, 2, .inl gq1)), ((z 0), .inl (T 0, 700, .inl g0))]) [1, 0, 2] rfl) (hD.sub (ws' := [(a, .inr (11, OX z i1 x28101276 i3 i4 i5 i6 i7 i8 i30 i43 i45 i46 i47 i48 i49 i50 i51 i58 i59 i65 i68 i69 i72 i78 i80 i81 i82 i87 i92 i96 i100 i103 i104)), (q1, .inl (T 3, 2, .inl gq1)), ((z 0), .inl (T 0, 700, .inl g0))]) [1, 0, 2] (by decide +kernel) rfl)
                    exact L28101473 _ 0 _ _ ls ⟨by decide, by decide⟩ (Nat.lt_succ_self _) (hP.sub (ws' := [(q1, .inl (T 3, 2, .inl gq1)), (a, .inr (11, OX z i1 x28101276 i3 i4 i5 i6 i7 i8 i30 i43 i45 i46 i47 i48 i49 i50 i51 i58 i59 i65 i68 i69 i72 i78 i80 i81 i82 i87 i92 i96 i100 i103 i104)), ((z 0), .inl (T 0, 700, .inl g0))]) [0, 1, 2] rfl) (hD.sub (ws' := [(q1, .inl (T 3, 2, .inl gq1)), (a, .inr (11, OX z i1 x28101276 i3 i4 i5 i6 i7 i8 i30 i43 i45 i46 i47 i48 i49 i50 i51 i58 i59 i65 i68 i69 i72 i78 i80 i81 i82 i87 i92 i96 i100 i103 i104)), ((z 0), .inl (T 0, 700, .inl g0))]) [0, 1, 2] (by decide +kernel) rfl) hS (lv_sub hl [0, 1, 2, 3] rfl)
                  · skip
                    have kc28101454 : x28101453.toInt ≠ 2 := ne_ti rfl (by decide) c28101454
                    refine lv_iconst (v := 0) hx hb dX11_isHere_72 (by decide) ?_
                    have hl28101485 : (0 : Int32).toInt = 0 := by decide
                    have hl28101486 : (0 : Int32).toInt = 0 := by decide
                    exact r_zret (x28101276 : Int32) C0 hr (by decide +kernel) hlocks hS (Nat.le_refl _) (Nat.le_refl _) dX11_isHere_73 ⟨⟨by omega, by omega⟩, (by omega), (Or.inl (by omega)), ⟨by decide, by decide⟩⟩ (hP.sub (ws' := [(a, .inr (11, OX z i1 x28101276 i3 i4 i5 i6 i7 i8 i30 i43 i45 i46 i47 i48 i49 i50 i51 i58 i59 i65 i68 i69 i72 i78 i80 i81 i82 i87 i92 i96 i100 i103 i104)), (q1, .inl (T 3, 2, .inl gq1)), ((z 0), .inl (T 0, 700, .inl g0))]) [1, 0, 2] rfl) (hD.sub (ws' := [(a, .inr (11, OX z i1 x28101276 i3 i4 i5 i6 i7 i8 i30 i43 i45 i46 i47 i48 i49 i50 i51 i58 i59 i65 i68 i69 i72 i78 i80 i81 i82 i87 i92 i96 i100 i103 i104)), (q1, .inl (T 3, 2, .inl gq1)), ((z 0), .inl (T 0, 700, .inl g0))]) [1, 0, 2] (by decide +kernel) rfl)
                · skip
                  have hp28101487 := hAlt
                  have hp28101487 : x28101450.toInt = 1 ∧ 97 ≤ x28101449.toInt ∧ x28101449.toInt ≤ 122 := hp28101487
                  clear hAlt
                  refine W.widen (k := 0) (n := 0) (Nat.le_refl _) (Nat.le_refl _) ?_
                  refine lv_if_eq (tgt := 61) hx hb dX11_isHere_52 (by decide) (fun hc => by have hf : x28101450.toInt = 0 := eq_ti rfl (by decide) hc; omega) (fun c28101488 => ?_)
                  have kc28101488 : x28101450.toInt ≠ 0 := ne_ti rfl (by decide) c28101488
                  obtain ⟨x28101489, ex28101489⟩ : ∃ y : Int32, y = x28101402 + 1 := ⟨_, rfl⟩
                  have hx28101489 : x28101489.toInt = x28101402.toInt + 1 := ti_add ex28101489 rfl (by decide) (by omega) (by omega)
                  refine lv_iinc (v := x28101489) (lv' := [(2, .int x28101489), (0, .ref a), (1, .ref q1)]) hx hb dX11_isHere_55 hl (k := 0) rfl (by rw [ex28101489]; rfl) (by decide) rfl (fun ls hl => ?_)
                  refine lv_goto (tgt := 35) hx hb dX11_isHere_58 (by decide) ?_
                  exact ih28101413 x28101489 _ _ ls ⟨by omega, by omega⟩ (by omega) (by omega) (hP.sub (ws' := [(q1, .inl (T 3, 2, .inl gq1)), (a, .inr (11, OX z i1 x28101276 i3 i4 i5 i6 i7 i8 i30 i43 i45 i46 i47 i48 i49 i50 i51 i58 i59 i65 i68 i69 i72 i78 i80 i81 i82 i87 i92 i96 i100 i103 i104)), ((z 0), .inl (T 0, 700, .inl g0))]) [0, 1, 2] rfl) (hD.sub (ws' := [(q1, .inl (T 3, 2, .inl gq1)), (a, .inr (11, OX z i1 x28101276 i3 i4 i5 i6 i7 i8 i30 i43 i45 i46 i47 i48 i49 i50 i51 i58 i59 i65 i68 i69 i72 i78 i80 i81 i82 i87 i92 i96 i100 i103 i104)), ((z 0), .inl (T 0, 700, .inl g0))]) [0, 1, 2] (by decide +kernel) rfl) hS (lv_sub hl [0, 1, 2] rfl)
          exact L28101411 _ x28101276 _ _ ls ⟨by omega, by omega⟩ (by omega) (Nat.lt_succ_self _) (hP.sub (ws' := [(q1, .inl (T 3, 2, .inl gq1)), (a, .inr (11, OX z i1 x28101276 i3 i4 i5 i6 i7 i8 i30 i43 i45 i46 i47 i48 i49 i50 i51 i58 i59 i65 i68 i69 i72 i78 i80 i81 i82 i87 i92 i96 i100 i103 i104)), ((z 0), .inl (T 0, 700, .inl g0))]) [0, 1, 2] rfl) (hD.sub (ws' := [(q1, .inl (T 3, 2, .inl gq1)), (a, .inr (11, OX z i1 x28101276 i3 i4 i5 i6 i7 i8 i30 i43 i45 i46 i47 i48 i49 i50 i51 i58 i59 i65 i68 i69 i72 i78 i80 i81 i82 i87 i92 i96 i100 i103 i104)), ((z 0), .inl (T 0, 700, .inl g0))]) [0, 1, 2] (by decide +kernel) rfl) hS (lv_sub hl [0, 1, 2] rfl)
        · skip
          have kc28101393 : x28101276.toInt = i4.toInt := eq_ti rfl rfl c28101393
          refine lv_iconst (v := 0) hx hb dX11_isHere_28 (by decide) ?_
          have hl28101490 : (0 : Int32).toInt = 0 := by decide
          have hl28101491 : (0 : Int32).toInt = 0 := by decide
          exact r_zret (x28101276 : Int32) C0 hr (by decide +kernel) hlocks hS (Nat.le_refl _) (Nat.le_refl _) dX11_isHere_29 ⟨⟨by omega, by omega⟩, (by omega), (Or.inl (by omega)), ⟨by decide, by decide⟩⟩ (hP.sub (ws' := [(a, .inr (11, OX z i1 x28101276 i3 i4 i5 i6 i7 i8 i30 i43 i45 i46 i47 i48 i49 i50 i51 i58 i59 i65 i68 i69 i72 i78 i80 i81 i82 i87 i92 i96 i100 i103 i104)), (q1, .inl (T 3, 2, .inl gq1)), ((z 0), .inl (T 0, 700, .inl g0))]) [1, 0, 2] rfl) (hD.sub (ws' := [(a, .inr (11, OX z i1 x28101276 i3 i4 i5 i6 i7 i8 i30 i43 i45 i46 i47 i48 i49 i50 i51 i58 i59 i65 i68 i69 i72 i78 i80 i81 i82 i87 i92 i96 i100 i103 i104)), (q1, .inl (T 3, 2, .inl gq1)), ((z 0), .inl (T 0, 700, .inl g0))]) [1, 0, 2] (by decide +kernel) rfl)
