set_option maxHeartbeats 4000000 in
set_option maxRecDepth 100000 in
theorem h_X11_isHere_28100229 (l : Launch) (D : va_G) (T : Nat → ClassId) (sq sv sz : Nat) (a : Nat) (z : Nat → Nat) (i1 i2 i3 i4 i5 i6 i7 i8 i30 i43 i45 i46 i47 i48 i49 i50 i51 i58 i59 i65 i68 i69 i72 i78 i80 i81 i82 i87 i92 i96 i100 i103 i104 : Int32) (q1 : Nat) (gq1 : Nat → Int32) (g0 : Nat → Int32) (hi2 : 0 ≤ i2.toInt ∧ i2.toInt ≤ 700) (hi3 : 0 ≤ i3.toInt ∧ i3.toInt ≤ 700) : Met l yX11_isHere (.code yX11_isHere cX11_isHere 4 (some .boolean) :: TB) { frames := 1, cells := 0, slots := 0, locals := 20 } (PC2 D T sq sv [.ref a, .ref q1] [(a, .inr (11, OX z i1 i2 i3 i4 i5 i6 i7 i8 i30 i43 i45 i46 i47 i48 i49 i50 i51 i58 i59 i65 i68 i69 i72 i78 i80 i81 i82 i87 i92 i96 i100 i103 i104)), (q1, .inl (T 3, 4, .inl gq1)), ((z 0), .inl (T 0, 700, .inl g0))] sz) (Qi (S := Int32) (fun (r : Int32) (ui2 : Int32) => (0 ≤ ui2.toInt ∧ ui2.toInt ≤ 700) ∧ (i2.toInt ≤ ui2.toInt) ∧ (((r.toInt = 0 ∧ i2.toInt ≤ ui2.toInt)) ∨ ((r.toInt = 1 ∧ i2.toInt ≤ ui2.toInt ∧ ui2.toInt + 4 ≤ i3.toInt ∧ i5.toInt = 0))) ∧ (0 ≤ r.toInt ∧ r.toInt ≤ 1)) (fun (ui2 : Int32) => [(a, .inr (11, OX z i1 ui2 i3 i4 i5 i6 i7 i8 i30 i43 i45 i46 i47 i48 i49 i50 i51 i58 i59 i65 i68 i69 i72 i78 i80 i81 i82 i87 i92 i96 i100 i103 i104)), (q1, .inl (T 3, 4, .inl gq1)), ((z 0), .inl (T 0, 700, .inl g0))]) D (va_A [(a, .inr (11, OX z i1 i2 i3 i4 i5 i6 i7 i8 i30 i43 i45 i46 i47 i48 i49 i50 i51 i58 i59 i65 i68 i69 i72 i78 i80 i81 i82 i87 i92 i96 i100 i103 i104)), (q1, .inl (T 3, 4, .inl gq1)), ((z 0), .inl (T 0, 700, .inl g0))] sz)) 0 0 (va_A [(a, .inr (11, OX z i1 i2 i3 i4 i5 i6 i7 i8 i30 i43 i45 i46 i47 i48 i49 i50 i51 i58 i59 i65 i68 i69 i72 i78 i80 i81 i82 i87 i92 i96 i100 i103 i104)), (q1, .inl (T 3, 4, .inl gq1)), ((z 0), .inl (T 0, 700, .inl g0))] sz) := by
  refine ct_begin2 (Qc := Qi (S := Int32) (fun (r : Int32) (ui2 : Int32) => (0 ≤ ui2.toInt ∧ ui2.toInt ≤ 700) ∧ (i2.toInt ≤ ui2.toInt) ∧ (((r.toInt = 0 ∧ i2.toInt ≤ ui2.toInt)) ∨ ((r.toInt = 1 ∧ i2.toInt ≤ ui2.toInt ∧ ui2.toInt + 4 ≤ i3.toInt ∧ i5.toInt = 0))) ∧ (0 ≤ r.toInt ∧ r.toInt ≤ 1)) (fun (ui2 : Int32) => [(a, .inr (11, OX z i1 ui2 i3 i4 i5 i6 i7 i8 i30 i43 i45 i46 i47 i48 i49 i50 i51 i58 i59 i65 i68 i69 i72 i78 i80 i81 i82 i87 i92 i96 i100 i103 i104)), (q1, .inl (T 3, 4, .inl gq1)), ((z 0), .inl (T 0, 700, .inl g0))]) D) (by decide +kernel) (Nat.le_of_ble_eq_true rfl) ?_
  intro p e s m below meth c A ls C0 hr hlocks hnm hE hStr hA hP hD hl
  generalize ([.ref a, .ref q1] : List Value).toArray = args at C0 ⊢
  have hx := C0.1
  have hb := C0.2.1
  have hml := C0.2.2.1
  have hown := C0.2.2.2.1
  have hT := C0.2.2.2.2
  have hK := hE.1
  generalize hH : s.heap = H at hP ⊢
  have hS : va_S A s.heap H [] := by rw [← hH]; exact va_S.rf
  have hP : va_P D vwCl [(a, .inr (11, OX z i1 i2 i3 i4 i5 i6 i7 i8 i30 i43 i45 i46 i47 i48 i49 i50 i51 i58 i59 i65 i68 i69 i72 i78 i80 i81 i82 i87 i92 i96 i100 i103 i104)), (q1, .inl (T 3, 4, .inl gq1)), ((z 0), .inl (T 0, 700, .inl g0))] H := hP
  have hD : va_D A [(a, .inr (11, OX z i1 i2 i3 i4 i5 i6 i7 i8 i30 i43 i45 i46 i47 i48 i49 i50 i51 i58 i59 i65 i68 i69 i72 i78 i80 i81 i82 i87 i92 i96 i100 i103 i104)), (q1, .inl (T 3, 4, .inl gq1)), ((z 0), .inl (T 0, 700, .inl g0))] := hD
  have hl : lv_has ls 4 [(0, .ref a), (1, .ref q1)] := hl
  refine lv_aload_n hx hb dX11_isHere_0 rfl (lv_at hl 0 rfl) ?_
  refine r_get (v := .int i5) C0 hE ffX11_5 mw_795 hP 0 rfl ox_5 dX11_isHere_1 ?_
  refine lv_if_ne (tgt := 28) hx hb dX11_isHere_4 (by decide) (fun c28100230 => ?_) (fun c28100230 => ?_)
  · skip
    have kc28100230 : i5.toInt ≠ 0 := ne_ti rfl (by decide) c28100230
    have nzi5 : ¬ i5 = 0 := c28100230
    refine lv_iconst (v := 0) hx hb dX11_isHere_28 (by decide) ?_
    have hl28100231 : (0 : Int32).toInt = 0 := by decide
    have hl28100232 : (0 : Int32).toInt = 0 := by decide
    exact r_zret (i2 : Int32) C0 hr (by decide +kernel) hlocks hS (Nat.le_refl _) (Nat.le_refl _) dX11_isHere_29 ⟨⟨by omega, by omega⟩, (by omega), (Or.inl (by omega)), ⟨by decide, by decide⟩⟩ (hP.sub (ws' := [(a, .inr (11, OX z i1 i2 i3 i4 i5 i6 i7 i8 i30 i43 i45 i46 i47 i48 i49 i50 i51 i58 i59 i65 i68 i69 i72 i78 i80 i81 i82 i87 i92 i96 i100 i103 i104)), (q1, .inl (T 3, 4, .inl gq1)), ((z 0), .inl (T 0, 700, .inl g0))]) [0, 1, 2] rfl) (hD.sub (ws' := [(a, .inr (11, OX z i1 i2 i3 i4 i5 i6 i7 i8 i30 i43 i45 i46 i47 i48 i49 i50 i51 i58 i59 i65 i68 i69 i72 i78 i80 i81 i82 i87 i92 i96 i100 i103 i104)), (q1, .inl (T 3, 4, .inl gq1)), ((z 0), .inl (T 0, 700, .inl g0))]) [0, 1, 2] (by decide +kernel) rfl)
  · skip
    have kc28100230 : i5.toInt = 0 := eq_ti rfl (by decide) c28100230
    refine lv_aload_n hx hb dX11_isHere_7 rfl (lv_at hl 0 rfl) ?_
    refine r_calli (wr := [(q1, .inl (T 3, 4, .inl gq1))]) (r_runV2 (As := []) (rest := []) (wc := [(a, .inr (11, OX z i1 i2 i3 i4 i5 i6 i7 i8 i30 i43 i45 i46 i47 i48 i49 i50 i51 i58 i59 i65 i68 i69 i72 i78 i80 i81 i82 i87 i92 i96 i100 i103 i104)), ((z 0), .inl (T 0, 700, .inl g0))]) (ci := 11) C0 hE hStr hS (va_free (wc := [(a, .inr (11, OX z i1 i2 i3 i4 i5 i6 i7 i8 i30 i43 i45 i46 i47 i48 i49 i50 i51 i58 i59 i65 i68 i69 i72 i78 i80 i81 i82 i87 i92 i96 i100 i103 i104)), ((z 0), .inl (T 0, 700, .inl g0))]) hD hS hA [0, 2] rfl) (h_X11_look_20600027 l D T sq sv H.size a z i1 i2 i3 i4 i5 i6 i7 i8 i30 i43 i45 i46 i47 i48 i49 i50 i51 i58 i59 i65 i68 i69 i72 i78 i80 i81 i82 i87 i92 i96 i100 i103 i104 g0 ⟨by omega, by omega⟩ ⟨by omega, by omega⟩) mw_913 mw_914 mw_1297 mw_14 mw_915 dn_1710 rfl rfl ⟨Nat.le_of_ble_eq_true rfl, Nat.le_of_ble_eq_true rfl⟩ (hP.sub (ws' := [(a, .inr (11, OX z i1 i2 i3 i4 i5 i6 i7 i8 i30 i43 i45 i46 i47 i48 i49 i50 i51 i58 i59 i65 i68 i69 i72 i78 i80 i81 i82 i87 i92 i96 i100 i103 i104)), ((z 0), .inl (T 0, 700, .inl g0))]) [0, 2] rfl) (hD.sub (ws' := [(a, .inr (11, OX z i1 i2 i3 i4 i5 i6 i7 i8 i30 i43 i45 i46 i47 i48 i49 i50 i51 i58 i59 i65 i68 i69 i72 i78 i80 i81 i82 i87 i92 i96 i100 i103 i104)), ((z 0), .inl (T 0, 700, .inl g0))]) [0, 2] (by decide +kernel) rfl) rfl rfl rfl hl.1 rfl (Nat.le_of_ble_eq_true rfl) dX11_isHere_8 ⟨Nat.le_of_ble_eq_true rfl, Nat.le_of_ble_eq_true rfl⟩) hP hD hS hA [0, 2] [1] rfl rfl (by decide +kernel) (by decide +kernel) (fun x28100233 u H locs hq hP hD hS => ?_)
    obtain ⟨x28100234, rfl⟩ : ∃ y, y = u := ⟨_, rfl⟩
    obtain ⟨hx28100234, hp28100235, hAlt⟩ := hq
    have hx28100234 : 0 ≤ x28100234.toInt ∧ x28100234.toInt ≤ 700 := hx28100234
    have hp28100235 : i2.toInt ≤ x28100234.toInt := hp28100235
    have hP : va_P D vwCl [(q1, .inl (T 3, 4, .inl gq1)), (a, .inr (11, OX z i1 x28100234 i3 i4 i5 i6 i7 i8 i30 i43 i45 i46 i47 i48 i49 i50 i51 i58 i59 i65 i68 i69 i72 i78 i80 i81 i82 i87 i92 i96 i100 i103 i104)), ((z 0), .inl (T 0, 700, .inl g0))] H := hP
    have hD : va_D A [(q1, .inl (T 3, 4, .inl gq1)), (a, .inr (11, OX z i1 x28100234 i3 i4 i5 i6 i7 i8 i30 i43 i45 i46 i47 i48 i49 i50 i51 i58 i59 i65 i68 i69 i72 i78 i80 i81 i82 i87 i92 i96 i100 i103 i104)), ((z 0), .inl (T 0, 700, .inl g0))] := hD
    rcases hAlt with hAlt | hAlt
    · skip
      have hp28100236 := hAlt
      have hp28100236 : x28100233.toInt = -1 ∧ i2.toInt ≤ x28100234.toInt := hp28100236
      clear hAlt
      refine W.widen (k := 0) (n := 0) (Nat.le_refl _) (Nat.le_refl _) ?_
      refine r_calli (wr := [(q1, .inl (T 3, 4, .inl gq1)), (a, .inr (11, OX z i1 x28100234 i3 i4 i5 i6 i7 i8 i30 i43 i45 i46 i47 i48 i49 i50 i51 i58 i59 i65 i68 i69 i72 i78 i80 i81 i82 i87 i92 i96 i100 i103 i104)), ((z 0), .inl (T 0, 700, .inl g0))]) (r_runS2 (As := [.int x28100233]) (rest := []) (wc := []) C0 hE hStr hS (va_free (wc := []) hD hS hA [] rfl) (h_X11_isLetter_20100005 l D T sq sv H.size x28100233) mw_928 mw_929 mw_14 mw_930 dn_1708 rfl rfl ⟨Nat.le_of_ble_eq_true rfl, Nat.le_of_ble_eq_true rfl⟩ (hP.sub (ws' := []) [] rfl) (hD.sub (ws' := []) [] (by decide +kernel) rfl) hl.1 rfl (Nat.le_of_ble_eq_true rfl) dX11_isHere_11 ⟨Nat.le_of_ble_eq_true rfl, Nat.le_of_ble_eq_true rfl⟩) hP hD hS hA [] [0, 1, 2] rfl rfl (by decide +kernel) (by decide +kernel) (fun x28100237 u H locs hq hP hD hS => ?_)
      obtain ⟨hAlt, hx28100237⟩ := hq
      have hx28100237 : 0 ≤ x28100237.toInt ∧ x28100237.toInt ≤ 1 := hx28100237
      have hP : va_P D vwCl [(q1, .inl (T 3, 4, .inl gq1)), (a, .inr (11, OX z i1 x28100234 i3 i4 i5 i6 i7 i8 i30 i43 i45 i46 i47 i48 i49 i50 i51 i58 i59 i65 i68 i69 i72 i78 i80 i81 i82 i87 i92 i96 i100 i103 i104)), ((z 0), .inl (T 0, 700, .inl g0))] H := hP
      have hD : va_D A [(q1, .inl (T 3, 4, .inl gq1)), (a, .inr (11, OX z i1 x28100234 i3 i4 i5 i6 i7 i8 i30 i43 i45 i46 i47 i48 i49 i50 i51 i58 i59 i65 i68 i69 i72 i78 i80 i81 i82 i87 i92 i96 i100 i103 i104)), ((z 0), .inl (T 0, 700, .inl g0))] := hD
      rcases hAlt with hAlt | hAlt
      · skip
        have hp28100238 := hAlt
        have hp28100238 : x28100237.toInt = 0 := hp28100238
        clear hAlt
        refine W.widen (k := 0) (n := 0) (Nat.le_refl _) (Nat.le_refl _) ?_
        refine lv_if_eq (tgt := 28) hx hb dX11_isHere_14 (by decide) (fun c28100239 => ?_) (fun hc => by have hf : x28100237.toInt ≠ 0 := ne_ti rfl (by decide) hc; omega)
        have kc28100239 : x28100237.toInt = 0 := eq_ti rfl (by decide) c28100239
        refine lv_iconst (v := 0) hx hb dX11_isHere_28 (by decide) ?_
        have hl28100240 : (0 : Int32).toInt = 0 := by decide
        have hl28100241 : (0 : Int32).toInt = 0 := by decide
        exact r_zret (x28100234 : Int32) C0 hr (by decide +kernel) hlocks hS (Nat.le_refl _) (Nat.le_refl _) dX11_isHere_29 ⟨⟨by omega, by omega⟩, (by omega), (Or.inl (by omega)), ⟨by decide, by decide⟩⟩ (hP.sub (ws' := [(a, .inr (11, OX z i1 x28100234 i3 i4 i5 i6 i7 i8 i30 i43 i45 i46 i47 i48 i49 i50 i51 i58 i59 i65 i68 i69 i72 i78 i80 i81 i82 i87 i92 i96 i100 i103 i104)), (q1, .inl (T 3, 4, .inl gq1)), ((z 0), .inl (T 0, 700, .inl g0))]) [1, 0, 2] rfl) (hD.sub (ws' := [(a, .inr (11, OX z i1 x28100234 i3 i4 i5 i6 i7 i8 i30 i43 i45 i46 i47 i48 i49 i50 i51 i58 i59 i65 i68 i69 i72 i78 i80 i81 i82 i87 i92 i96 i100 i103 i104)), (q1, .inl (T 3, 4, .inl gq1)), ((z 0), .inl (T 0, 700, .inl g0))]) [1, 0, 2] (by decide +kernel) rfl)
      · skip
        have hp28100242 := hAlt
        have hp28100242 : x28100237.toInt = 1 ∧ 97 ≤ x28100233.toInt ∧ x28100233.toInt ≤ 122 := hp28100242
        clear hAlt
        refine W.widen (k := 0) (n := 0) (Nat.le_refl _) (Nat.le_refl _) ?_
        refine lv_if_eq (tgt := 28) hx hb dX11_isHere_14 (by decide) (fun hc => by have hf : x28100237.toInt = 0 := eq_ti rfl (by decide) hc; omega) (fun c28100243 => ?_)
        have kc28100243 : x28100237.toInt ≠ 0 := ne_ti rfl (by decide) c28100243
        refine lv_aload_n hx hb dX11_isHere_17 rfl (lv_at hl 0 rfl) ?_
        refine r_get (v := .int x28100234) C0 hE ffX11_2 mw_792 hP 1 rfl ox_2 dX11_isHere_18 ?_
        refine lv_aload_n hx hb dX11_isHere_21 rfl (lv_at hl 0 rfl) ?_
        refine r_get (v := .int i4) C0 hE ffX11_4 mw_794 hP 1 rfl ox_4 dX11_isHere_22 ?_
        refine lv_icmp_ne (tgt := 30) hx hb dX11_isHere_25 (by decide) (fun c28100244 => ?_) (fun c28100244 => ?_)
        · skip
          have kc28100244 : x28100234.toInt ≠ i4.toInt := ne_ti rfl rfl c28100244
          refine lv_aload_n hx hb dX11_isHere_30 rfl (lv_at hl 0 rfl) ?_
          refine r_get (v := .int x28100234) C0 hE ffX11_2 mw_792 hP 1 rfl ox_2 dX11_isHere_31 ?_
          refine lv_istore_n (lv' := [(2, .int x28100234), (0, .ref a), (1, .ref q1)]) hx hb dX11_isHere_34 rfl hl (by decide) rfl (fun ls hl => ?_)
          have L28100262 : ∀ (n : Nat) (x28100253 : Int32) (H : Heap) (locs : List Loc) (ls : Array Slot), (0 ≤ x28100253.toInt ∧ x28100253.toInt ≤ 700) → (x28100234.toInt ≤ x28100253.toInt ∧ x28100253.toInt ≤ i3.toInt) → (701 - x28100253.toInt).toNat < n → va_P D vwCl [(q1, .inl (T 3, 4, .inl gq1)), (a, .inr (11, OX z i1 x28100234 i3 i4 i5 i6 i7 i8 i30 i43 i45 i46 i47 i48 i49 i50 i51 i58 i59 i65 i68 i69 i72 i78 i80 i81 i82 i87 i92 i96 i100 i103 i104)), ((z 0), .inl (T 0, 700, .inl g0))] H → va_D A [(q1, .inl (T 3, 4, .inl gq1)), (a, .inr (11, OX z i1 x28100234 i3 i4 i5 i6 i7 i8 i30 i43 i45 i46 i47 i48 i49 i50 i51 i58 i59 i65 i68 i69 i72 i78 i80 i81 i82 i87 i92 i96 i100 i103 i104)), ((z 0), .inl (T 0, 700, .inl g0))] → va_S A s.heap H locs → lv_has ls 4 [(2, .int x28100253), (0, .ref a), (1, .ref q1)] → W p l e { frames := 1, cells := 0, slots := 0, locals := 20 } s m args below meth c H locs 0 0 (MQ below ((Qi (S := Int32) (fun (r : Int32) (ui2 : Int32) => (0 ≤ ui2.toInt ∧ ui2.toInt ≤ 700) ∧ (i2.toInt ≤ ui2.toInt) ∧ (((r.toInt = 0 ∧ i2.toInt ≤ ui2.toInt)) ∨ ((r.toInt = 1 ∧ i2.toInt ≤ ui2.toInt ∧ ui2.toInt + 4 ≤ i3.toInt ∧ i5.toInt = 0))) ∧ (0 ≤ r.toInt ∧ r.toInt ≤ 1)) (fun (ui2 : Int32) => [(a, .inr (11, OX z i1 ui2 i3 i4 i5 i6 i7 i8 i30 i43 i45 i46 i47 i48 i49 i50 i51 i58 i59 i65 i68 i69 i72 i78 i80 i81 i82 i87 i92 i96 i100 i103 i104)), (q1, .inl (T 3, 4, .inl gq1)), ((z 0), .inl (T 0, 700, .inl g0))]) D) A) args s 0 0 A) (F0 m 35 ls []) := by
            intro n
            induction n with
            | zero =>
              intro x28100253 H locs ls hx28100253 hr28100263 hms hP hD hS hl
              exact absurd hms (Nat.not_lt_zero _)
            | succ n ih28100264 =>
              intro x28100253 H locs ls hx28100253 hr28100263 hms hP hD hS hl
              refine lv_iload_n hx hb dX11_isHere_35 rfl (lv_at hl 0 rfl) ?_
              refine lv_aload_n hx hb dX11_isHere_36 rfl (lv_at hl 1 rfl) ?_
              refine r_get (v := .int i3) C0 hE ffX11_3 mw_793 hP 1 rfl ox_3 dX11_isHere_37 ?_
              refine lv_icmp_ge (tgt := 61) hx hb dX11_isHere_40 (by decide) (fun c28100265 => ?_) (fun c28100265 => ?_)
              · skip
                have kc28100265 : i3.toInt ≤ x28100253.toInt := le_ti rfl rfl c28100265
                refine lv_iload_n hx hb dX11_isHere_61 rfl (lv_at hl 0 rfl) ?_
                refine lv_aload_n hx hb dX11_isHere_62 rfl (lv_at hl 1 rfl) ?_
                refine r_get (v := .int x28100234) C0 hE ffX11_2 mw_792 hP 1 rfl ox_2 dX11_isHere_63 ?_
                refine lv_isub hx hb dX11_isHere_66 ?_
                refine lv_topi (fun x28100266 ex28100266 => ?_)
                have hx28100266 : x28100266.toInt = x28100253.toInt - x28100234.toInt := ti_sub ex28100266 rfl rfl (by omega) (by omega)
                refine lv_aload_n hx hb dX11_isHere_67 rfl (lv_at hl 2 rfl) ?_
                refine va_alen (v := 4) hx hb hK hP 0 3 rfl rfl rfl dX11_isHere_68 ?_
                refine lv_icmp_eq (tgt := 74) hx hb dX11_isHere_69 (by decide) (fun c28100267 => ?_) (fun c28100267 => ?_)
                · skip
                  have kc28100267 : x28100266.toInt = 4 := eq_ti rfl (by decide) c28100267
                  refine lv_iconst (v := 0) hx hb dX11_isHere_74 (by decide) ?_
                  refine lv_istore_n (lv' := [(3, .int 0), (2, .int x28100253), (0, .ref a), (1, .ref q1)]) hx hb dX11_isHere_75 rfl hl (by decide) rfl (fun ls hl => ?_)
                  have L28100300 : ∀ (n : Nat) (x28100293 : Int32) (H : Heap) (locs : List Loc) (ls : Array Slot), (0 ≤ x28100293.toInt ∧ x28100293.toInt ≤ 4) → (5 - x28100293.toInt).toNat < n → va_P D vwCl [(q1, .inl (T 3, 4, .inl gq1)), (a, .inr (11, OX z i1 x28100234 i3 i4 i5 i6 i7 i8 i30 i43 i45 i46 i47 i48 i49 i50 i51 i58 i59 i65 i68 i69 i72 i78 i80 i81 i82 i87 i92 i96 i100 i103 i104)), ((z 0), .inl (T 0, 700, .inl g0))] H → va_D A [(q1, .inl (T 3, 4, .inl gq1)), (a, .inr (11, OX z i1 x28100234 i3 i4 i5 i6 i7 i8 i30 i43 i45 i46 i47 i48 i49 i50 i51 i58 i59 i65 i68 i69 i72 i78 i80 i81 i82 i87 i92 i96 i100 i103 i104)), ((z 0), .inl (T 0, 700, .inl g0))] → va_S A s.heap H locs → lv_has ls 4 [(3, .int x28100293), (2, .int x28100253), (0, .ref a), (1, .ref q1)] → W p l e { frames := 1, cells := 0, slots := 0, locals := 20 } s m args below meth c H locs 0 0 (MQ below ((Qi (S := Int32) (fun (r : Int32) (ui2 : Int32) => (0 ≤ ui2.toInt ∧ ui2.toInt ≤ 700) ∧ (i2.toInt ≤ ui2.toInt) ∧ (((r.toInt = 0 ∧ i2.toInt ≤ ui2.toInt)) ∨ ((r.toInt = 1 ∧ i2.toInt ≤ ui2.toInt ∧ ui2.toInt + 4 ≤ i3.toInt ∧ i5.toInt = 0))) ∧ (0 ≤ r.toInt ∧ r.toInt ≤ 1)) (fun (ui2 : Int32) => [(a, .inr (11, OX z i1 ui2 i3 i4 i5 i6 i7 i8 i30 i43 i45 i46 i47 i48 i49 i50 i51 i58 i59 i65 i68 i69 i72 i78 i80 i81 i82 i87 i92 i96 i100 i103 i104)), (q1, .inl (T 3, 4, .inl gq1)), ((z 0), .inl (T 0, 700, .inl g0))]) D) A) args s 0 0 A) (F0 m 76 ls []) := by
                    intro n
                    induction n with
                    | zero =>
                      intro x28100293 H locs ls hx28100293 hms hP hD hS hl
                      exact absurd hms (Nat.not_lt_zero _)
                    | succ n ih28100301 =>
                      intro x28100293 H locs ls hx28100293 hms hP hD hS hl
                      refine lv_iload_n hx hb dX11_isHere_76 rfl (lv_at hl 0 rfl) ?_
                      refine lv_aload_n hx hb dX11_isHere_77 rfl (lv_at hl 3 rfl) ?_
                      refine va_alen (v := 4) hx hb hK hP 0 3 rfl rfl rfl dX11_isHere_78 ?_
                      refine lv_icmp_ge (tgt := 107) hx hb dX11_isHere_79 (by decide) (fun c28100302 => ?_) (fun c28100302 => ?_)
                      · skip
                        have kc28100302 : 4 ≤ x28100293.toInt := le_ti (by decide) rfl c28100302
                        refine lv_iconst (v := 1) hx hb dX11_isHere_107 (by decide) ?_
                        have hl28100303 : (1 : Int32).toInt = 1 := by decide
                        have hl28100304 : (1 : Int32).toInt = 1 := by decide
                        exact r_zret (x28100234 : Int32) C0 hr (by decide +kernel) hlocks hS (Nat.le_refl _) (Nat.le_refl _) dX11_isHere_108 ⟨⟨by omega, by omega⟩, (by omega), (Or.inr (by omega)), ⟨by decide, by decide⟩⟩ (hP.sub (ws' := [(a, .inr (11, OX z i1 x28100234 i3 i4 i5 i6 i7 i8 i30 i43 i45 i46 i47 i48 i49 i50 i51 i58 i59 i65 i68 i69 i72 i78 i80 i81 i82 i87 i92 i96 i100 i103 i104)), (q1, .inl (T 3, 4, .inl gq1)), ((z 0), .inl (T 0, 700, .inl g0))]) [1, 0, 2] rfl) (hD.sub (ws' := [(a, .inr (11, OX z i1 x28100234 i3 i4 i5 i6 i7 i8 i30 i43 i45 i46 i47 i48 i49 i50 i51 i58 i59 i65 i68 i69 i72 i78 i80 i81 i82 i87 i92 i96 i100 i103 i104)), (q1, .inl (T 3, 4, .inl gq1)), ((z 0), .inl (T 0, 700, .inl g0))]) [1, 0, 2] (by decide +kernel) rfl)
                      · skip
                        have kc28100302 : x28100293.toInt < 4 := nle_ti (by decide) rfl c28100302
                        refine lv_aload_n hx hb dX11_isHere_82 rfl (lv_at hl 2 rfl) ?_
                        refine r_get (v := .ref (z 0)) C0 hE ffX11_0 mw_790 hP 1 rfl ox_0 dX11_isHere_83 ?_
                        refine lv_aload_n hx hb dX11_isHere_86 rfl (lv_at hl 2 rfl) ?_
                        refine r_get (v := .int x28100234) C0 hE ffX11_2 mw_792 hP 1 rfl ox_2 dX11_isHere_87 ?_
                        refine lv_iload_n hx hb dX11_isHere_90 rfl (lv_at hl 0 rfl) ?_
                        refine lv_iadd hx hb dX11_isHere_91 ?_
                        refine lv_topi (fun x28100305 ex28100305 => ?_)
                        have hx28100305 : x28100305.toInt = x28100234.toInt + x28100293.toInt := ti_add ex28100305 rfl rfl (by omega) (by omega)
                        refine va_iald hx hb hK hP 2 0 rfl rfl (in_ti rfl (by omega) (by omega)) dX11_isHere_92 ?_
                        refine lv_topi (fun x28100306 ex28100306 => ?_)
                        have tx28100306 : x28100306.toInt = (g0 (Int32.toNatClampNeg x28100305)).toInt := by rw [ex28100306]
                        refine lv_aload_n hx hb dX11_isHere_93 rfl (lv_at hl 3 rfl) ?_
                        refine lv_iload_n hx hb dX11_isHere_94 rfl (lv_at hl 0 rfl) ?_
                        refine va_cald hx hb hK hP 0 3 rfl rfl (in_ti rfl (by omega) (by omega)) dX11_isHere_95 ?_
                        refine lv_topi (fun x28100307 ex28100307 => ?_)
                        refine lv_icmp_eq (tgt := 101) hx hb dX11_isHere_96 (by decide) (fun c28100308 => ?_) (fun c28100308 => ?_)
                        · skip
                          have kc28100308 : x28100306.toInt = x28100307.toInt := eq_ti rfl rfl c28100308
                          obtain ⟨x28100309, ex28100309⟩ : ∃ y : Int32, y = x28100293 + 1 := ⟨_, rfl⟩
                          have hx28100309 : x28100309.toInt = x28100293.toInt + 1 := ti_add ex28100309 rfl (by decide) (by omega) (by omega)
                          refine lv_iinc (v := x28100309) (lv' := [(3, .int x28100309), (2, .int x28100253), (0, .ref a), (1, .ref q1)]) hx hb dX11_isHere_101 hl (k := 0) rfl (by rw [ex28100309]; rfl) (by decide) rfl (fun ls hl => ?_)
                          refine lv_goto (tgt := 76) hx hb dX11_isHere_104 (by decide) ?_
                          exact ih28100301 x28100309 _ _ ls ⟨by omega, by omega⟩ (by omega) (hP.sub (ws' := [(q1, .inl (T 3, 4, .inl gq1)), (a, .inr (11, OX z i1 x28100234 i3 i4 i5 i6 i7 i8 i30 i43 i45 i46 i47 i48 i49 i50 i51 i58 i59 i65 i68 i69 i72 i78 i80 i81 i82 i87 i92 i96 i100 i103 i104)), ((z 0), .inl (T 0, 700, .inl g0))]) [0, 1, 2] rfl) (hD.sub (ws' := [(q1, .inl (T 3, 4, .inl gq1)), (a, .inr (11, OX z i1 x28100234 i3 i4 i5 i6 i7 i8 i30 i43 i45 i46 i47 i48 i49 i50 i51 i58 i59 i65 i68 i69 i72 i78 i80 i81 i82 i87 i92 i96 i100 i103 i104)), ((z 0), .inl (T 0, 700, .inl g0))]) [0, 1, 2] (by decide +kernel) rfl) hS (lv_sub hl [0, 1, 2, 3] rfl)
                        · skip
                          have kc28100308 : x28100306.toInt ≠ x28100307.toInt := ne_ti rfl rfl c28100308
                          refine lv_iconst (v := 0) hx hb dX11_isHere_99 (by decide) ?_
                          have hl28100310 : (0 : Int32).toInt = 0 := by decide
                          have hl28100311 : (0 : Int32).toInt = 0 := by decide
                          exact r_zret (x28100234 : Int32) C0 hr (by decide +kernel) hlocks hS (Nat.le_refl _) (Nat.le_refl _) dX11_isHere_100 ⟨⟨by omega, by omega⟩, (by omega), (Or.inl (by omega)), ⟨by decide, by decide⟩⟩ (hP.sub (ws' := [(a, .inr (11, OX z i1 x28100234 i3 i4 i5 i6 i7 i8 i30 i43 i45 i46 i47 i48 i49 i50 i51 i58 i59 i65 i68 i69 i72 i78 i80 i81 i82 i87 i92 i96 i100 i103 i104)), (q1, .inl (T 3, 4, .inl gq1)), ((z 0), .inl (T 0, 700, .inl g0))]) [1, 0, 2] rfl) (hD.sub (ws' := [(a, .inr (11, OX z i1 x28100234 i3 i4 i5 i6 i7 i8 i30 i43 i45 i46 i47 i48 i49 i50 i51 i58 i59 i65 i68 i69 i72 i78 i80 i81 i82 i87 i92 i96 i100 i103 i104)), (q1, .inl (T 3, 4, .inl gq1)), ((z 0), .inl (T 0, 700, .inl g0))]) [1, 0, 2] (by decide +kernel) rfl)
                  exact L28100300 _ 0 _ _ ls ⟨by decide, by decide⟩ (Nat.lt_succ_self _) (hP.sub (ws' := [(q1, .inl (T 3, 4, .inl gq1)), (a, .inr (11, OX z i1 x28100234 i3 i4 i5 i6 i7 i8 i30 i43 i45 i46 i47 i48 i49 i50 i51 i58 i59 i65 i68 i69 i72 i78 i80 i81 i82 i87 i92 i96 i100 i103 i104)), ((z 0), .inl (T 0, 700, .inl g0))]) [0, 1, 2] rfl) (hD.sub (ws' := [(q1, .inl (T 3, 4, .inl gq1)), (a, .inr (11, OX z i1 x28100234 i3 i4 i5 i6 i7 i8 i30 i43 i45 i46 i47 i48 i49 i50 i51 i58 i59 i65 i68 i69 i72 i78 i80 i81 i82 i87 i92 i96 i100 i103 i104)), ((z 0), .inl (T 0, 700, .inl g0))]) [0, 1, 2] (by decide +kernel) rfl) hS (lv_sub hl [0, 1, 2, 3] rfl)
                · skip
                  have kc28100267 : x28100266.toInt ≠ 4 := ne_ti rfl (by decide) c28100267
                  refine lv_iconst (v := 0) hx hb dX11_isHere_72 (by decide) ?_
                  have hl28100312 : (0 : Int32).toInt = 0 := by decide
                  have hl28100313 : (0 : Int32).toInt = 0 := by decide
                  exact r_zret (x28100234 : Int32) C0 hr (by decide +kernel) hlocks hS (Nat.le_refl _) (Nat.le_refl _) dX11_isHere_73 ⟨⟨by omega, by omega⟩, (by omega), (Or.inl (by omega)), ⟨by decide, by decide⟩⟩ (hP.sub (ws' := [(a, .inr (11, OX z i1 x28100234 i3 i4 i5 i6 i7 i8 i30 i43 i45 i46 i47 i48 i49 i50 i51 i58 i59 i65 i68 i69 i72 i78 i80 i81 i82 i87 i92 i96 i100 i103 i104)), (q1, .inl (T 3, 4, .inl gq1)), ((z 0), .inl (T 0, 700, .inl g0))]) [1, 0, 2] rfl) (hD.sub (ws' := [(a, .inr (11, OX z i1 x28100234 i3 i4 i5 i6 i7 i8 i30 i43 i45 i46 i47 i48 i49 i50 i51 i58 i59 i65 i68 i69 i72 i78 i80 i81 i82 i87 i92 i96 i100 i103 i104)), (q1, .inl (T 3, 4, .inl gq1)), ((z 0), .inl (T 0, 700, .inl g0))]) [1, 0, 2] (by decide +kernel) rfl)
              · skip
                have kc28100265 : x28100253.toInt < i3.toInt := nle_ti rfl rfl c28100265
                refine lv_aload_n hx hb dX11_isHere_43 rfl (lv_at hl 1 rfl) ?_
                refine r_get (v := .ref (z 0)) C0 hE ffX11_0 mw_790 hP 1 rfl ox_0 dX11_isHere_44 ?_
                refine lv_iload_n hx hb dX11_isHere_47 rfl (lv_at hl 0 rfl) ?_
                refine va_iald hx hb hK hP 2 0 rfl rfl (in_ti rfl (by omega) (by omega)) dX11_isHere_48 ?_
                refine lv_topi (fun x28100314 ex28100314 => ?_)
                have tx28100314 : x28100314.toInt = (g0 (Int32.toNatClampNeg x28100253)).toInt := by rw [ex28100314]
                refine r_calli (wr := [(q1, .inl (T 3, 4, .inl gq1)), (a, .inr (11, OX z i1 x28100234 i3 i4 i5 i6 i7 i8 i30 i43 i45 i46 i47 i48 i49 i50 i51 i58 i59 i65 i68 i69 i72 i78 i80 i81 i82 i87 i92 i96 i100 i103 i104)), ((z 0), .inl (T 0, 700, .inl g0))]) (r_runS2 (As := [.int x28100314]) (rest := []) (wc := []) C0 hE hStr hS (va_free (wc := []) hD hS hA [] rfl) (h_X11_isLetter_20100005 l D T sq sv H.size x28100314) mw_928 mw_929 mw_14 mw_930 dn_1708 rfl rfl ⟨Nat.le_of_ble_eq_true rfl, Nat.le_of_ble_eq_true rfl⟩ (hP.sub (ws' := []) [] rfl) (hD.sub (ws' := []) [] (by decide +kernel) rfl) hl.1 rfl (Nat.le_of_ble_eq_true rfl) dX11_isHere_49 ⟨Nat.le_of_ble_eq_true rfl, Nat.le_of_ble_eq_true rfl⟩) hP hD hS hA [] [0, 1, 2] rfl rfl (by decide +kernel) (by decide +kernel) (fun x28100315 u H locs hq hP hD hS => ?_)
                obtain ⟨hAlt, hx28100315⟩ := hq
                have hx28100315 : 0 ≤ x28100315.toInt ∧ x28100315.toInt ≤ 1 := hx28100315
                have hP : va_P D vwCl [(q1, .inl (T 3, 4, .inl gq1)), (a, .inr (11, OX z i1 x28100234 i3 i4 i5 i6 i7 i8 i30 i43 i45 i46 i47 i48 i49 i50 i51 i58 i59 i65 i68 i69 i72 i78 i80 i81 i82 i87 i92 i96 i100 i103 i104)), ((z 0), .inl (T 0, 700, .inl g0))] H := hP
                have hD : va_D A [(q1, .inl (T 3, 4, .inl gq1)), (a, .inr (11, OX z i1 x28100234 i3 i4 i5 i6 i7 i8 i30 i43 i45 i46 i47 i48 i49 i50 i51 i58 i59 i65 i68 i69 i72 i78 i80 i81 i82 i87 i92 i96 i100 i103 i104)), ((z 0), .inl (T 0, 700, .inl g0))] := hD
                rcases hAlt with hAlt | hAlt
                · skip
                  have hp28100316 := hAlt
                  have hp28100316 : x28100315.toInt = 0 := hp28100316
                  clear hAlt
                  refine W.widen (k := 0) (n := 0) (Nat.le_refl _) (Nat.le_refl _) ?_
                  refine lv_if_eq (tgt := 61) hx hb dX11_isHere_52 (by decide) (fun c28100317 => ?_) (fun hc => by have hf : x28100315.toInt ≠ 0 := ne_ti rfl (by decide) hc; omega)
                  have kc28100317 : x28100315.toInt = 0 := eq_ti rfl (by decide) c28100317
                  refine lv_iload_n hx hb dX11_isHere_61 rfl (lv_at hl 0 rfl) ?_
                  refine lv_aload_n hx hb dX11_isHere_62 rfl (lv_at hl 1 rfl) ?_
                  refine r_get (v := .int x28100234) C0 hE ffX11_2 mw_792 hP 1 rfl ox_2 dX11_isHere_63 ?_
                  refine lv_isub hx hb dX11_isHere_66 ?_
                  refine lv_topi (fun x28100318 ex28100318 => ?_)
                  have hx28100318 : x28100318.toInt = x28100253.toInt - x28100234.toInt := ti_sub ex28100318 rfl rfl (by omega) (by omega)
                  refine lv_aload_n hx hb dX11_isHere_67 rfl (lv_at hl 2 rfl) ?_
                  refine va_alen (v := 4) hx hb hK hP 0 3 rfl rfl rfl dX11_isHere_68 ?_
                  refine lv_icmp_eq (tgt := 74) hx hb dX11_isHere_69 (by decide) (fun c28100319 => ?_) (fun c28100319 => ?_)
                  · skip
                    have kc28100319 : x28100318.toInt = 4 := eq_ti rfl (by decide) c28100319
                    refine lv_iconst (v := 0) hx hb dX11_isHere_74 (by decide) ?_
                    refine lv_istore_n (lv' := [(3, .int 0), (2, .int x28100253), (0, .ref a), (1, .ref q1)]) hx hb dX11_isHere_75 rfl hl (by decide) rfl (fun ls hl => ?_)
                    have L28100352 : ∀ (n : Nat) (x28100345 : Int32) (H : Heap) (locs : List Loc) (ls : Array Slot), (0 ≤ x28100345.toInt ∧ x28100345.toInt ≤ 4) → (5 - x28100345.toInt).toNat < n → va_P D vwCl [(q1, .inl (T 3, 4, .inl gq1)), (a, .inr (11, OX z i1 x28100234 i3 i4 i5 i6 i7 i8 i30 i43 i45 i46 i47 i48 i49 i50 i51 i58 i59 i65 i68 i69 i72 i78 i80 i81 i82 i87 i92 i96 i100 i103 i104)), ((z 0), .inl (T 0, 700, .inl g0))] H → va_D A [(q1, .inl (T 3, 4, .inl gq1)), (a, .inr (11, OX z i1 x28100234 i3 i4 i5 i6 i7 i8 i30 i43 i45 i46 i47 i48 i49 i50 i51 i58 i59 i65 i68 i69 i72 i78 i80 i81 i82 i87 i92 i96 i100 i103 i104)), ((z 0), .inl (T 0, 700, .inl g0))] → va_S A s.heap H locs → lv_has ls 4 [(3, .int x28100345), (2, .int x28100253), (0, .ref a), (1, .ref q1)] → W p l e { frames := 1, cells := 0, slots := 0, locals := 20 } s m args below meth c H locs 0 0 (MQ below ((Qi (S := Int32) (fun (r : Int32) (ui2 : Int32) => (0 ≤ ui2.toInt ∧ ui2.toInt ≤ 700) ∧ (i2.toInt ≤ ui2.toInt) ∧ (((r.toInt = 0 ∧ i2.toInt ≤ ui2.toInt)) ∨ ((r.toInt = 1 ∧ i2.toInt ≤ ui2.toInt ∧ ui2.toInt + 4 ≤ i3.toInt ∧ i5.toInt = 0))) ∧ (0 ≤ r.toInt ∧ r.toInt ≤ 1)) (fun (ui2 : Int32) => [(a, .inr (11, OX z i1 ui2 i3 i4 i5 i6 i7 i8 i30 i43 i45 i46 i47 i48 i49 i50 i51 i58 i59 i65 i68 i69 i72 i78 i80 i81 i82 i87 i92 i96 i100 i103 i104)), (q1, .inl (T 3, 4, .inl gq1)), ((z 0), .inl (T 0, 700, .inl g0))]) D) A) args s 0 0 A) (F0 m 76 ls []) := by
                      intro n
                      induction n with
                      | zero =>
                        intro x28100345 H locs ls hx28100345 hms hP hD hS hl
                        exact absurd hms (Nat.not_lt_zero _)
                      | succ n ih28100353 =>
                        intro x28100345 H locs ls hx28100345 hms hP hD hS hl
                        refine lv_iload_n hx hb dX11_isHere_76 rfl (lv_at hl 0 rfl) ?_
                        refine lv_aload_n hx hb dX11_isHere_77 rfl (lv_at hl 3 rfl) ?_
                        refine va_alen (v := 4) hx hb hK hP 0 3 rfl rfl rfl dX11_isHere_78 ?_
                        refine lv_icmp_ge (tgt := 107) hx hb dX11_isHere_79 (by decide) (fun c28100354 => ?_) (fun c28100354 => ?_)
                        · skip
                          have kc28100354 : 4 ≤ x28100345.toInt := le_ti (by decide) rfl c28100354
                          refine lv_iconst (v := 1) hx hb dX11_isHere_107 (by decide) ?_
                          have hl28100355 : (1 : Int32).toInt = 1 := by decide
                          have hl28100356 : (1 : Int32).toInt = 1 := by decide
                          exact r_zret (x28100234 : Int32) C0 hr (by decide +kernel) hlocks hS (Nat.le_refl _) (Nat.le_refl _) dX11_isHere_108 ⟨⟨by omega, by omega⟩, (by omega), (Or.inr (by omega)), ⟨by decide, by decide⟩⟩ (hP.sub (ws' := [(a, .inr (11, OX z i1 x28100234 i3 i4 i5 i6 i7 i8 i30 i43 i45 i46 i47 i48 i49 i50 i51 i58 i59 i65 i68 i69 i72 i78 i80 i81 i82 i87 i92 i96 i100 i103 i104)), (q1, .inl (T 3, 4, .inl gq1)), ((z 0), .inl (T 0, 700, .inl g0))]) [1, 0, 2] rfl) (hD.sub (ws' := [(a, .inr (11, OX z i1 x28100234 i3 i4 i5 i6 i7 i8 i30 i43 i45 i46 i47 i48 i49 i50 i51 i58 i59 i65 i68 i69 i72 i78 i80 i81 i82 i87 i92 i96 i100 i103 i104)), (q1, .inl (T 3, 4, .inl gq1)), ((z 0), .inl (T 0, 700, .inl g0))]) [1, 0, 2] (by decide +kernel) rfl)
                        · skip
                          have kc28100354 : x28100345.toInt < 4 := nle_ti (by decide) rfl c28100354
                          refine lv_aload_n hx hb dX11_isHere_82 rfl (lv_at hl 2 rfl) ?_
                          refine r_get (v := .ref (z 0)) C0 hE ffX11_0 mw_790 hP 1 rfl ox_0 dX11_isHere_83 ?_
                          refine lv_aload_n hx hb dX11_isHere_86 rfl (lv_at hl 2 rfl) ?_
                          refine r_get (v := .int x28100234) C0 hE ffX11_2 mw_792 hP 1 rfl ox_2 dX11_isHere_87 ?_
                          refine lv_iload_n hx hb dX11_isHere_90 rfl (lv_at hl 0 rfl) ?_
                          refine lv_iadd hx hb dX11_isHere_91 ?_
                          refine lv_topi (fun x28100357 ex28100357 => ?_)
                          have hx28100357 : x28100357.toInt = x28100234.toInt + x28100345.toInt := ti_add ex28100357 rfl rfl (by omega) (by omega)
                          refine va_iald hx hb hK hP 2 0 rfl rfl (in_ti rfl (by omega) (by omega)) dX11_isHere_92 ?_
                          refine lv_topi (fun x28100358 ex28100358 => ?_)
                          have tx28100358 : x28100358.toInt = (g0 (Int32.toNatClampNeg x28100357)).toInt := by rw [ex28100358]
                          refine lv_aload_n hx hb dX11_isHere_93 rfl (lv_at hl 3 rfl) ?_
                          refine lv_iload_n hx hb dX11_isHere_94 rfl (lv_at hl 0 rfl) ?_
                          refine va_cald hx hb hK hP 0 3 rfl rfl (in_ti rfl (by omega) (by omega)) dX11_isHere_95 ?_
                          refine lv_topi (fun x28100359 ex28100359 => ?_)
                          refine lv_icmp_eq (tgt := 101) hx hb dX11_isHere_96 (by decide) (fun c28100360 => ?_) (fun c28100360 => ?_)
                          · skip
                            have kc28100360 : x28100358.toInt = x28100359.toInt := eq_ti rfl rfl c28100360
                            obtain ⟨x28100361, ex28100361⟩ : ∃ y : Int32, y = x28100345 + 1 := ⟨_, rfl⟩
                            have hx28100361 : x28100361.toInt = x28100345.toInt + 1 := ti_add ex28100361 rfl (by decide) (by omega) (by omega)
                            refine lv_iinc (v := x28100361) (lv' := [(3, .int x28100361), (2, .int x28100253), (0, .ref a), (1, .ref q1)]) hx hb dX11_isHere_101 hl (k := 0) rfl (by rw [ex28100361]; rfl) (by decide) rfl (fun ls hl => ?_)
                            refine lv_goto (tgt := 76) hx hb dX11_isHere_104 (by decide) ?_
                            exact ih28100353 x28100361 _ _ ls ⟨by omega, by omega⟩ (by omega) (hP.sub (ws' := [(q1, .inl (T 3, 4, .inl gq1)), (a, .inr (11, OX z i1 x28100234 i3 i4 i5 i6 i7 i8 i30 i43 i45 i46 i47 i48 i49 i50 i51 i58 i59 i65 i68 i69 i72 i78 i80 i81 i82 i87 i92 i96 i100 i103 i104)), ((z 0), .inl (T 0, 700, .inl g0))]) [0, 1, 2] rfl) (hD.sub (ws' := [(q1, .inl (T 3, 4, .inl gq1)), (a, .inr (11, OX z i1 x28100234 i3 i4 i5 i6 i7 i8 i30 i43 i45 i46 i47 i48 i49 i50 i51 i58 i59 i65 i68 i69 i72 i78 i80 i81 i82 i87 i92 i96 i100 i103 i104)), ((z 0), .inl (T 0, 700, .inl g0))]) [0, 1, 2] (by decide +kernel) rfl) hS (lv_sub hl [0, 1, 2, 3] rfl)
                          · skip
                            have kc28100360 : x28100358.toInt ≠ x28100359.toInt := ne_ti rfl rfl c28100360
                            refine lv_iconst (v := 0) hx hb dX11_isHere_99 (by decide) ?_
                            have hl28100362 : (0 : Int32).toInt = 0 := by decide
                            have hl28100363 : (0 : Int32).toInt = 0 := by decide
                            exact r_zret (x28100234 : Int32) C0 hr (by decide +kernel) hlocks hS (Nat.le_refl _) (Nat.le_refl _) dX11_isHere_100 ⟨⟨by omega, by omega⟩, (by omega), (Or.inl (by omega)), ⟨by decide, by decide⟩⟩ (hP.sub (ws' := [(a, .inr (11, OX z i1 x28100234 i3 i4 i5 i6 i7 i8 i30 i43 i45 i46 i47 i48 i49 i50 i51 i58 i59 i65 i68 i69 i72 i78 i80 i81 i82 i87 i92 i96 i100 i103 i104)), (q1, .inl (T 3, 4, .inl gq1)), ((z 0), .inl (T 0, 700, .inl g0))]) [1, 0, 2] rfl) (hD.sub (ws' := [(a, .inr (11, OX z i1 x28100234 i3 i4 i5 i6 i7 i8 i30 i43 i45 i46 i47 i48 i49 i50 i51 i58 i59 i65 i68 i69 i72 i78 i80 i81 i82 i87 i92 i96 i100 i103 i104)), (q1, .inl (T 3, 4, .inl gq1)), ((z 0), .inl (T 0, 700, .inl g0))]) [1, 0, 2] (by decide +kernel) rfl)
                    exact L28100352 _ 0 _ _ ls ⟨by decide, by decide⟩ (Nat.lt_succ_self _) (hP.sub (ws' := [(q1, .inl (T 3, 4, .inl gq1)), (a, .inr (11, OX z i1 x28100234 i3 i4 i5 i6 i7 i8 i30 i43 i45 i46 i47 i48 i49 i50 i51 i58 i59 i65 i68 i69 i72 i78 i80 i81 i82 i87 i92 i96 i100 i103 i104)), ((z 0), .inl (T 0, 700, .inl g0))]) [0, 1, 2] rfl) (hD.sub (ws' := [(q1, .inl (T 3, 4, .inl gq1)), (a, .inr (11, OX z i1 x28100234 i3 i4 i5 i6 i7 i8 i30 i43 i45 i46 i47 i48 i49 i50 i51 i58 i59 i65 i68 i69 i72 i78 i80 i81 i82 i87 i92 i96 i100 i103 i104)), ((z 0), .inl (T 0, 700, .inl g0))]) [0, 1, 2] (by decide +kernel) rfl) hS (lv_sub hl [0, 1, 2, 3] rfl)
                  · skip
                    have kc28100319 : x28100318.toInt ≠ 4 := ne_ti rfl (by decide) c28100319
                    refine lv_iconst (v := 0) hx hb dX11_isHere_72 (by decide) ?_
                    have hl28100364 : (0 : Int32).toInt = 0 := by decide
                    have hl28100365 : (0 : Int32).toInt = 0 := by decide
                    exact r_zret (x28100234 : Int32) C0 hr (by decide +kernel) hlocks hS (Nat.le_refl _) (Nat.le_refl _) dX11_isHere_73 ⟨⟨by omega, by omega⟩, (by omega), (Or.inl (by omega)), ⟨by decide, by decide⟩⟩ (hP.sub (ws' := [(a, .inr (11, OX z i1 x28100234 i3 i4 i5 i6 i7 i8 i30 i43 i45 i46 i47 i48 i49 i50 i51 i58 i59 i65 i68 i69 i72 i78 i80 i81 i82 i87 i92 i96 i100 i103 i104)), (q1, .inl (T 3, 4, .inl gq1)), ((z 0), .inl (T 0, 700, .inl g0))]) [1, 0, 2] rfl) (hD.sub (ws' := [(a, .inr (11, OX z i1 x28100234 i3 i4 i5 i6 i7 i8 i30 i43 i45 i46 i47 i48 i49 i50 i51 i58 i59 i65 i68 i69 i72 i78 i80 i81 i82 i87 i92 i96 i100 i103 i104)), (q1, .inl (T 3, 4, .inl gq1)), ((z 0), .inl (T 0, 700, .inl g0))]) [1, 0, 2] (by decide +kernel) rfl)
                · skip
                  have hp28100366 := hAlt
                  have hp28100366 : x28100315.toInt = 1 ∧ 97 ≤ x28100314.toInt ∧ x28100314.toInt ≤ 122 := hp28100366
                  clear hAlt
                  refine W.widen (k := 0) (n := 0) (Nat.le_refl _) (Nat.le_refl _) ?_
                  refine lv_if_eq (tgt := 61) hx hb dX11_isHere_52 (by decide) (fun hc => by have hf : x28100315.toInt = 0 := eq_ti rfl (by decide) hc; omega) (fun c28100367 => ?_)
                  have kc28100367 : x28100315.toInt ≠ 0 := ne_ti rfl (by decide) c28100367
                  obtain ⟨x28100368, ex28100368⟩ : ∃ y : Int32, y = x28100253 + 1 := ⟨_, rfl⟩
                  have hx28100368 : x28100368.toInt = x28100253.toInt + 1 := ti_add ex28100368 rfl (by decide) (by omega) (by omega)
                  refine lv_iinc (v := x28100368) (lv' := [(2, .int x28100368), (0, .ref a), (1, .ref q1)]) hx hb dX11_isHere_55 hl (k := 0) rfl (by rw [ex28100368]; rfl) (by decide) rfl (fun ls hl => ?_)
                  refine lv_goto (tgt := 35) hx hb dX11_isHere_58 (by decide) ?_
                  exact ih28100264 x28100368 _ _ ls ⟨by omega, by omega⟩ (by omega) (by omega) (hP.sub (ws' := [(q1, .inl (T 3, 4, .inl gq1)), (a, .inr (11, OX z i1 x28100234 i3 i4 i5 i6 i7 i8 i30 i43 i45 i46 i47 i48 i49 i50 i51 i58 i59 i65 i68 i69 i72 i78 i80 i81 i82 i87 i92 i96 i100 i103 i104)), ((z 0), .inl (T 0, 700, .inl g0))]) [0, 1, 2] rfl) (hD.sub (ws' := [(q1, .inl (T 3, 4, .inl gq1)), (a, .inr (11, OX z i1 x28100234 i3 i4 i5 i6 i7 i8 i30 i43 i45 i46 i47 i48 i49 i50 i51 i58 i59 i65 i68 i69 i72 i78 i80 i81 i82 i87 i92 i96 i100 i103 i104)), ((z 0), .inl (T 0, 700, .inl g0))]) [0, 1, 2] (by decide +kernel) rfl) hS (lv_sub hl [0, 1, 2] rfl)
          exact L28100262 _ x28100234 _ _ ls ⟨by omega, by omega⟩ (by omega) (Nat.lt_succ_self _) (hP.sub (ws' := [(q1, .inl (T 3, 4, .inl gq1)), (a, .inr (11, OX z i1 x28100234 i3 i4 i5 i6 i7 i8 i30 i43 i45 i46 i47 i48 i49 i50 i51 i58 i59 i65 i68 i69 i72 i78 i80 i81 i82 i87 i92 i96 i100 i103 i104)), ((z 0), .inl (T 0, 700, .inl g0))]) [0, 1, 2] rfl) (hD.sub (ws' := [(q1, .inl (T 3, 4, .inl gq1)), (a, .inr (11, OX z i1 x28100234 i3 i4 i5 i6 i7 i8 i30 i43 i45 i46 i47 i48 i49 i50 i51 i58 i59 i65 i68 i69 i72 i78 i80 i81 i82 i87 i92 i96 i100 i103 i104)), ((z 0), .inl (T 0, 700, .inl g0))]) [0, 1, 2] (by decide +kernel) rfl) hS (lv_sub hl [0, 1, 2] rfl)
        · skip
          have kc28100244 : x28100234.toInt = i4.toInt := eq_ti rfl rfl c28100244
          refine lv_iconst (v := 0) hx hb dX11_isHere_28 (by decide) ?_
          have hl28100369 : (0 : Int32).toInt = 0 := by decide
          have hl28100370 : (0 : Int32).toInt = 0 := by decide
          exact r_zret (x28100234 : Int32) C0 hr (by decide +kernel) hlocks hS (Nat.le_refl _) (Nat.le_refl _) dX11_isHere_29 ⟨⟨by omega, by omega⟩, (by omega), (Or.inl (by omega)), ⟨by decide, by decide⟩⟩ (hP.sub (ws' := [(a, .inr (11, OX z i1 x28100234 i3 i4 i5 i6 i7 i8 i30 i43 i45 i46 i47 i48 i49 i50 i51 i58 i59 i65 i68 i69 i72 i78 i80 i81 i82 i87 i92 i96 i100 i103 i104)), (q1, .inl (T 3, 4, .inl gq1)), ((z 0), .inl (T 0, 700, .inl g0))]) [1, 0, 2] rfl) (hD.sub (ws' := [(a, .inr (11, OX z i1 x28100234 i3 i4 i5 i6 i7 i8 i30 i43 i45 i46 i47 i48 i49 i50 i51 i58 i59 i65 i68 i69 i72 i78 i80 i81 i82 i87 i92 i96 i100 i103 i104)), (q1, .inl (T 3, 4, .inl gq1)), ((z 0), .inl (T 0, 700, .inl g0))]) [1, 0, 2] (by decide +kernel) rfl)
    · skip
      have hp28100371 := hAlt
      have hp28100371 : i2.toInt ≤ x28100234.toInt ∧ x28100234.toInt < i3.toInt ∧ x28100233.toInt = (g0 (Int32.toNatClampNeg x28100234)).toInt := hp28100371
      clear hAlt
      refine W.widen (k := 0) (n := 0) (Nat.le_refl _) (Nat.le_refl _) ?_
      refine r_calli (wr := [(q1, .inl (T 3, 4, .inl gq1)), (a, .inr (11, OX z i1 x28100234 i3 i4 i5 i6 i7 i8 i30 i43 i45 i46 i47 i48 i49 i50 i51 i58 i59 i65 i68 i69 i72 i78 i80 i81 i82 i87 i92 i96 i100 i103 i104)), ((z 0), .inl (T 0, 700, .inl g0))]) (r_runS2 (As := [.int x28100233]) (rest := []) (wc := []) C0 hE hStr hS (va_free (wc := []) hD hS hA [] rfl) (h_X11_isLetter_20100005 l D T sq sv H.size x28100233) mw_928 mw_929 mw_14 mw_930 dn_1708 rfl rfl ⟨Nat.le_of_ble_eq_true rfl, Nat.le_of_ble_eq_true rfl⟩ (hP.sub (ws' := []) [] rfl) (hD.sub (ws' := []) [] (by decide +kernel) rfl) hl.1 rfl (Nat.le_of_ble_eq_true rfl) dX11_isHere_11 ⟨Nat.le_of_ble_eq_true rfl, Nat.le_of_ble_eq_true rfl⟩) hP hD hS hA [] [0, 1, 2] rfl rfl (by decide +kernel) (by decide +kernel) (fun x28100372 u H locs hq hP hD hS => ?_)
      obtain ⟨hAlt, hx28100372⟩ := hq
      have hx28100372 : 0 ≤ x28100372.toInt ∧ x28100372.toInt ≤ 1 := hx28100372
      have hP : va_P D vwCl [(q1, .inl (T 3, 4, .inl gq1)), (a, .inr (11, OX z i1 x28100234 i3 i4 i5 i6 i7 i8 i30 i43 i45 i46 i47 i48 i49 i50 i51 i58 i59 i65 i68 i69 i72 i78 i80 i81 i82 i87 i92 i96 i100 i103 i104)), ((z 0), .inl (T 0, 700, .inl g0))] H := hP
      have hD : va_D A [(q1, .inl (T 3, 4, .inl gq1)), (a, .inr (11, OX z i1 x28100234 i3 i4 i5 i6 i7 i8 i30 i43 i45 i46 i47 i48 i49 i50 i51 i58 i59 i65 i68 i69 i72 i78 i80 i81 i82 i87 i92 i96 i100 i103 i104)), ((z 0), .inl (T 0, 700, .inl g0))] := hD
      rcases hAlt with hAlt | hAlt
      · skip
        have hp28100373 := hAlt
        have hp28100373 : x28100372.toInt = 0 := hp28100373
        clear hAlt
        refine W.widen (k := 0) (n := 0) (Nat.le_refl _) (Nat.le_refl _) ?_
        refine lv_if_eq (tgt := 28) hx hb dX11_isHere_14 (by decide) (fun c28100374 => ?_) (fun hc => by have hf : x28100372.toInt ≠ 0 := ne_ti rfl (by decide) hc; omega)
        have kc28100374 : x28100372.toInt = 0 := eq_ti rfl (by decide) c28100374
        refine lv_iconst (v := 0) hx hb dX11_isHere_28 (by decide) ?_
        have hl28100375 : (0 : Int32).toInt = 0 := by decide
        have hl28100376 : (0 : Int32).toInt = 0 := by decide
        exact r_zret (x28100234 : Int32) C0 hr (by decide +kernel) hlocks hS (Nat.le_refl _) (Nat.le_refl _) dX11_isHere_29 ⟨⟨by omega, by omega⟩, (by omega), (Or.inl (by omega)), ⟨by decide, by decide⟩⟩ (hP.sub (ws' := [(a, .inr (11, OX z i1 x28100234 i3 i4 i5 i6 i7 i8 i30 i43 i45 i46 i47 i48 i49 i50 i51 i58 i59 i65 i68 i69 i72 i78 i80 i81 i82 i87 i92 i96 i100 i103 i104)), (q1, .inl (T 3, 4, .inl gq1)), ((z 0), .inl (T 0, 700, .inl g0))]) [1, 0, 2] rfl) (hD.sub (ws' := [(a, .inr (11, OX z i1 x28100234 i3 i4 i5 i6 i7 i8 i30 i43 i45 i46 i47 i48 i49 i50 i51 i58 i59 i65 i68 i69 i72 i78 i80 i81 i82 i87 i92 i96 i100 i103 i104)), (q1, .inl (T 3, 4, .inl gq1)), ((z 0), .inl (T 0, 700, .inl g0))]) [1, 0, 2] (by decide +kernel) rfl)
      · skip
        have hp28100377 := hAlt
        have hp28100377 : x28100372.toInt = 1 ∧ 97 ≤ x28100233.toInt ∧ x28100233.toInt ≤ 122 := hp28100377
        clear hAlt
        refine W.widen (k := 0) (n := 0) (Nat.le_refl _) (Nat.le_refl _) ?_
        refine lv_if_eq (tgt := 28) hx hb dX11_isHere_14 (by decide) (fun hc => by have hf : x28100372.toInt = 0 := eq_ti rfl (by decide) hc; omega) (fun c28100378 => ?_)
        have kc28100378 : x28100372.toInt ≠ 0 := ne_ti rfl (by decide) c28100378
        refine lv_aload_n hx hb dX11_isHere_17 rfl (lv_at hl 0 rfl) ?_
        refine r_get (v := .int x28100234) C0 hE ffX11_2 mw_792 hP 1 rfl ox_2 dX11_isHere_18 ?_
        refine lv_aload_n hx hb dX11_isHere_21 rfl (lv_at hl 0 rfl) ?_
        refine r_get (v := .int i4) C0 hE ffX11_4 mw_794 hP 1 rfl ox_4 dX11_isHere_22 ?_
        refine lv_icmp_ne (tgt := 30) hx hb dX11_isHere_25 (by decide) (fun c28100379 => ?_) (fun c28100379 => ?_)
        · skip
          have kc28100379 : x28100234.toInt ≠ i4.toInt := ne_ti rfl rfl c28100379
          refine lv_aload_n hx hb dX11_isHere_30 rfl (lv_at hl 0 rfl) ?_
          refine r_get (v := .int x28100234) C0 hE ffX11_2 mw_792 hP 1 rfl ox_2 dX11_isHere_31 ?_
          refine lv_istore_n (lv' := [(2, .int x28100234), (0, .ref a), (1, .ref q1)]) hx hb dX11_isHere_34 rfl hl (by decide) rfl (fun ls hl => ?_)
          have L28100397 : ∀ (n : Nat) (x28100388 : Int32) (H : Heap) (locs : List Loc) (ls : Array Slot), (0 ≤ x28100388.toInt ∧ x28100388.toInt ≤ 700) → (x28100234.toInt ≤ x28100388.toInt ∧ x28100388.toInt ≤ i3.toInt) → (701 - x28100388.toInt).toNat < n → va_P D vwCl [(q1, .inl (T 3, 4, .inl gq1)), (a, .inr (11, OX z i1 x28100234 i3 i4 i5 i6 i7 i8 i30 i43 i45 i46 i47 i48 i49 i50 i51 i58 i59 i65 i68 i69 i72 i78 i80 i81 i82 i87 i92 i96 i100 i103 i104)), ((z 0), .inl (T 0, 700, .inl g0))] H → va_D A [(q1, .inl (T 3, 4, .inl gq1)), (a, .inr (11, OX z i1 x28100234 i3 i4 i5 i6 i7 i8 i30 i43 i45 i46 i47 i48 i49 i50 i51 i58 i59 i65 i68 i69 i72 i78 i80 i81 i82 i87 i92 i96 i100 i103 i104)), ((z 0), .inl (T 0, 700, .inl g0))] → va_S A s.heap H locs → lv_has ls 4 [(2, .int x28100388), (0, .ref a), (1, .ref q1)] → W p l e { frames := 1, cells := 0, slots := 0, locals := 20 } s m args below meth c H locs 0 0 (MQ below ((Qi (S := Int32) (fun (r : Int32) (ui2 : Int32) => (0 ≤ ui2.toInt ∧ ui2.toInt ≤ 700) ∧ (i2.toInt ≤ ui2.toInt) ∧ (((r.toInt = 0 ∧ i2.toInt ≤ ui2.toInt)) ∨ ((r.toInt = 1 ∧ i2.toInt ≤ ui2.toInt ∧ ui2.toInt + 4 ≤ i3.toInt ∧ i5.toInt = 0))) ∧ (0 ≤ r.toInt ∧ r.toInt ≤ 1)) (fun (ui2 : Int32) => [(a, .inr (11, OX z i1 ui2 i3 i4 i5 i6 i7 i8 i30 i43 i45 i46 i47 i48 i49 i50 i51 i58 i59 i65 i68 i69 i72 i78 i80 i81 i82 i87 i92 i96 i100 i103 i104)), (q1, .inl (T 3, 4, .inl gq1)), ((z 0), .inl (T 0, 700, .inl g0))]) D) A) args s 0 0 A) (F0 m 35 ls []) := by
            intro n
            induction n with
            | zero =>
              intro x28100388 H locs ls hx28100388 hr28100398 hms hP hD hS hl
              exact absurd hms (Nat.not_lt_zero _)
            | succ n ih28100399 =>
              intro x28100388 H locs ls hx28100388 hr28100398 hms hP hD hS hl
              refine lv_iload_n hx hb dX11_isHere_35 rfl (lv_at hl 0 rfl) ?_
              refine lv_aload_n hx hb dX11_isHere_36 rfl (lv_at hl 1 rfl) ?_
              refine r_get (v := .int i3) C0 hE ffX11_3 mw_793 hP 1 rfl ox_3 dX11_isHere_37 ?_
              refine lv_icmp_ge (tgt := 61) hx hb dX11_isHere_40 (by decide) (fun c28100400 => ?_) (fun c28100400 => ?_)
              · skip
                have kc28100400 : i3.toInt ≤ x28100388.toInt := le_ti rfl rfl c28100400
                refine lv_iload_n hx hb dX11_isHere_61 rfl (lv_at hl 0 rfl) ?_
                refine lv_aload_n hx hb dX11_isHere_62 rfl (lv_at hl 1 rfl) ?_
                refine r_get (v := .int x28100234) C0 hE ffX11_2 mw_792 hP 1 rfl ox_2 dX11_isHere_63 ?_
                refine lv_isub hx hb dX11_isHere_66 ?_
                refine lv_topi (fun x28100401 ex28100401 => ?_)
                have hx28100401 : x28100401.toInt = x28100388.toInt - x28100234.toInt := ti_sub ex28100401 rfl rfl (by omega) (by omega)
                refine lv_aload_n hx hb dX11_isHere_67 rfl (lv_at hl 2 rfl) ?_
                refine va_alen (v := 4) hx hb hK hP 0 3 rfl rfl rfl dX11_isHere_68 ?_
                refine lv_icmp_eq (tgt := 74) hx hb dX11_isHere_69 (by decide) (fun c28100402 => ?_) (fun c28100402 => ?_)
                · skip
                  have kc28100402 : x28100401.toInt = 4 := eq_ti rfl (by decide) c28100402
                  refine lv_iconst (v := 0) hx hb dX11_isHere_74 (by decide) ?_
                  refine lv_istore_n (lv' := [(3, .int 0), (2, .int x28100388), (0, .ref a), (1, .ref q1)]) hx hb dX11_isHere_75 rfl hl (by decide) rfl (fun ls hl => ?_)
                  have L28100435 : ∀ (n : Nat) (x28100428 : Int32) (H : Heap) (locs : List Loc) (ls : Array Slot), (0 ≤ x28100428.toInt ∧ x28100428.toInt ≤ 4) → (5 - x28100428.toInt).toNat < n → va_P D vwCl [(q1, .inl (T 3, 4, .inl gq1)), (a, .inr (11, OX z i1 x28100234 i3 i4 i5 i6 i7 i8 i30 i43 i45 i46 i47 i48 i49 i50 i51 i58 i59 i65 i68 i69 i72 i78 i80 i81 i82 i87 i92 i96 i100 i103 i104)), ((z 0), .inl (T 0, 700, .inl g0))] H → va_D A [(q1, .inl (T 3, 4, .inl gq1)), (a, .inr (11, OX z i1 x28100234 i3 i4 i5 i6 i7 i8 i30 i43 i45 i46 i47 i48 i49 i50 i51 i58 i59 i65 i68 i69 i72 i78 i80 i81 i82 i87 i92 i96 i100 i103 i104)), ((z 0), .inl (T 0, 700, .inl g0))] → va_S A s.heap H locs → lv_has ls 4 [(3, .int x28100428), (2, .int x28100388), (0, .ref a), (1, .ref q1)] → W p l e { frames := 1, cells := 0, slots := 0, locals := 20 } s m args below meth c H locs 0 0 (MQ below ((Qi (S := Int32) (fun (r : Int32) (ui2 : Int32) => (0 ≤ ui2.toInt ∧ ui2.toInt ≤ 700) ∧ (i2.toInt ≤ ui2.toInt) ∧ (((r.toInt = 0 ∧ i2.toInt ≤ ui2.toInt)) ∨ ((r.toInt = 1 ∧ i2.toInt ≤ ui2.toInt ∧ ui2.toInt + 4 ≤ i3.toInt ∧ i5.toInt = 0))) ∧ (0 ≤ r.toInt ∧ r.toInt ≤ 1)) (fun (ui2 : Int32) => [(a, .inr (11, OX z i1 ui2 i3 i4 i5 i6 i7 i8 i30 i43 i45 i46 i47 i48 i49 i50 i51 i58 i59 i65 i68 i69 i72 i78 i80 i81 i82 i87 i92 i96 i100 i103 i104)), (q1, .inl (T 3, 4, .inl gq1)), ((z 0), .inl (T 0, 700, .inl g0))]) D) A) args s 0 0 A) (F0 m 76 ls []) := by
                    intro n
                    induction n with
                    | zero =>
                      intro x28100428 H locs ls hx28100428 hms hP hD hS hl
                      exact absurd hms (Nat.not_lt_zero _)
                    | succ n ih28100436 =>
                      intro x28100428 H locs ls hx28100428 hms hP hD hS hl
                      refine lv_iload_n hx hb dX11_isHere_76 rfl (lv_at hl 0 rfl) ?_
                      refine lv_aload_n hx hb dX11_isHere_77 rfl (lv_at hl 3 rfl) ?_
                      refine va_alen (v := 4) hx hb hK hP 0 3 rfl rfl rfl dX11_isHere_78 ?_
                      refine lv_icmp_ge (tgt := 107) hx hb dX11_isHere_79 (by decide) (fun c28100437 => ?_) (fun c28100437 => ?_)
                      · skip
                        have kc28100437 : 4 ≤ x28100428.toInt := le_ti (by decide) rfl c28100437
                        refine lv_iconst (v := 1) hx hb dX11_isHere_107 (by decide) ?_
                        have hl28100438 : (1 : Int32).toInt = 1 := by decide
                        have hl28100439 : (1 : Int32).toInt = 1 := by decide
                        exact r_zret (x28100234 : Int32) C0 hr (by decide +kernel) hlocks hS (Nat.le_refl _) (Nat.le_refl _) dX11_isHere_108 ⟨⟨by omega, by omega⟩, (by omega), (Or.inr (by omega)), ⟨by decide, by decide⟩⟩ (hP.sub (ws' := [(a, .inr (11, OX z i1 x28100234 i3 i4 i5 i6 i7 i8 i30 i43 i45 i46 i47 i48 i49 i50 i51 i58 i59 i65 i68 i69 i72 i78 i80 i81 i82 i87 i92 i96 i100 i103 i104)), (q1, .inl (T 3, 4, .inl gq1)), ((z 0), .inl (T 0, 700, .inl g0))]) [1, 0, 2] rfl) (hD.sub (ws' := [(a, .inr (11, OX z i1 x28100234 i3 i4 i5 i6 i7 i8 i30 i43 i45 i46 i47 i48 i49 i50 i51 i58 i59 i65 i68 i69 i72 i78 i80 i81 i82 i87 i92 i96 i100 i103 i104)), (q1, .inl (T 3, 4, .inl gq1)), ((z 0), .inl (T 0, 700, .inl g0))]) [1, 0, 2] (by decide +kernel) rfl)
                      · skip
                        have kc28100437 : x28100428.toInt < 4 := nle_ti (by decide) rfl c28100437
                        refine lv_aload_n hx hb dX11_isHere_82 rfl (lv_at hl 2 rfl) ?_
                        refine r_get (v := .ref (z 0)) C0 hE ffX11_0 mw_790 hP 1 rfl ox_0 dX11_isHere_83 ?_
                        refine lv_aload_n hx hb dX11_isHere_86 rfl (lv_at hl 2 rfl) ?_
                        refine r_get (v := .int x28100234) C0 hE ffX11_2 mw_792 hP 1 rfl ox_2 dX11_isHere_87 ?_
                        refine lv_iload_n hx hb dX11_isHere_90 rfl (lv_at hl 0 rfl) ?_
                        refine lv_iadd hx hb dX11_isHere_91 ?_
                        refine lv_topi (fun x28100440 ex28100440 => ?_)
                        have hx28100440 : x28100440.toInt = x28100234.toInt + x28100428.toInt := ti_add ex28100440 rfl rfl (by omega) (by omega)
                        refine va_iald hx hb hK hP 2 0 rfl rfl (in_ti rfl (by omega) (by omega)) dX11_isHere_92 ?_
                        refine lv_topi (fun x28100441 ex28100441 => ?_)
                        have tx28100441 : x28100441.toInt = (g0 (Int32.toNatClampNeg x28100440)).toInt := by rw [ex28100441]
                        refine lv_aload_n hx hb dX11_isHere_93 rfl (lv_at hl 3 rfl) ?_
                        refine lv_iload_n hx hb dX11_isHere_94 rfl (lv_at hl 0 rfl) ?_
                        refine va_cald hx hb hK hP 0 3 rfl rfl (in_ti rfl (by omega) (by omega)) dX11_isHere_95 ?_
                        refine lv_topi (fun x28100442 ex28100442 => ?_)
                        refine lv_icmp_eq (tgt := 101) hx hb dX11_isHere_96 (by decide) (fun c28100443 => ?_) (fun c28100443 => ?_)
                        · skip
                          have kc28100443 : x28100441.toInt = x28100442.toInt := eq_ti rfl rfl c28100443
                          obtain ⟨x28100444, ex28100444⟩ : ∃ y : Int32, y = x28100428 + 1 := ⟨_, rfl⟩
                          have hx28100444 : x28100444.toInt = x28100428.toInt + 1 := ti_add ex28100444 rfl (by decide) (by omega) (by omega)
                          refine lv_iinc (v := x28100444) (lv' := [(3, .int x28100444), (2, .int x28100388), (0, .ref a), (1, .ref q1)]) hx hb dX11_isHere_101 hl (k := 0) rfl (by rw [ex28100444]; rfl) (by decide) rfl (fun ls hl => ?_)
                          refine lv_goto (tgt := 76) hx hb dX11_isHere_104 (by decide) ?_
                          exact ih28100436 x28100444 _ _ ls ⟨by omega, by omega⟩ (by omega) (hP.sub (ws' := [(q1, .inl (T 3, 4, .inl gq1)), (a, .inr (11, OX z i1 x28100234 i3 i4 i5 i6 i7 i8 i30 i43 i45 i46 i47 i48 i49 i50 i51 i58 i59 i65 i68 i69 i72 i78 i80 i81 i82 i87 i92 i96 i100 i103 i104)), ((z 0), .inl (T 0, 700, .inl g0))]) [0, 1, 2] rfl) (hD.sub (ws' := [(q1, .inl (T 3, 4, .inl gq1)), (a, .inr (11, OX z i1 x28100234 i3 i4 i5 i6 i7 i8 i30 i43 i45 i46 i47 i48 i49 i50 i51 i58 i59 i65 i68 i69 i72 i78 i80 i81 i82 i87 i92 i96 i100 i103 i104)), ((z 0), .inl (T 0, 700, .inl g0))]) [0, 1, 2] (by decide +kernel) rfl) hS (lv_sub hl [0, 1, 2, 3] rfl)
                        · skip
                          have kc28100443 : x28100441.toInt ≠ x28100442.toInt := ne_ti rfl rfl c28100443
                          refine lv_iconst (v := 0) hx hb dX11_isHere_99 (by decide) ?_
                          have hl28100445 : (0 : Int32).toInt = 0 := by decide
                          have hl28100446 : (0 : Int32).toInt = 0 := by decide
                          exact r_zret (x28100234 : Int32) C0 hr (by decide +kernel) hlocks hS (Nat.le_refl _) (Nat.le_refl _) dX11_isHere_100 ⟨⟨by omega, by omega⟩, (by omega), (Or.inl (by omega)), ⟨by decide, by decide⟩⟩ (hP.sub (ws' := [(a, .inr (11, OX z i1 x28100234 i3 i4 i5 i6 i7 i8 i30 i43 i45 i46 i47 i48 i49 i50 i51 i58 i59 i65 i68 i69 i72 i78 i80 i81 i82 i87 i92 i96 i100 i103 i104)), (q1, .inl (T 3, 4, .inl gq1)), ((z 0), .inl (T 0, 700, .inl g0))]) [1, 0, 2] rfl) (hD.sub (ws' := [(a, .inr (11, OX z i1 x28100234 i3 i4 i5 i6 i7 i8 i30 i43 i45 i46 i47 i48 i49 i50 i51 i58 i59 i65 i68 i69 i72 i78 i80 i81 i82 i87 i92 i96 i100 i103 i104)), (q1, .inl (T 3, 4, .inl gq1)), ((z 0), .inl (T 0, 700, .inl g0))]) [1, 0, 2] (by decide +kernel) rfl)
                  exact L28100435 _ 0 _ _ ls ⟨by decide, by decide⟩ (Nat.lt_succ_self _) (hP.sub (ws' := [(q1, .inl (T 3, 4, .inl gq1)), (a, .inr (11, OX z i1 x28100234 i3 i4 i5 i6 i7 i8 i30 i43 i45 i46 i47 i48 i49 i50 i51 i58 i59 i65 i68 i69 i72 i78 i80 i81 i82 i87 i92 i96 i100 i103 i104)), ((z 0), .inl (T 0, 700, .inl g0))]) [0, 1, 2] rfl) (hD.sub (ws' := [(q1, .inl (T 3, 4, .inl gq1)), (a, .inr (11, OX z i1 x28100234 i3 i4 i5 i6 i7 i8 i30 i43 i45 i46 i47 i48 i49 i50 i51 i58 i59 i65 i68 i69 i72 i78 i80 i81 i82 i87 i92 i96 i100 i103 i104)), ((z 0), .inl (T 0, 700, .inl g0))]) [0, 1, 2] (by decide +kernel) rfl) hS (lv_sub hl [0, 1, 2, 3] rfl)
                · skip
                  have kc28100402 : x28100401.toInt ≠ 4 := ne_ti rfl (by decide) c28100402
                  refine lv_iconst (v := 0) hx hb dX11_isHere_72 (by decide) ?_
                  have hl28100447 : (0 : Int32).toInt = 0 := by decide
                  have hl28100448 : (0 : Int32).toInt = 0 := by decide
                  exact r_zret (x28100234 : Int32) C0 hr (by decide +kernel) hlocks hS (Nat.le_refl _) (Nat.le_refl _) dX11_isHere_73 ⟨⟨by omega, by omega⟩, (by omega), (Or.inl (by omega)), ⟨by decide, by decide⟩⟩ (hP.sub (ws' := [(a, .inr (11, OX z i1 x28100234 i3 i4 i5 i6 i7 i8 i30 i43 i45 i46 i47 i48 i49 i50 i51 i58 i59 i65 i68 i69 i72 i78 i80 i81 i82 i87 i92 i96 i100 i103 i104)), (q1, .inl (T 3, 4, .inl gq1)), ((z 0), .inl (T 0, 700, .inl g0))]) [1, 0, 2] rfl) (hD.sub (ws' := [(a, .inr (11, OX z i1 x28100234 i3 i4 i5 i6 i7 i8 i30 i43 i45 i46 i47 i48 i49 i50 i51 i58 i59 i65 i68 i69 i72 i78 i80 i81 i82 i87 i92 i96 i100 i103 i104)), (q1, .inl (T 3, 4, .inl gq1)), ((z 0), .inl (T 0, 700, .inl g0))]) [1, 0, 2] (by decide +kernel) rfl)
              · skip
                have kc28100400 : x28100388.toInt < i3.toInt := nle_ti rfl rfl c28100400
                refine lv_aload_n hx hb dX11_isHere_43 rfl (lv_at hl 1 rfl) ?_
                refine r_get (v := .ref (z 0)) C0 hE ffX11_0 mw_790 hP 1 rfl ox_0 dX11_isHere_44 ?_
                refine lv_iload_n hx hb dX11_isHere_47 rfl (lv_at hl 0 rfl) ?_
                refine va_iald hx hb hK hP 2 0 rfl rfl (in_ti rfl (by omega) (by omega)) dX11_isHere_48 ?_
                refine lv_topi (fun x28100449 ex28100449 => ?_)
                have tx28100449 : x28100449.toInt = (g0 (Int32.toNatClampNeg x28100388)).toInt := by rw [ex28100449]
                refine r_calli (wr := [(q1, .inl (T 3, 4, .inl gq1)), (a, .inr (11, OX z i1 x28100234 i3 i4 i5 i6 i7 i8 i30 i43 i45 i46 i47 i48 i49 i50 i51 i58 i59 i65 i68 i69 i72 i78 i80 i81 i82 i87 i92 i96 i100 i103 i104)), ((z 0), .inl (T 0, 700, .inl g0))]) (r_runS2 (As := [.int x28100449]) (rest := []) (wc := []) C0 hE hStr hS (va_free (wc := []) hD hS hA [] rfl) (h_X11_isLetter_20100005 l D T sq sv H.size x28100449) mw_928 mw_929 mw_14 mw_930 dn_1708 rfl rfl ⟨Nat.le_of_ble_eq_true rfl, Nat.le_of_ble_eq_true rfl⟩ (hP.sub (ws' := []) [] rfl) (hD.sub (ws' := []) [] (by decide +kernel) rfl) hl.1 rfl (Nat.le_of_ble_eq_true rfl) dX11_isHere_49 ⟨Nat.le_of_ble_eq_true rfl, Nat.le_of_ble_eq_true rfl⟩) hP hD hS hA [] [0, 1, 2] rfl rfl (by decide +kernel) (by decide +kernel) (fun x28100450 u H locs hq hP hD hS => ?_)
                obtain ⟨hAlt, hx28100450⟩ := hq
                have hx28100450 : 0 ≤ x28100450.toInt ∧ x28100450.toInt ≤ 1 := hx28100450
                have hP : va_P D vwCl [(q1, .inl (T 3, 4, .inl gq1)), (a, .inr (11, OX z i1 x28100234 i3 i4 i5 i6 i7 i8 i30 i43 i45 i46 i47 i48 i49 i50 i51 i58 i59 i65 i68 i69 i72 i78 i80 i81 i82 i87 i92 i96 i100 i103 i104)), ((z 0), .inl (T 0, 700, .inl g0))] H := hP
                have hD : va_D A [(q1, .inl (T 3, 4, .inl gq1)), (a, .inr (11, OX z i1 x28100234 i3 i4 i5 i6 i7 i8 i30 i43 i45 i46 i47 i48 i49 i50 i51 i58 i59 i65 i68 i69 i72 i78 i80 i81 i82 i87 i92 i96 i100 i103 i104)), ((z 0), .inl (T 0, 700, .inl g0))] := hD
                rcases hAlt with hAlt | hAlt
                · skip
                  have hp28100451 := hAlt
                  have hp28100451 : x28100450.toInt = 0 := hp28100451
                  clear hAlt
                  refine W.widen (k := 0) (n := 0) (Nat.le_refl _) (Nat.le_refl _) ?_
                  refine lv_if_eq (tgt := 61) hx hb dX11_isHere_52 (by decide) (fun c28100452 => ?_) (fun hc => by have hf : x28100450.toInt ≠ 0 := ne_ti rfl (by decide) hc; omega)
                  have kc28100452 : x28100450.toInt = 0 := eq_ti rfl (by decide) c28100452
                  refine lv_iload_n hx hb dX11_isHere_61 rfl (lv_at hl 0 rfl) ?_
                  refine lv_aload_n hx hb dX11_isHere_62 rfl (lv_at hl 1 rfl) ?_
                  refine r_get (v := .int x28100234) C0 hE ffX11_2 mw_792 hP 1 rfl ox_2 dX11_isHere_63 ?_
                  refine lv_isub hx hb dX11_isHere_66 ?_
                  refine lv_topi (fun x28100453 ex28100453 => ?_)
                  have hx28100453 : x28100453.toInt = x28100388.toInt - x28100234.toInt := ti_sub ex28100453 rfl rfl (by omega) (by omega)
                  refine lv_aload_n hx hb dX11_isHere_67 rfl (lv_at hl 2 rfl) ?_
                  refine va_alen (v := 4) hx hb hK hP 0 3 rfl rfl rfl dX11_isHere_68 ?_
                  refine lv_icmp_eq (tgt := 74) hx hb dX11_isHere_69 (by decide) (fun c28100454 => ?_) (fun c28100454 => ?_)
                  · skip
                    have kc28100454 : x28100453.toInt = 4 := eq_ti rfl (by decide) c28100454
                    refine lv_iconst (v := 0) hx hb dX11_isHere_74 (by decide) ?_
                    refine lv_istore_n (lv' := [(3, .int 0), (2, .int x28100388), (0, .ref a), (1, .ref q1)]) hx hb dX11_isHere_75 rfl hl (by decide) rfl (fun ls hl => ?_)
                    have L28100487 : ∀ (n : Nat) (x28100480 : Int32) (H : Heap) (locs : List Loc) (ls : Array Slot), (0 ≤ x28100480.toInt ∧ x28100480.toInt ≤ 4) → (5 - x28100480.toInt).toNat < n → va_P D vwCl [(q1, .inl (T 3, 4, .inl gq1)), (a, .inr (11, OX z i1 x28100234 i3 i4 i5 i6 i7 i8 i30 i43 i45 i46 i47 i48 i49 i50 i51 i58 i59 i65 i68 i69 i72 i78 i80 i81 i82 i87 i92 i96 i100 i103 i104)), ((z 0), .inl (T 0, 700, .inl g0))] H → va_D A [(q1, .inl (T 3, 4, .inl gq1)), (a, .inr (11, OX z i1 x28100234 i3 i4 i5 i6 i7 i8 i30 i43 i45 i46 i47 i48 i49 i50 i51 i58 i59 i65 i68 i69 i72 i78 i80 i81 i82 i87 i92 i96 i100 i103 i104)), ((z 0), .inl (T 0, 700, .inl g0))] → va_S A s.heap H locs → lv_has ls 4 [(3, .int x28100480), (2, .int x28100388), (0, .ref a), (1, .ref q1)] → W p l e { frames := 1, cells := 0, slots := 0, locals := 20 } s m args below meth c H locs 0 0 (MQ below ((Qi (S := Int32) (fun (r : Int32) (ui2 : Int32) => (0 ≤ ui2.toInt ∧ ui2.toInt ≤ 700) ∧ (i2.toInt ≤ ui2.toInt) ∧ (((r.toInt = 0 ∧ i2.toInt ≤ ui2.toInt)) ∨ ((r.toInt = 1 ∧ i2.toInt ≤ ui2.toInt ∧ ui2.toInt + 4 ≤ i3.toInt ∧ i5.toInt = 0))) ∧ (0 ≤ r.toInt ∧ r.toInt ≤ 1)) (fun (ui2 : Int32) => [(a, .inr (11, OX z i1 ui2 i3 i4 i5 i6 i7 i8 i30 i43 i45 i46 i47 i48 i49 i50 i51 i58 i59 i65 i68 i69 i72 i78 i80 i81 i82 i87 i92 i96 i100 i103 i104)), (q1, .inl (T 3, 4, .inl gq1)), ((z 0), .inl (T 0, 700, .inl g0))]) D) A) args s 0 0 A) (F0 m 76 ls []) := by
                      intro n
                      induction n with
                      | zero =>
                        intro x28100480 H locs ls hx28100480 hms hP hD hS hl
                        exact absurd hms (Nat.not_lt_zero _)
                      | succ n ih28100488 =>
                        intro x28100480 H locs ls hx28100480 hms hP hD hS hl
                        refine lv_iload_n hx hb dX11_isHere_76 rfl (lv_at hl 0 rfl) ?_
                        refine lv_aload_n hx hb dX11_isHere_77 rfl (lv_at hl 3 rfl) ?_
                        refine va_alen (v := 4) hx hb hK hP 0 3 rfl rfl rfl dX11_isHere_78 ?_
                        refine lv_icmp_ge (tgt := 107) hx hb dX11_isHere_79 (by decide) (fun c28100489 => ?_) (fun c28100489 => ?_)
                        · skip
                          have kc28100489 : 4 ≤ x28100480.toInt := le_ti (by decide) rfl c28100489
                          refine lv_iconst (v := 1) hx hb dX11_isHere_107 (by decide) ?_
                          have hl28100490 : (1 : Int32).toInt = 1 := by decide
                          have hl28100491 : (1 : Int32).toInt = 1 := by decide
                          exact r_zret (x28100234 : Int32) C0 hr (by decide +kernel) hlocks hS (Nat.le_refl _) (Nat.le_refl _) dX11_isHere_108 ⟨⟨by omega, by omega⟩, (by omega), (Or.inr (by omega)), ⟨by decide, by decide⟩⟩ (hP.sub (ws' := [(a, .inr (11, OX z i1 x28100234 i3 i4 i5 i6 i7 i8 i30 i43 i45 i46 i47 i48 i49 i50 i51 i58 i59 i65 i68 i69 i72 i78 i80 i81 i82 i87 i92 i96 i100 i103 i104)), (q1, .inl (T 3, 4, .inl gq1)), ((z 0), .inl (T 0, 700, .inl g0))]) [1, 0, 2] rfl) (hD.sub (ws' := [(a, .inr (11, OX z i1 x28100234 i3 i4 i5 i6 i7 i8 i30 i43 i45 i46 i47 i48 i49 i50 i51 i58 i59 i65 i68 i69 i72 i78 i80 i81 i82 i87 i92 i96 i100 i103 i104)), (q1, .inl (T 3, 4, .inl gq1)), ((z 0), .inl (T 0, 700, .inl g0))]) [1, 0, 2] (by decide +kernel) rfl)
                        · skip
                          have kc28100489 : x28100480.toInt < 4 := nle_ti (by decide) rfl c28100489
                          refine lv_aload_n hx hb dX11_isHere_82 rfl (lv_at hl 2 rfl) ?_
                          refine r_get (v := .ref (z 0)) C0 hE ffX11_0 mw_790 hP 1 rfl ox_0 dX11_isHere_83 ?_
                          refine lv_aload_n hx hb dX11_isHere_86 rfl (lv_at hl 2 rfl) ?_
                          refine r_get (v := .int x28100234) C0 hE ffX11_2 mw_792 hP 1 rfl ox_2 dX11_isHere_87 ?_
                          refine lv_iload_n hx hb dX11_isHere_90 rfl (lv_at hl 0 rfl) ?_
                          refine lv_iadd hx hb dX11_isHere_91 ?_
                          refine lv_topi (fun x28100492 ex28100492 => ?_)
                          have hx28100492 : x28100492.toInt = x28100234.toInt + x28100480.toInt := ti_add ex28100492 rfl rfl (by omega) (by omega)
                          refine va_iald hx hb hK hP 2 0 rfl rfl (in_ti rfl (by omega) (by omega)) dX11_isHere_92 ?_
                          refine lv_topi (fun x28100493 ex28100493 => ?_)
                          have tx28100493 : x28100493.toInt = (g0 (Int32.toNatClampNeg x28100492)).toInt := by rw [ex28100493]
                          refine lv_aload_n hx hb dX11_isHere_93 rfl (lv_at hl 3 rfl) ?_
                          refine lv_iload_n hx hb dX11_isHere_94 rfl (lv_at hl 0 rfl) ?_
                          refine va_cald hx hb hK hP 0 3 rfl rfl (in_ti rfl (by omega) (by omega)) dX11_isHere_95 ?_
                          refine lv_topi (fun x28100494 ex28100494 => ?_)
                          refine lv_icmp_eq (tgt := 101) hx hb dX11_isHere_96 (by decide) (fun c28100495 => ?_) (fun c28100495 => ?_)
                          · skip
                            have kc28100495 : x28100493.toInt = x28100494.toInt := eq_ti rfl rfl c28100495
                            obtain ⟨x28100496, ex28100496⟩ : ∃ y : Int32, y = x28100480 + 1 := ⟨_, rfl⟩
                            have hx28100496 : x28100496.toInt = x28100480.toInt + 1 := ti_add ex28100496 rfl (by decide) (by omega) (by omega)
                            refine lv_iinc (v := x28100496) (lv' := [(3, .int x28100496), (2, .int x28100388), (0, .ref a), (1, .ref q1)]) hx hb dX11_isHere_101 hl (k := 0) rfl (by rw [ex28100496]; rfl) (by decide) rfl (fun ls hl => ?_)
                            refine lv_goto (tgt := 76) hx hb dX11_isHere_104 (by decide) ?_
                            exact ih28100488 x28100496 _ _ ls ⟨by omega, by omega⟩ (by omega) (hP.sub (ws' := [(q1, .inl (T 3, 4, .inl gq1)), (a, .inr (11, OX z i1 x28100234 i3 i4 i5 i6 i7 i8 i30 i43 i45 i46 i47 i48 i49 i50 i51 i58 i59 i65 i68 i69 i72 i78 i80 i81 i82 i87 i92 i96 i100 i103 i104)), ((z 0), .inl (T 0, 700, .inl g0))]) [0, 1, 2] rfl) (hD.sub (ws' := [(q1, .inl (T 3, 4, .inl gq1)), (a, .inr (11, OX z i1 x28100234 i3 i4 i5 i6 i7 i8 i30 i43 i45 i46 i47 i48 i49 i50 i51 i58 i59 i65 i68 i69 i72 i78 i80 i81 i82 i87 i92 i96 i100 i103 i104)), ((z 0), .inl (T 0, 700, .inl g0))]) [0, 1, 2] (by decide +kernel) rfl) hS (lv_sub hl [0, 1, 2, 3] rfl)
                          · skip
                            have kc28100495 : x28100493.toInt ≠ x28100494.toInt := ne_ti rfl rfl c28100495
                            refine lv_iconst (v := 0) hx hb dX11_isHere_99 (by decide) ?_
                            have hl28100497 : (0 : Int32).toInt = 0 := by decide
                            have hl28100498 : (0 : Int32).toInt = 0 := by decide
                            exact r_zret (x28100234 : Int32) C0 hr (by decide +kernel) hlocks hS (Nat.le_refl _) (Nat.le_refl _) dX11_isHere_100 ⟨⟨by omega, by omega⟩, (by omega), (Or.inl (by omega)), ⟨by decide, by decide⟩⟩ (hP.sub (ws' := [(a, .inr (11, OX z i1 x28100234 i3 i4 i5 i6 i7 i8 i30 i43 i45 i46 i47 i48 i49 i50 i51 i58 i59 i65 i68 i69 i72 i78 i80 i81 i82 i87 i92 i96 i100 i103 i104)), (q1, .inl (T 3, 4, .inl gq1)), ((z 0), .inl (T 0, 700, .inl g0))]) [1, 0, 2] rfl) (hD.sub (ws' := [(a, .inr (11, OX z i1 x28100234 i3 i4 i5 i6 i7 i8 i30 i43 i45 i46 i47 i48 i49 i50 i51 i58 i59 i65 i68 i69 i72 i78 i80 i81 i82 i87 i92 i96 i100 i103 i104)), (q1, .inl (T 3, 4, .inl gq1)), ((z 0), .inl (T 0, 700, .inl g0))]) [1, 0, 2] (by decide +kernel) rfl)
                    exact L28100487 _ 0 _ _ ls ⟨by decide, by decide⟩ (Nat.lt_succ_self _) (hP.sub (ws' := [(q1, .inl (T 3, 4, .inl gq1)), (a, .inr (11, OX z i1 x28100234 i3 i4 i5 i6 i7 i8 i30 i43 i45 i46 i47 i48 i49 i50 i51 i58 i59 i65 i68 i69 i72 i78 i80 i81 i82 i87 i92 i96 i100 i103 i104)), ((z 0), .inl (T 0, 700, .inl g0))]) [0, 1, 2] rfl) (hD.sub (ws' := [(q1, .inl (T 3, 4, .inl gq1)), (a, .inr (11, OX z i1 x28100234 i3 i4 i5 i6 i7 i8 i30 i43 i45 i46 i47 i48 i49 i50 i51 i58 i59 i65 i68 i69 i72 i78 i80 i81 i82 i87 i92 i96 i100 i103 i104)), ((z 0), .inl (T 0, 700, .inl g0))]) [0, 1, 2] (by decide +kernel) rfl) hS (lv_sub hl [0, 1, 2, 3] rfl)
                  · skip
                    have kc28100454 : x28100453.toInt ≠ 4 := ne_ti rfl (by decide) c28100454
                    refine lv_iconst (v := 0) hx hb dX11_isHere_72 (by decide) ?_
                    have hl28100499 : (0 : Int32).toInt = 0 := by decide
                    have hl28100500 : (0 : Int32).toInt = 0 := by decide
                    exact r_zret (x28100234 : Int32) C0 hr (by decide +kernel) hlocks hS (Nat.le_refl _) (Nat.le_refl _) dX11_isHere_73 ⟨⟨by omega, by omega⟩, (by omega), (Or.inl (by omega)), ⟨by decide, by decide⟩⟩ (hP.sub (ws' := [(a, .inr (11, OX z i1 x28100234 i3 i4 i5 i6 i7 i8 i30 i43 i45 i46 i47 i48 i49 i50 i51 i58 i59 i65 i68 i69 i72 i78 i80 i81 i82 i87 i92 i96 i100 i103 i104)), (q1, .inl (T 3, 4, .inl gq1)), ((z 0), .inl (T 0, 700, .inl g0))]) [1, 0, 2] rfl) (hD.sub (ws' := [(a, .inr (11, OX z i1 x28100234 i3 i4 i5 i6 i7 i8 i30 i43 i45 i46 i47 i48 i49 i50 i51 i58 i59 i65 i68 i69 i72 i78 i80 i81 i82 i87 i92 i96 i100 i103 i104)), (q1, .inl (T 3, 4, .inl gq1)), ((z 0), .inl (T 0, 700, .inl g0))]) [1, 0, 2] (by decide +kernel) rfl)
                · skip
                  have hp28100501 := hAlt
                  have hp28100501 : x28100450.toInt = 1 ∧ 97 ≤ x28100449.toInt ∧ x28100449.toInt ≤ 122 := hp28100501
                  clear hAlt
                  refine W.widen (k := 0) (n := 0) (Nat.le_refl _) (Nat.le_refl _) ?_
                  refine lv_if_eq (tgt := 61) hx hb dX11_isHere_52 (by decide) (fun hc => by have hf : x28100450.toInt = 0 := eq_ti rfl (by decide) hc; omega) (fun c28100502 => ?_)
                  have kc28100502 : x28100450.toInt ≠ 0 := ne_ti rfl (by decide) c28100502
                  obtain ⟨x28100503, ex28100503⟩ : ∃ y : Int32, y = x28100388 + 1 := ⟨_, rfl⟩
                  have hx28100503 : x28100503.toInt = x28100388.toInt + 1 := ti_add ex28100503 rfl (by decide) (by omega) (by omega)
                  refine lv_iinc (v := x28100503) (lv' := [(2, .int x28100503), (0, .ref a), (1, .ref q1)]) hx hb dX11_isHere_55 hl (k := 0) rfl (by rw [ex28100503]; rfl) (by decide) rfl (fun ls hl => ?_)
                  refine lv_goto (tgt := 35) hx hb dX11_isHere_58 (by decide) ?_
                  exact ih28100399 x28100503 _ _ ls ⟨by omega, by omega⟩ (by omega) (by omega) (hP.sub (ws' := [(q1, .inl (T 3, 4, .inl gq1)), (a, .inr (11, OX z i1 x28100234 i3 i4 i5 i6 i7 i8 i30 i43 i45 i46 i47 i48 i49 i50 i51 i58 i59 i65 i68 i69 i72 i78 i80 i81 i82 i87 i92 i96 i100 i103 i104)), ((z 0), .inl (T 0, 700, .inl g0))]) [0, 1, 2] rfl) (hD.sub (ws' := [(q1, .inl (T 3, 4, .inl gq1)), (a, .inr (11, OX z i1 x28100234 i3 i4 i5 i6 i7 i8 i30 i43 i45 i46 i47 i48 i49 i50 i51 i58 i59 i65 i68 i69 i72 i78 i80 i81 i82 i87 i92 i96 i100 i103 i104)), ((z 0), .inl (T 0, 700, .inl g0))]) [0, 1, 2] (by decide +kernel) rfl) hS (lv_sub hl [0, 1, 2] rfl)
          exact L28100397 _ x28100234 _ _ ls ⟨by omega, by omega⟩ (by omega) (Nat.lt_succ_self _) (hP.sub (ws' := [(q1, .inl (T 3, 4, .inl gq1)), (a, .inr (11, OX z i1 x28100234 i3 i4 i5 i6 i7 i8 i30 i43 i45 i46 i47 i48 i49 i50 i51 i58 i59 i65 i68 i69 i72 i78 i80 i81 i82 i87 i92 i96 i100 i103 i104)), ((z 0), .inl (T 0, 700, .inl g0))]) [0, 1, 2] rfl) (hD.sub (ws' := [(q1, .inl (T 3, 4, .inl gq1)), (a, .inr (11, OX z i1 x28100234 i3 i4 i5 i6 i7 i8 i30 i43 i45 i46 i47 i48 i49 i50 i51 i58 i59 i65 i68 i69 i72 i78 i80 i81 i82 i87 i92 i96 i100 i103 i104)), ((z 0), .inl (T 0, 700, .inl g0))]) [0, 1, 2] (by decide +kernel) rfl) hS (lv_sub hl [0, 1, 2] rfl)
        · skip
          have kc28100379 : x28100234.toInt = i4.toInt := eq_ti rfl rfl c28100379
          refine lv_iconst (v := 0) hx hb dX11_isHere_28 (by decide) ?_
          have hl28100504 : (0 : Int32).toInt = 0 := by decide
          have hl28100505 : (0 : Int32).toInt = 0 := by decide
          exact r_zret (x28100234 : Int32) C0 hr (by decide +kernel) hlocks hS (Nat.le_refl _) (Nat.le_refl _) dX11_isHere_29 ⟨⟨by omega, by omega⟩, (by omega), (Or.inl (by omega)), ⟨by decide, by decide⟩⟩ (hP.sub (ws' := [(a, .inr (11, OX z i1 x28100234 i3 i4 i5 i6 i7 i8 i30 i43 i45 i46 i47 i48 i49 i50 i51 i58 i59 i65 i68 i69 i72 i78 i80 i81 i82 i87 i92 i96 i100 i103 i104)), (q1, .inl (T 3, 4, .inl gq1)), ((z 0), .inl (T 0, 700, .inl g0))]) [1, 0, 2] rfl) (hD.sub (ws' := [(a, .inr (11, OX z i1 x28100234 i3 i4 i5 i6 i7 i8 i30 i43 i45 i46 i47 i48 i49 i50 i51 i58 i59 i65 i68 i69 i72 i78 i80 i81 i82 i87 i92 i96 i100 i103 i104)), (q1, .inl (T 3, 4, .inl gq1)), ((z 0), .inl (T 0, 700, .inl g0))]) [1, 0, 2] (by decide +kernel) rfl)
