set_option maxHeartbeats 4000000 in
set_option maxRecDepth 100000 in
theorem h_X11_isHere_28100766 (l : Launch) (D : va_G) (T : Nat → ClassId) (sq sv sz : Nat) (a : Nat) (z : Nat → Nat) (i1 i2 i3 i4 i5 i6 i7 i8 i30 i43 i45 i46 i47 i48 i49 i50 i51 i58 i59 i65 i68 i69 i72 i78 i80 i81 i82 i87 i92 i96 i100 i103 i104 : Int32) (q1 : Nat) (gq1 : Nat → Int32) (g0 : Nat → Int32) (hi2 : 0 ≤ i2.toInt ∧ i2.toInt ≤ 700) (hi3 : 0 ≤ i3.toInt ∧ i3.toInt ≤ 700) : Met l yX11_isHere (.code yX11_isHere cX11_isHere 4 (some .boolean) :: TB) { frames := 1, cells := 0, slots := 0, locals := 20 } (PC2 D T sq sv [.ref a, .ref q1] [(a, .inr (11, OX z i1 i2 i3 i4 i5 i6 i7 i8 i30 i43 i45 i46 i47 i48 i49 i50 i51 i58 i59 i65 i68 i69 i72 i78 i80 i81 i82 i87 i92 i96 i100 i103 i104)), (q1, .inl (T 3, 5, .inl gq1)), ((z 0), .inl (T 0, 700, .inl g0))] sz) (Qi (S := Int32) (fun (r : Int32) (ui2 : Int32) => (0 ≤ ui2.toInt ∧ ui2.toInt ≤ 700) ∧ (i2.toInt ≤ ui2.toInt) ∧ (((r.toInt = 0 ∧ i2.toInt ≤ ui2.toInt)) ∨ ((r.toInt = 1 ∧ i2.toInt ≤ ui2.toInt ∧ ui2.toInt + 5 ≤ i3.toInt ∧ i5.toInt = 0))) ∧ (0 ≤ r.toInt ∧ r.toInt ≤ 1)) (fun (ui2 : Int32) => [(a, .inr (11, OX z i1 ui2 i3 i4 i5 i6 i7 i8 i30 i43 i45 i46 i47 i48 i49 i50 i51 i58 i59 i65 i68 i69 i72 i78 i80 i81 i82 i87 i92 i96 i100 i103 i104)), (q1, .inl (T 3, 5, .inl gq1)), ((z 0), .inl (T 0, 700, .inl g0))]) D (va_A [(a, .inr (11, OX z i1 i2 i3 i4 i5 i6 i7 i8 i30 i43 i45 i46 i47 i48 i49 i50 i51 i58 i59 i65 i68 i69 i72 i78 i80 i81 i82 i87 i92 i96 i100 i103 i104)), (q1, .inl (T 3, 5, .inl gq1)), ((z 0), .inl (T 0, 700, .inl g0))] sz)) 0 0 (va_A [(a, .inr (11, OX z i1 i2 i3 i4 i5 i6 i7 i8 i30 i43 i45 i46 i47 i48 i49 i50 i51 i58 i59 i65 i68 i69 i72 i78 i80 i81 i82 i87 i92 i96 i100 i103 i104)), (q1, .inl (T 3, 5, .inl gq1)), ((z 0), .inl (T 0, 700, .inl g0))] sz) := by
  refine ct_begin2 (Qc := Qi (S := Int32) (fun (r : Int32) (ui2 : Int32) => (0 ≤ ui2.toInt ∧ ui2.toInt ≤ 700) ∧ (i2.toInt ≤ ui2.toInt) ∧ (((r.toInt = 0 ∧ i2.toInt ≤ ui2.toInt)) ∨ ((r.toInt = 1 ∧ i2.toInt ≤ ui2.toInt ∧ ui2.toInt + 5 ≤ i3.toInt ∧ i5.toInt = 0))) ∧ (0 ≤ r.toInt ∧ r.toInt ≤ 1)) (fun (ui2 : Int32) => [(a, .inr (11, OX z i1 ui2 i3 i4 i5 i6 i7 i8 i30 i43 i45 i46 i47 i48 i49 i50 i51 i58 i59 i65 i68 i69 i72 i78 i80 i81 i82 i87 i92 i96 i100 i103 i104)), (q1, .inl (T 3, 5, .inl gq1)), ((z 0), .inl (T 0, 700, .inl g0))]) D) (by decide +kernel) (Nat.le_of_ble_eq_true rfl) ?_
  intro p e s m below meth c A ls C0 hr hlocks hnm hE hStr hA hP hD hl
  generalize ([.ref a, .ref q1] : List Value).toArray = args at C0 ⊢
  have hx := C0.1
  have hb := C0.2.1
  have hml := C0.2.2.1
  have hown := C0.2.2.2.1
  have hT := C0.2.2.2.2
  have hK := hE.1
  generalize hH : s.heap = H at hP ⊢
  have hS : va_S A s.heap H [] := by rw [← hH]; exact va_S.rf
  have hP : va_P D vwCl [(a, .inr (11, OX z i1 i2 i3 i4 i5 i6 i7 i8 i30 i43 i45 i46 i47 i48 i49 i50 i51 i58 i59 i65 i68 i69 i72 i78 i80 i81 i82 i87 i92 i96 i100 i103 i104)), (q1, .inl (T 3, 5, .inl gq1)), ((z 0), .inl (T 0, 700, .inl g0))] H := hP
  have hD : va_D A [(a, .inr (11, OX z i1 i2 i3 i4 i5 i6 i7 i8 i30 i43 i45 i46 i47 i48 i49 i50 i51 i58 i59 i65 i68 i69 i72 i78 i80 i81 i82 i87 i92 i96 i100 i103 i104)), (q1, .inl (T 3, 5, .inl gq1)), ((z 0), .inl (T 0, 700, .inl g0))] := hD
  have hl : lv_has ls 4 [(0, .ref a), (1, .ref q1)] := hl
  refine lv_aload_n hx hb dX11_isHere_0 rfl (lv_at hl 0 rfl) ?_
  refine r_get (v := .int i5) C0 hE ffX11_5 mw_795 hP 0 rfl ox_5 dX11_isHere_1 ?_
  refine lv_if_ne (tgt := 28) hx hb dX11_isHere_4 (by decide) (fun c28100767 => ?_) (fun c28100767 => ?_)
  · skip
    have kc28100767 : i5.toInt ≠ 0 := ne_ti rfl (by decide) c28100767
    have nzi5 : ¬ i5 = 0 := c28100767
    refine lv_iconst (v := 0) hx hb dX11_isHere_28 (by decide) ?_
    have hl28100768 : (0 : Int32).toInt = 0 := by decide
    have hl28100769 : (0 : Int32).toInt = 0 := by decide
    exact r_zret (i2 : Int32) C0 hr (by decide +kernel) hlocks hS (Nat.le_refl _) (Nat.le_refl _) dX11_isHere_29 ⟨⟨by omega, by omega⟩, (by omega), (Or.inl (by omega)), ⟨by decide, by decide⟩⟩ (hP.sub (ws' := [(a, .inr (11, OX z i1 i2 i3 i4 i5 i6 i7 i8 i30 i43 i45 i46 i47 i48 i49 i50 i51 i58 i59 i65 i68 i69 i72 i78 i80 i81 i82 i87 i92 i96 i100 i103 i104)), (q1, .inl (T 3, 5, .inl gq1)), ((z 0), .inl (T 0, 700, .inl g0))]) [0, 1, 2] rfl) (hD.sub (ws' := [(a, .inr (11, OX z i1 i2 i3 i4 i5 i6 i7 i8 i30 i43 i45 i46 i47 i48 i49 i50 i51 i58 i59 i65 i68 i69 i72 i78 i80 i81 i82 i87 i92 i96 i100 i103 i104)), (q1, .inl (T 3, 5, .inl gq1)), ((z 0), .inl (T 0, 700, .inl g0))]) [0, 1, 2] (by decide +kernel) rfl)
  · skip
    have kc28100767 : i5.toInt = 0 := eq_ti rfl (by decide) c28100767
    refine lv_aload_n hx hb dX11_isHere_7 rfl (lv_at hl 0 rfl) ?_
    refine r_calli (wr := [(q1, .inl (T 3, 5, .inl gq1))]) (r_runV2 (As := []) (rest := []) (wc := [(a, .inr (11, OX z i1 i2 i3 i4 i5 i6 i7 i8 i30 i43 i45 i46 i47 i48 i49 i50 i51 i58 i59 i65 i68 i69 i72 i78 i80 i81 i82 i87 i92 i96 i100 i103 i104)), ((z 0), .inl (T 0, 700, .inl g0))]) (ci := 11) C0 hE hStr hS (va_free (wc := [(a, .inr (11, OX z i1 i2 i3 i4 i5 i6 i7 i8 i30 i43 i45 i46 i47 i48 i49 i50 i51 i58 i59 i65 i68 i69 i72 i78 i80 i81 i82 i87 i92 i96 i100 i103 i104)), ((z 0), .inl (T 0, 700, .inl g0))]) hD hS hA [0, 2] rfl) (h_X11_look_20600027 l D T sq sv H.size a z i1 i2 i3 i4 i5 i6 i7 i8 i30 i43 i45 i46 i47 i48 i49 i50 i51 i58 i59 i65 i68 i69 i72 i78 i80 i81 i82 i87 i92 i96 i100 i103 i104 g0 ⟨by omega, by omega⟩ ⟨by omega, by omega⟩) mw_913 mw_914 mw_1297 mw_14 mw_915 dn_1710 rfl rfl ⟨Nat.le_of_ble_eq_true rfl, Nat.le_of_ble_eq_true rfl⟩ (hP.sub (ws' := [(a, .inr (11, OX z i1 i2 i3 i4 i5 i6 i7 i8 i30 i43 i45 i46 i47 i48 i49 i50 i51 i58 i59 i65 i68 i69 i72 i78 i80 i81 i82 i87 i92 i96 i100 i103 i104)), ((z 0), .inl (T 0, 700, .inl g0))]) [0, 2] rfl) (hD.sub (ws' := [(a, .inr (11, OX z i1 i2 i3 i4 i5 i6 i7 i8 i30 i43 i45 i46 i47 i48 i49 i50 i51 i58 i59 i65 i68 i69 i72 i78 i80 i81 i82 i87 i92 i96 i100 i103 i104)), ((z 0), .inl (T 0, 700, .inl g0))]) [0, 2] (by decide +kernel) rfl) rfl rfl rfl hl.1 rfl (Nat.le_of_ble_eq_true rfl) dX11_isHere_8 ⟨Nat.le_of_ble_eq_true rfl, Nat.le_of_ble_eq_true rfl⟩) hP hD hS hA [0, 2] [1] rfl rfl (by decide +kernel) (by decide +kernel) (fun x28100770 u H locs hq hP hD hS => ?_)
    obtain ⟨x28100771, rfl⟩ : ∃ y, y = u := ⟨_, rfl⟩
    obtain ⟨hx28100771, hp28100772, hAlt⟩ := hq
    have hx28100771 : 0 ≤ x28100771.toInt ∧ x28100771.toInt ≤ 700 := hx28100771
    have hp28100772 : i2.toInt ≤ x28100771.toInt := hp28100772
    have hP : va_P D vwCl [(q1, .inl (T 3, 5, .inl gq1)), (a, .inr (11, OX z i1 x28100771 i3 i4 i5 i6 i7 i8 i30 i43 i45 i46 i47 i48 i49 i50 i51 i58 i59 i65 i68 i69 i72 i78 i80 i81 i82 i87 i92 i96 i100 i103 i104)), ((z 0), .inl (T 0, 700, .inl g0))] H := hP
    have hD : va_D A [(q1, .inl (T 3, 5, .inl gq1)), (a, .inr (11, OX z i1 x28100771 i3 i4 i5 i6 i7 i8 i30 i43 i45 i46 i47 i48 i49 i50 i51 i58 i59 i65 i68 i69 i72 i78 i80 i81 i82 i87 i92 i96 i100 i103 i104)), ((z 0), .inl (T 0, 700, .inl g0))] := hD
    rcases hAlt with hAlt | hAlt
    · skip
      have hp28100773 := hAlt
      have hp28100773 : x28100770.toInt = -1 ∧ i2.toInt ≤ x28100771.toInt := hp28100773
      clear hAlt
      refine W.widen (k := 0) (n := 0) (Nat.le_refl _) (Nat.le_refl _) ?_
      refine r_calli (wr := [(q1, .inl (T 3, 5, .inl gq1)), (a, .inr (11, OX z i1 x28100771 i3 i4 i5 i6 i7 i8 i30 i43 i45 i46 i47 i48 i49 i50 i51 i58 i59 i65 i68 i69 i72 i78 i80 i81 i82 i87 i92 i96 i100 i103 i104)), ((z 0), .inl (T 0, 700, .inl g0))]) (r_runS2 (As := [.int x28100770]) (rest := []) (wc := []) C0 hE hStr hS (va_free (wc := []) hD hS hA [] rfl) (h_X11_isLetter_20100005 l D T sq sv H.size x28100770) mw_928 mw_929 mw_14 mw_930 dn_1708 rfl rfl ⟨Nat.le_of_ble_eq_true rfl, Nat.le_of_ble_eq_true rfl⟩ (hP.sub (ws' := []) [] rfl) (hD.sub (ws' := []) [] (by decide +kernel) rfl) hl.1 rfl (Nat.le_of_ble_eq_true rfl) dX11_isHere_11 ⟨Nat.le_of_ble_eq_true rfl, Nat.le_of_ble_eq_true rfl⟩) hP hD hS hA [] [0, 1, 2] rfl rfl (by decide +kernel) (by decide +kernel) (fun x28100774 u H locs hq hP hD hS => ?_)
      obtain ⟨hAlt, hx28100774⟩ := hq
      have hx28100774 : 0 ≤ x28100774.toInt ∧ x28100774.toInt ≤ 1 := hx28100774
      have hP : va_P D vwCl [(q1, .inl (T 3, 5, .inl gq1)), (a, .inr (11, OX z i1 x28100771 i3 i4 i5 i6 i7 i8 i30 i43 i45 i46 i47 i48 i49 i50 i51 i58 i59 i65 i68 i69 i72 i78 i80 i81 i82 i87 i92 i96 i100 i103 i104)), ((z 0), .inl (T 0, 700, .inl g0))] H := hP
      have hD : va_D A [(q1, .inl (T 3, 5, .inl gq1)), (a, .inr (11, OX z i1 x28100771 i3 i4 i5 i6 i7 i8 i30 i43 i45 i46 i47 i48 i49 i50 i51 i58 i59 i65 i68 i69 i72 i78 i80 i81 i82 i87 i92 i96 i100 i103 i104)), ((z 0), .inl (T 0, 700, .inl g0))] := hD
      rcases hAlt with hAlt | hAlt
      · skip
        have hp28100775 := hAlt
        have hp28100775 : x28100774.toInt = 0 := hp28100775
        clear hAlt
        refine W.widen (k := 0) (n := 0) (Nat.le_refl _) (Nat.le_refl _) ?_
        refine lv_if_eq (tgt := 28) hx hb dX11_isHere_14 (by decide) (fun c28100776 => ?_) (fun hc => by have hf : x28100774.toInt ≠ 0 := ne_ti rfl (by decide) hc; omega)
        have kc28100776 : x28100774.toInt = 0 := eq_ti rfl (by decide) c28100776
        refine lv_iconst (v := 0) hx hb dX11_isHere_28 (by decide) ?_
        have hl28100777 : (0 : Int32).toInt = 0 := by decide
        have hl28100778 : (0 : Int32).toInt = 0 := by decide
        exact r_zret (x28100771 : Int32) C0 hr (by decide +kernel) hlocks hS (Nat.le_refl _) (Nat.le_refl _) dX11_isHere_29 ⟨⟨by omega, by omega⟩, (by omega), (Or.inl (by omega)), ⟨by decide, by decide⟩⟩ (hP.sub (ws' := [(a, .inr (11, OX z i1 x28100771 i3 i4 i5 i6 i7 i8 i30 i43 i45 i46 i47 i48 i49 i50 i51 i58 i59 i65 i68 i69 i72 i78 i80 i81 i82 i87 i92 i96 i100 i103 i104)), (q1, .inl (T 3, 5, .inl gq1)), ((z 0), .inl (T 0, 700, .inl g0))]) [1, 0, 2] rfl) (hD.sub (ws' := [(a, .inr (11, OX z i1 x28100771 i3 i4 i5 i6 i7 i8 i30 i43 i45 i46 i47 i48 i49 i50 i51 i58 i59 i65 i68 i69 i72 i78 i80 i81 i82 i87 i92 i96 i100 i103 i104)), (q1, .inl (T 3, 5, .inl gq1)), ((z 0), .inl (T 0, 700, .inl g0))]) [1, 0, 2] (by decide +kernel) rfl)
      · skip
        have hp28100779 := hAlt
        have hp28100779 : x28100774.toInt = 1 ∧ 97 ≤ x28100770.toInt ∧ x28100770.toInt ≤ 122 := hp28100779
        clear hAlt
        refine W.widen (k := 0) (n := 0) (Nat.le_refl _) (Nat.le_refl _) ?_
        refine lv_if_eq (tgt := 28) hx hb dX11_isHere_14 (by decide) (fun hc => by have hf : x28100774.toInt = 0 := eq_ti rfl (by decide) hc; omega) (fun c28100780 => ?_)
        have kc28100780 : x28100774.toInt ≠ 0 := ne_ti rfl (by decide) c28100780
        refine lv_aload_n hx hb dX11_isHere_17 rfl (lv_at hl 0 rfl) ?_
        refine r_get (v := .int x28100771) C0 hE ffX11_2 mw_792 hP 1 rfl ox_2 dX11_isHere_18 ?_
        refine lv_aload_n hx hb dX11_isHere_21 rfl (lv_at hl 0 rfl) ?_
        refine r_get (v := .int i4) C0 hE ffX11_4 mw_794 hP 1 rfl ox_4 dX11_isHere_22 ?_
        refine lv_icmp_ne (tgt := 30) hx hb dX11_isHere_25 (by decide) (fun c28100781 => ?_) (fun c28100781 => ?_)
        · skip
          have kc28100781 : x28100771.toInt ≠ i4.toInt := ne_ti rfl rfl c28100781
          refine lv_aload_n hx hb dX11_isHere_30 rfl (lv_at hl 0 rfl) ?_
          refine r_get (v := .int x28100771) C0 hE ffX11_2 mw_792 hP 1 rfl ox_2 dX11_isHere_31 ?_
          refine lv_istore_n (lv' := [(2, .int x28100771), (0, .ref a), (1, .ref q1)]) hx hb dX11_isHere_34 rfl hl (by decide) rfl (fun ls hl => ?_)
          have L28100799 : ∀ (n : Nat) (x28100790 : Int32) (H : Heap) (locs : List Loc) (ls : Array Slot), (0 ≤ x28100790.toInt ∧ x28100790.toInt ≤ 700) → (x28100771.toInt ≤ x28100790.toInt ∧ x28100790.toInt ≤ i3.toInt) → (701 - x28100790.toInt).toNat < n → va_P D vwCl [(q1, .inl (T 3, 5, .inl gq1)), (a, .inr (11, OX z i1 x28100771 i3 i4 i5 i6 i7 i8 i30 i43 i45 i46 i47 i48 i49 i50 i51 i58 i59 i65 i68 i69 i72 i78 i80 i81 i82 i87 i92 i96 i100 i103 i104)), ((z 0), .inl (T 0, 700, .inl g0))] H → va_D A [(q1, .inl (T 3, 5, .inl gq1)), (a, .inr (11, OX z i1 x28100771 i3 i4 i5 i6 i7 i8 i30 i43 i45 i46 i47 i48 i49 i50 i51 i58 i59 i65 i68 i69 i72 i78 i80 i81 i82 i87 i92 i96 i100 i103 i104)), ((z 0), .inl (T 0, 700, .inl g0))] → va_S A s.heap H locs → lv_has ls 4 [(2, .int x28100790), (0, .ref a), (1, .ref q1)] → W p l e { frames := 1, cells := 0, slots := 0, locals := 20 } s m args below meth c H locs 0 0 (MQ below ((Qi (S := Int32) (fun (r : Int32) (ui2 : Int32) => (0 ≤ ui2.toInt ∧ ui2.toInt ≤ 700) ∧ (i2.toInt ≤ ui2.toInt) ∧ (((r.toInt = 0 ∧ i2.toInt ≤ ui2.toInt)) ∨ ((r.toInt = 1 ∧ i2.toInt ≤ ui2.toInt ∧ ui2.toInt + 5 ≤ i3.toInt ∧ i5.toInt = 0))) ∧ (0 ≤ r.toInt ∧ r.toInt ≤ 1)) (fun (ui2 : Int32) => [(a, .inr (11, OX z i1 ui2 i3 i4 i5 i6 i7 i8 i30 i43 i45 i46 i47 i48 i49 i50 i51 i58 i59 i65 i68 i69 i72 i78 i80 i81 i82 i87 i92 i96 i100 i103 i104)), (q1, .inl (T 3, 5, .inl gq1)), ((z 0), .inl (T 0, 700, .inl g0))]) D) A) args s 0 0 A) (F0 m 35 ls []) := by
            intro n
            induction n with
            | zero =>
              intro x28100790 H locs ls hx28100790 hr28100800 hms hP hD hS hl
              exact absurd hms (Nat.not_lt_zero _)
            | succ n ih28100801 =>
              intro x28100790 H locs ls hx28100790 hr28100800 hms hP hD hS hl
              refine lv_iload_n hx hb dX11_isHere_35 rfl (lv_at hl 0 rfl) ?_
              refine lv_aload_n hx hb dX11_isHere_36 rfl (lv_at hl 1 rfl) ?_
              refine r_get (v := .int i3) C0 hE ffX11_3 mw_793 hP 1 rfl ox_3 dX11_isHere_37 ?_
              refine lv_icmp_ge (tgt := 61) hx hb dX11_isHere_40 (by decide) (fun c28100802 => ?_) (fun c28100802 => ?_)
              · skip
                have kc28100802 : i3.toInt ≤ x28100790.toInt := le_ti rfl rfl c28100802
                refine lv_iload_n hx hb dX11_isHere_61 rfl (lv_at hl 0 rfl) ?_
                refine lv_aload_n hx hb dX11_isHere_62 rfl (lv_at hl 1 rfl) ?_
                refine r_get (v := .int x28100771) C0 hE ffX11_2 mw_792 hP 1 rfl ox_2 dX11_isHere_63 ?_
                refine lv_isub hx hb dX11_isHere_66 ?_
                refine lv_topi (fun x28100803 ex28100803 => ?_)
                have hx28100803 : x28100803.toInt = x28100790.toInt - x28100771.toInt := ti_sub ex28100803 rfl rfl (by omega) (by omega)
                refine lv_aload_n hx hb dX11_isHere_67 rfl (lv_at hl 2 rfl) ?_
                refine va_alen (v := 5) hx hb hK hP 0 3 rfl rfl rfl dX11_isHere_68 ?_
                refine lv_icmp_eq (tgt := 74) hx hb dX11_isHere_69 (by decide) (fun c28100804 => ?_) (fun c28100804 => ?_)
                · skip
                  have kc28100804 : x28100803.toInt = 5 := eq_ti rfl (by decide) c28100804
                  refine lv_iconst (v := 0) hx hb dX11_isHere_74 (by decide) ?_
                  refine lv_istore_n (lv' := [(3, .int 0), (2, .int x28100790), (0, .ref a), (1, .ref q1)]) hx hb dX11_isHere_75 rfl hl (by decide) rfl (fun ls hl => ?_)
                  have L28100844 : ∀ (n : Nat) (x28100837 : Int32) (H : Heap) (locs : List Loc) (ls : Array Slot), (0 ≤ x28100837.toInt ∧ x28100837.toInt ≤ 5) → (6 - x28100837.toInt).toNat < n → va_P D vwCl [(q1, .inl (T 3, 5, .inl gq1)), (a, .inr (11, OX z i1 x28100771 i3 i4 i5 i6 i7 i8 i30 i43 i45 i46 i47 i48 i49 i50 i51 i58 i59 i65 i68 i69 i72 i78 i80 i81 i82 i87 i92 i96 i100 i103 i104)), ((z 0), .inl (T 0, 700, .inl g0))] H → va_D A [(q1, .inl (T 3, 5, .inl gq1)), (a, .inr (11, OX z i1 x28100771 i3 i4 i5 i6 i7 i8 i30 i43 i45 i46 i47 i48 i49 i50 i51 i58 i59 i65 i68 i69 i72 i78 i80 i81 i82 i87 i92 i96 i100 i103 i104)), ((z 0), .inl (T 0, 700, .inl g0))] → va_S A s.heap H locs → lv_has ls 4 [(3, .int x28100837), (2, .int x28100790), (0, .ref a), (1, .ref q1)] → W p l e { frames := 1, cells := 0, slots := 0, locals := 20 } s m args below meth c H locs 0 0 (MQ below ((Qi (S := Int32) (fun (r : Int32) (ui2 : Int32) => (0 ≤ ui2.toInt ∧ ui2.toInt ≤ 700) ∧ (i2.toInt ≤ ui2.toInt) ∧ (((r.toInt = 0 ∧ i2.toInt ≤ ui2.toInt)) ∨ ((r.toInt = 1 ∧ i2.toInt ≤ ui2.toInt ∧ ui2.toInt + 5 ≤ i3.toInt ∧ i5.toInt = 0))) ∧ (0 ≤ r.toInt ∧ r.toInt ≤ 1)) (fun (ui2 : Int32) => [(a, .inr (11, OX z i1 ui2 i3 i4 i5 i6 i7 i8 i30 i43 i45 i46 i47 i48 i49 i50 i51 i58 i59 i65 i68 i69 i72 i78 i80 i81 i82 i87 i92 i96 i100 i103 i104)), (q1, .inl (T 3, 5, .inl gq1)), ((z 0), .inl (T 0, 700, .inl g0))]) D) A) args s 0 0 A) (F0 m 76 ls []) := by
                    intro n
                    induction n with
                    | zero =>
                      intro x28100837 H locs ls hx28100837 hms hP hD hS hl
                      exact absurd hms (Nat.not_lt_zero _)
                    | succ n ih28100845 =>
                      intro x28100837 H locs ls hx28100837 hms hP hD hS hl
                      refine lv_iload_n hx hb dX11_isHere_76 rfl (lv_at hl 0 rfl) ?_
                      refine lv_aload_n hx hb dX11_isHere_77 rfl (lv_at hl 3 rfl) ?_
                      refine va_alen (v := 5) hx hb hK hP 0 3 rfl rfl rfl dX11_isHere_78 ?_
                      refine lv_icmp_ge (tgt := 107) hx hb dX11_isHere_79 (by decide) (fun c28100846 => ?_) (fun c28100846 => ?_)
                      · skip
                        have kc28100846 : 5 ≤ x28100837.toInt := le_ti (by decide) rfl c28100846
                        refine lv_iconst (v := 1) hx hb dX11_isHere_107 (by decide) ?_
                        have hl28100847 : (1 : Int32).toInt = 1 := by decide
                        have hl28100848 : (1 : Int32).toInt = 1 := by decide
                        exact r_zret (x28100771 : Int32) C0 hr (by decide +kernel) hlocks hS (Nat.le_refl _) (Nat.le_refl _) dX11_isHere_108 ⟨⟨by omega, by omega⟩, (by omega), (Or.inr (by omega)), ⟨by decide, by decide⟩⟩ (hP.sub (ws' := [(a, .inr (11, OX z i1 x28100771 i3 i4 i5 i6 i7 i8 i30 i43 i45 i46 i47 i48 i49 i50 i51 i58 i59 i65 i68 i69 i72 i78 i80 i81 i82 i87 i92 i96 i100 i103 i104)), (q1, .inl (T 3, 5, .inl gq1)), ((z 0), .inl (T 0, 700, .inl g0))]) [1, 0, 2] rfl) (hD.sub (ws' := [(a, .inr (11, OX z i1 x28100771 i3 i4 i5 i6 i7 i8 i30 i43 i45 i46 i47 i48 i49 i50 i51 i58 i59 i65 i68 i69 i72 i78 i80 i81 i82 i87 i92 i96 i100 i103 i104)), (q1, .inl (T 3, 5, .inl gq1)), ((z 0), .inl (T 0, 700, .inl g0))]) [1, 0, 2] (by decide +kernel) rfl)
                      · skip
                        have kc28100846 : x28100837.toInt < 5 := nle_ti (by decide) rfl c28100846
                        refine lv_aload_n hx hb dX11_isHere_82 rfl (lv_at hl 2 rfl) ?_
                        refine r_get (v := .ref (z 0)) C0 hE ffX11_0 mw_790 hP 1 rfl ox_0 dX11_isHere_83 ?_
                        refine lv_aload_n hx hb dX11_isHere_86 rfl (lv_at hl 2 rfl) ?_
                        refine r_get (v := .int x28100771) C0 hE ffX11_2 mw_792 hP 1 rfl ox_2 dX11_isHere_87 ?_
                        refine lv_iload_n hx hb dX11_isHere_90 rfl (lv_at hl 0 rfl) ?_
                        refine lv_iadd hx hb dX11_isHere_91 ?_
                        refine lv_topi (fun x28100849 ex28100849 => ?_)
                        have hx28100849 : x28100849.toInt = x28100771.toInt + x28100837.toInt := ti_add ex28100849 rfl rfl (by omega) (by omega)
                        refine va_iald hx hb hK hP 2 0 rfl rfl (in_ti rfl (by omega) (by omega)) dX11_isHere_92 ?_
                        refine lv_topi (fun x28100850 ex28100850 => ?_)
                        have tx28100850 : x28100850.toInt = (g0 (Int32.toNatClampNeg x28100849)).toInt := by rw [ex28100850]
                        refine lv_aload_n hx hb dX11_isHere_93 rfl (lv_at hl 3 rfl) ?_
                        refine lv_iload_n hx hb dX11_isHere_94 rfl (lv_at hl 0 rfl) ?_
                        refine va_cald hx hb hK hP 0 3 rfl rfl (in_ti rfl (by omega) (by omega)) dX11_isHere_95 ?_
                        refine lv_topi (fun x28100851 ex28100851 => ?_)
                        refine lv_icmp_eq (tgt := 101) hx hb dX11_isHere_96 (by decide) (fun c28100852 => ?_) (fun c28100852 => ?_)
                        · skip
                          have kc28100852 : x28100850.toInt = x28100851.toInt := eq_ti rfl rfl c28100852
                          obtain ⟨x28100853, ex28100853⟩ : ∃ y : Int32, y = x28100837 + 1 := ⟨_, rfl⟩
                          have hx28100853 : x28100853.toInt = x28100837.toInt + 1 := ti_add ex28100853 rfl (by decide) (by omega) (by omega)
                          refine lv_iinc (v := x28100853) (lv' := [(3, .int x28100853), (2, .int x28100790), (0, .ref a), (1, .ref q1)]) hx hb dX11_isHere_101 hl (k := 0) rfl (by rw [ex28100853]; rfl) (by decide) rfl (fun ls hl => ?_)
                          refine lv_goto (tgt := 76) hx hb dX11_isHere_104 (by decide) ?_
                          exact ih28100845 x28100853 _ _ ls ⟨by omega, by omega⟩ (by omega) (hP.sub (ws' := [(q1, .inl (T 3, 5, .inl gq1)), (a, .inr (11, OX z i1 x28100771 i3 i4 i5 i6 i7 i8 i30 i43 i45 i46 i47 i48 i49 i50 i51 i58 i59 i65 i68 i69 i72 i78 i80 i81 i82 i87 i92 i96 i100 i103 i104)), ((z 0), .inl (T 0, 700, .inl g0))]) [0, 1, 2] rfl) (hD.sub (ws' := [(q1, .inl (T 3, 5, .inl gq1)), (a, .inr (11, OX z i1 x28100771 i3 i4 i5 i6 i7 i8 i30 i43 i45 i46 i47 i48 i49 i50 i51 i58 i59 i65 i68 i69 i72 i78 i80 i81 i82 i87 i92 i96 i100 i103 i104)), ((z 0), .inl (T 0, 700, .inl g0))]) [0, 1, 2] (by decide +kernel) rfl) hS (lv_sub hl [0, 1, 2, 3] rfl)
                        · skip
                          have kc28100852 : x28100850.toInt ≠ x28100851.toInt := ne_ti rfl rfl c28100852
                          refine lv_iconst (v := 0) hx hb dX11_isHere_99 (by decide) ?_
                          have hl28100854 : (0 : Int32).toInt = 0 := by decide
                          have hl28100855 : (0 : Int32).toInt = 0 := by decide
                          exact r_zret (x28100771 : Int32) C0 hr (by decide +kernel) hlocks hS (Nat.le_refl _) (Nat.le_refl _) dX11_isHere_100 ⟨⟨by omega, by omega⟩, (by omega), (Or.inl (by omega)), ⟨by decide, by decide⟩⟩ (hP.sub (ws' := [(a, .inr (11, OX z i1 x28100771 i3 i4 i5 i6 i7 i8 i30 i43 i45 i46 i47 i48 i49 i50 i51 i58 i59 i65 i68 i69 i72 i78 i80 i81 i82 i87 i92 i96 i100 i103 i104)), (q1, .inl (T 3, 5, .inl gq1)), ((z 0), .inl (T 0, 700, .inl g0))]) [1, 0, 2] rfl) (hD.sub (ws' := [(a, .inr (11, OX z i1 x28100771 i3 i4 i5 i6 i7 i8 i30 i43 i45 i46 i47 i48 i49 i50 i51 i58 i59 i65 i68 i69 i72 i78 i80 i81 i82 i87 i92 i96 i100 i103 i104)), (q1, .inl (T 3, 5, .inl gq1)), ((z 0), .inl (T 0, 700, .inl g0))]) [1, 0, 2] (by decide +kernel) rfl)
                  exact L28100844 _ 0 _ _ ls ⟨by decide, by decide⟩ (Nat.lt_succ_self _) (hP.sub (ws' := [(q1, .inl (T 3, 5, .inl gq1)), (a, .inr (11, OX z i1 x28100771 i3 i4 i5 i6 i7 i8 i30 i43 i45 i46 i47 i48 i49 i50 i51 i58 i59 i65 i68 i69 i72 i78 i80 i81 i82 i87 i92 i96 i100 i103 i104)), ((z 0), .inl (T 0, 700, .inl g0))]) [0, 1, 2] rfl) (hD.sub (ws' := [(q1, .inl (T 3, 5, .inl gq1)), (a, .inr (11, OX z i1 x28100771 i3 i4 i5 i6 i7 i8 i30 i43 i45 i46 i47 i48 i49 i50 i51 i58 i59 i65 i68 i69 i72 i78 i80 i81 i82 i87 i92 i96 i100 i103 i104)), ((z 0), .inl (T 0, 700, .inl g0))]) [0, 1, 2] (by decide +kernel) rfl) hS (lv_sub hl [0, 1, 2, 3] rfl)
                · skip
                  have kc28100804 : x28100803.toInt ≠ 5 := ne_ti rfl (by decide) c28100804
                  refine lv_iconst (v := 0) hx hb dX11_isHere_72 (by decide) ?_
                  have hl28100856 : (0 : Int32).toInt = 0 := by decide
                  have hl28100857 : (0 : Int32).toInt = 0 := by decide
                  exact r_zret (x28100771 : Int32) C0 hr (by decide +kernel) hlocks hS (Nat.le_refl _) (Nat.le_refl _) dX11_isHere_73 ⟨⟨by omega, by omega⟩, (by omega), (Or.inl (by omega)), ⟨by decide, by decide⟩⟩ (hP.sub (ws' := [(a, .inr (11, OX z i1 x28100771 i3 i4 i5 i6 i7 i8 i30 i43 i45 i46 i47 i48 i49 i50 i51 i58 i59 i65 i68 i69 i72 i78 i80 i81 i82 i87 i92 i96 i100 i103 i104)), (q1, .inl (T 3, 5, .inl gq1)), ((z 0), .inl (T 0, 700, .inl g0))]) [1, 0, 2] rfl) (hD.sub (ws' := [(a, .inr (11, OX z i1 x28100771 i3 i4 i5 i6 i7 i8 i30 i43 i45 i46 i47 i48 i49 i50 i51 i58 i59 i65 i68 i69 i72 i78 i80 i81 i82 i87 i92 i96 i100 i103 i104)), (q1, .inl (T 3, 5, .inl gq1)), ((z 0), .inl (T 0, 700, .inl g0))]) [1, 0, 2] (by decide +kernel) rfl)
              · skip
                have kc28100802 : x28100790.toInt < i3.toInt := nle_ti rfl rfl c28100802
                refine lv_aload_n hx hb dX11_isHere_43 rfl (lv_at hl 1 rfl) ?_
                refine r_get (v := .ref (z 0)) C0 hE ffX11_0 mw_790 hP 1 rfl ox_0 dX11_isHere_44 ?_
                refine lv_iload_n hx hb dX11_isHere_47 rfl (lv_at hl 0 rfl) ?_
                refine va_iald hx hb hK hP 2 0 rfl rfl (in_ti rfl (by omega) (by omega)) dX11_isHere_48 ?_
                refine lv_topi (fun x28100858 ex28100858 => ?_)
                have tx28100858 : x28100858.toInt = (g0 (Int32.toNatClampNeg x28100790)).toInt := by rw [ex28100858]
                refine r_calli (wr := [(q1, .inl (T 3, 5, .inl gq1)), (a, .inr (11, OX z i1 x28100771 i3 i4 i5 i6 i7 i8 i30 i43 i45 i46 i47 i48 i49 i50 i51 i58 i59 i65 i68 i69 i72 i78 i80 i81 i82 i87 i92 i96 i100 i103 i104)), ((z 0), .inl (T 0, 700, .inl g0))]) (r_runS2 (As := [.int x28100858]) (rest := []) (wc := []) C0 hE hStr hS (va_free (wc := []) hD hS hA [] rfl) (h_X11_isLetter_20100005 l D T sq sv H.size x28100858) mw_928 mw_929 mw_14 mw_930 dn_1708 rfl rfl ⟨Nat.le_of_ble_eq_true rfl, Nat.le_of_ble_eq_true rfl⟩ (hP.sub (ws' := []) [] rfl) (hD.sub (ws' := []) [] (by decide +kernel) rfl) hl.1 rfl (Nat.le_of_ble_eq_true rfl) dX11_isHere_49 ⟨Nat.le_of_ble_eq_true rfl, Nat.le_of_ble_eq_true rfl⟩) hP hD hS hA [] [0, 1, 2] rfl rfl (by decide +kernel) (by decide +kernel) (fun x28100859 u H locs hq hP hD hS => ?_)
                obtain ⟨hAlt, hx28100859⟩ := hq
                have hx28100859 : 0 ≤ x28100859.toInt ∧ x28100859.toInt ≤ 1 := hx28100859
                have hP : va_P D vwCl [(q1, .inl (T 3, 5, .inl gq1)), (a, .inr (11, OX z i1 x28100771 i3 i4 i5 i6 i7 i8 i30 i43 i45 i46 i47 i48 i49 i50 i51 i58 i59 i65 i68 i69 i72 i78 i80 i81 i82 i87 i92 i96 i100 i103 i104)), ((z 0), .inl (T 0, 700, .inl g0))] H := hP
                have hD : va_D A [(q1, .inl (T 3, 5, .inl gq1)), (a, .inr (11, OX z i1 x28100771 i3 i4 i5 i6 i7 i8 i30 i43 i45 i46 i47 i48 i49 i50 i51 i58 i59 i65 i68 i69 i72 i78 i80 i81 i82 i87 i92 i96 i100 i103 i104)), ((z 0), .inl (T 0, 700, .inl g0))] := hD
                rcases hAlt with hAlt | hAlt
                · skip
                  have hp28100860 := hAlt
                  have hp28100860 : x28100859.toInt = 0 := hp28100860
                  clear hAlt
                  refine W.widen (k := 0) (n := 0) (Nat.le_refl _) (Nat.le_refl _) ?_
                  refine lv_if_eq (tgt := 61) hx hb dX11_isHere_52 (by decide) (fun c28100861 => ?_) (fun hc => by have hf : x28100859.toInt ≠ 0 := ne_ti rfl (by decide) hc; omega)
                  have kc28100861 : x28100859.toInt = 0 := eq_ti rfl (by decide) c28100861
                  refine lv_iload_n hx hb dX11_isHere_61 rfl (lv_at hl 0 rfl) ?_
                  refine lv_aload_n hx hb dX11_isHere_62 rfl (lv_at hl 1 rfl) ?_
                  refine r_get (v := .int x28100771) C0 hE ffX11_2 mw_792 hP 1 rfl ox_2 dX11_isHere_63 ?_
                  refine lv_isub hx hb dX11_isHere_66 ?_
                  refine lv_topi (fun x28100862 ex28100862 => ?_)
                  have hx28100862 : x28100862.toInt = x28100790.toInt - x28100771.toInt := ti_sub ex28100862 rfl rfl (by omega) (by omega)
                  refine lv_aload_n hx hb dX11_isHere_67 rfl (lv_at hl 2 rfl) ?_
                  refine va_alen (v := 5) hx hb hK hP 0 3 rfl rfl rfl dX11_isHere_68 ?_
                  refine lv_icmp_eq (tgt := 74) hx hb dX11_isHere_69 (by decide) (fun c28100863 => ?_) (fun c28100863 => ?_)
                  · skip
                    have kc28100863 : x28100862.toInt = 5 := eq_ti rfl (by decide) c28100863
                    refine lv_iconst (v := 0) hx hb dX11_isHere_74 (by decide) ?_
                    refine lv_istore_n (lv' := [(3, .int 0), (2, .int x28100790), (0, .ref a), (1, .ref q1)]) hx hb dX11_isHere_75 rfl hl (by decide) rfl (fun ls hl => ?_)
                    have L28100903 : ∀ (n : Nat) (x28100896 : Int32) (H : Heap) (locs : List Loc) (ls : Array Slot), (0 ≤ x28100896.toInt ∧ x28100896.toInt ≤ 5) → (6 - x28100896.toInt).toNat < n → va_P D vwCl [(q1, .inl (T 3, 5, .inl gq1)), (a, .inr (11, OX z i1 x28100771 i3 i4 i5 i6 i7 i8 i30 i43 i45 i46 i47 i48 i49 i50 i51 i58 i59 i65 i68 i69 i72 i78 i80 i81 i82 i87 i92 i96 i100 i103 i104)), ((z 0), .inl (T 0, 700, .inl g0))] H → va_D A [(q1, .inl (T 3, 5, .inl gq1)), (a, .inr (11, OX z i1 x28100771 i3 i4 i5 i6 i7 i8 i30 i43 i45 i46 i47 i48 i49 i50 i51 i58 i59 i65 i68 i69 i72 i78 i80 i81 i82 i87 i92 i96 i100 i103 i104)), ((z 0), .inl (T 0, 700, .inl g0))] → va_S A s.heap H locs → lv_has ls 4 [(3, .int x28100896), (2, .int x28100790), (0, .ref a), (1, .ref q1)] → W p l e { frames := 1, cells := 0, slots := 0, locals := 20 } s m args below meth c H locs 0 0 (MQ below ((Qi (S := Int32) (fun (r : Int32) (ui2 : Int32) => (0 ≤ ui2.toInt ∧ ui2.toInt ≤ 700) ∧ (i2.toInt ≤ ui2.toInt) ∧ (((r.toInt = 0 ∧ i2.toInt ≤ ui2.toInt)) ∨ ((r.toInt = 1 ∧ i2.toInt ≤ ui2.toInt ∧ ui2.toInt + 5 ≤ i3.toInt ∧ i5.toInt = 0))) ∧ (0 ≤ r.toInt ∧ r.toInt ≤ 1)) (fun (ui2 : Int32) => [(a, .inr (11, OX z i1 ui2 i3 i4 i5 i6 i7 i8 i30 i43 i45 i46 i47 i48 i49 i50 i51 i58 i59 i65 i68 i69 i72 i78 i80 i81 i82 i87 i92 i96 i100 i103 i104)), (q1, .inl (T 3, 5, .inl gq1)), ((z 0), .inl (T 0, 700, .inl g0))]) D) A) args s 0 0 A) (F0 m 76 ls []) := by
                      intro n
                      induction n with
                      | zero =>
                        intro x28100896 H locs ls hx28100896 hms hP hD hS hl
                        exact absurd hms (Nat.not_lt_zero _)
                      | succ n ih28100904 =>
                        intro x28100896 H locs ls hx28100896 hms hP hD hS hl
                        refine lv_iload_n hx hb dX11_isHere_76 rfl (lv_at hl 0 rfl) ?_
                        refine lv_aload_n hx hb dX11_isHere_77 rfl (lv_at hl 3 rfl) ?_
                        refine va_alen (v := 5) hx hb hK hP 0 3 rfl rfl rfl dX11_isHere_78 ?_
                        refine lv_icmp_ge (tgt := 107) hx hb dX11_isHere_79 (by decide) (fun c28100905 => ?_) (fun c28100905 => ?_)
                        · skip
                          have kc28100905 : 5 ≤ x28100896.toInt := le_ti (by decide) rfl c28100905
                          refine lv_iconst (v := 1) hx hb dX11_isHere_107 (by decide) ?_
                          have hl28100906 : (1 : Int32).toInt = 1 := by decide
                          have hl28100907 : (1 : Int32).toInt = 1 := by decide
                          exact r_zret (x28100771 : Int32) C0 hr (by decide +kernel) hlocks hS (Nat.le_refl _) (Nat.le_refl _) dX11_isHere_108 ⟨⟨by omega, by omega⟩, (by omega), (Or.inr (by omega)), ⟨by decide, by decide⟩⟩ (hP.sub (ws' := [(a, .inr (11, OX z i1 x28100771 i3 i4 i5 i6 i7 i8 i30 i43 i45 i46 i47 i48 i49 i50 i51 i58 i59 i65 i68 i69 i72 i78 i80 i81 i82 i87 i92 i96 i100 i103 i104)), (q1, .inl (T 3, 5, .inl gq1)), ((z 0), .inl (T 0, 700, .inl g0))]) [1, 0, 2] rfl) (hD.sub (ws' := [(a, .inr (11, OX z i1 x28100771 i3 i4 i5 i6 i7 i8 i30 i43 i45 i46 i47 i48 i49 i50 i51 i58 i59 i65 i68 i69 i72 i78 i80 i81 i82 i87 i92 i96 i100 i103 i104)), (q1, .inl (T 3, 5, .inl gq1)), ((z 0), .inl (T 0, 700, .inl g0))]) [1, 0, 2] (by decide +kernel) rfl)
                        · skip
                          have kc28100905 : x28100896.toInt < 5 := nle_ti (by decide) rfl c28100905
                          refine lv_aload_n hx hb dX11_isHere_82 rfl (lv_at hl 2 rfl) ?_
                          refine r_get (v := .ref (z 0)) C0 hE ffX11_0 mw_790 hP 1 rfl ox_0 dX11_isHere_83 ?_
                          refine lv_aload_n hx hb dX11_isHere_86 rfl (lv_at hl 2 rfl) ?_
                          refine r_get (v := .int x28100771) C0 hE ffX11_2 mw_792 hP 1 rfl ox_2 dX11_isHere_87 ?_
                          refine lv_iload_n hx hb dX11_isHere_90 rfl (lv_at hl 0 rfl) ?_
                          refine lv_iadd hx hb dX11_isHere_91 ?_
                          refine lv_topi (fun x28100908 ex28100908 => ?_)
                          have hx28100908 : x28100908.toInt = x28100771.toInt + x28100896.toInt := ti_add ex28100908 rfl rfl (by omega) (by omega)
                          refine va_iald hx hb hK hP 2 0 rfl rfl (in_ti rfl (by omega) (by omega)) dX11_isHere_92 ?_
                          refine lv_topi (fun x28100909 ex28100909 => ?_)
                          have tx28100909 : x28100909.toInt = (g0 (Int32.toNatClampNeg x28100908)).toInt := by rw [ex28100909]
                          refine lv_aload_n hx hb dX11_isHere_93 rfl (lv_at hl 3 rfl) ?_
                          refine lv_iload_n hx hb dX11_isHere_94 rfl (lv_at hl 0 rfl) ?_
                          refine va_cald hx hb hK hP 0 3 rfl rfl (in_ti rfl (by omega) (by omega)) dX11_isHere_95 ?_
                          refine lv_topi (fun x28100910 ex28100910 => ?_)
                          refine lv_icmp_eq (tgt := 101) hx hb dX11_isHere_96 (by decide) (fun c28100911 => ?_) (fun c28100911 => ?_)
                          · skip
                            have kc28100911 : x28100909.toInt = x28100910.toInt := eq_ti rfl rfl c28100911
                            obtain ⟨x28100912, ex28100912⟩ : ∃ y : Int32, y = x28100896 + 1 := ⟨_, rfl⟩
                            have hx28100912 : x28100912.toInt = x28100896.toInt + 1 := ti_add ex28100912 rfl (by decide) (by omega) (by omega)
                            refine lv_iinc (v := x28100912) (lv' := [(3, .int x28100912), (2, .int x28100790), (0, .ref a), (1, .ref q1)]) hx hb dX11_isHere_101 hl (k := 0) rfl (by rw [ex28100912]; rfl) (by decide) rfl (fun ls hl => ?_)
                            refine lv_goto (tgt := 76) hx hb dX11_isHere_104 (by decide) ?_
                            exact ih28100904 x28100912 _ _ ls ⟨by omega, by omega⟩ (by omega) (hP.sub (ws' := [(q1, .inl (T 3, 5, .inl gq1)), (a, .inr (11, OX z i1 x28100771 i3 i4 i5 i6 i7 i8 i30 i43 i45 i46 i47 i48 i49 i50 i51 i58 i59 i65 i68 i69 i72 i78 i80 i81 i82 i87 i92 i96 i100 i103 i104)), ((z 0), .inl (T 0, 700, .inl g0))]) [0, 1, 2] rfl) (hD.sub (ws' := [(q1, .inl (T 3, 5, .inl gq1)), (a, .inr (11, OX z i1 x28100771 i3 i4 i5 i6 i7 i8 i30 i43 i45 i46 i47 i48 i49 i50 i51 i58 i59 i65 i68 i69 i72 i78 i80 i81 i82 i87 i92 i96 i100 i103 i104)), ((z 0), .inl (T 0, 700, .inl g0))]) [0, 1, 2] (by decide +kernel) rfl) hS (lv_sub hl [0, 1, 2, 3] rfl)
                          · skip
                            have kc28100911 : x28100909.toInt ≠ x28100910.toInt := ne_ti rfl rfl c28100911
                            refine lv_iconst (v := 0) hx hb dX11_isHere_99 (by decide) ?_
                            have hl28100913 : (0 : Int32).toInt = 0 := by decide
                            have hl28100914 : (0 : Int32).toInt = 0 := by decide
                            exact r_zret (x28100771 : Int32) C0 hr (by decide +kernel) hlocks hS (Nat.le_refl _) (Nat.le_refl _) dX11_isHere_100 ⟨⟨by omega, by omega⟩, (by omega), (Or.inl (by omega)), ⟨by decide, by decide⟩⟩ (hP.sub (ws' := [(a, .inr (11, OX z i1 x28100771 i3 i4 i5 i6 i7 i8 i30 i43 i45 i46 i47 i48 i49 i50 i51 i58 i59 i65 i68 i69 i72 i78 i80 i81 i82 i87 i92 i96 i100 i103 i104)), (q1, .inl (T 3, 5, .inl gq1)), ((z 0), .inl (T 0, 700, .inl g0))]) [1, 0, 2] rfl) (hD.sub (ws' := [(a, .inr (11, OX z i1 x28100771 i3 i4 i5 i6 i7 i8 i30 i43 i45 i46 i47 i48 i49 i50 i51 i58 i59 i65 i68 i69 i72 i78 i80 i81 i82 i87 i92 i96 i100 i103 i104)), (q1, .inl (T 3, 5, .inl gq1)), ((z 0), .inl (T 0, 700, .inl g0))]) [1, 0, 2] (by decide +kernel) rfl)
                    exact L28100903 _ 0 _ _ ls ⟨by decide, by decide⟩ (Nat.lt_succ_self _) (hP.sub (ws' := [(q1, .inl (T 3, 5, .inl gq1)), (a, .inr (11, OX z i1 x28100771 i3 i4 i5 i6 i7 i8 i30 i43 i45 i46 i47 i48 i49 i50 i51 i58 i59 i65 i68 i69 i72 i78 i80 i81 i82 i87 i92 i96 i100 i103 i104)), ((z 0), .inl (T 0, 700, .inl g0))]) [0, 1, 2] rfl) (hD.sub (ws' := [(q1, .inl (T 3, 5, .inl gq1)), (a, .inr (11, OX z i1 x28100771 i3 i4 i5 i6 i7 i8 i30 i43 i45 i46 i47 i48 i49 i50 i51 i58 i59 i65 i68 i69 i72 i78 i80 i81 i82 i87 i92 i96 i100 i103 i104)), ((z 0), .inl (T 0, 700, .inl g0))]) [0, 1, 2] (by decide +kernel) rfl) hS (lv_sub hl [0, 1, 2, 3] rfl)
                  · skip
                    have kc28100863 : x28100862.toInt ≠ 5 := ne_ti rfl (by decide) c28100863
                    refine lv_iconst (v := 0) hx hb dX11_isHere_72 (by decide) ?_
                    have hl28100915 : (0 : Int32).toInt = 0 := by decide
                    have hl28100916 : (0 : Int32).toInt = 0 := by decide
                    exact r_zret (x28100771 : Int32) C0 hr (by decide +kernel) hlocks hS (Nat.le_refl _) (Nat.le_refl _) dX11_isHere_73 ⟨⟨by omega, by omega⟩, (by omega), (Or.inl (by omega)), ⟨by decide, by decide⟩⟩ (hP.sub (ws' := [(a, .inr (11, OX z i1 x28100771 i3 i4 i5 i6 i7 i8 i30 i43 i45 i46 i47 i48 i49 i50 i51 i58 i59 i65 i68 i69 i72 i78 i80 i81 i82 i87 i92 i96 i100 i103 i104)), (q1, .inl (T 3, 5, .inl gq1)), ((z 0), .inl (T 0, 700, .inl g0))]) [1, 0, 2] rfl) (hD.sub (ws' := [(a, .inr (11, OX z i1 x28100771 i3 i4 i5 i6 i7 i8 i30 i43 i45 i46 i47 i48 i49 i50 i51 i58 i59 i65 i68 i69 i72 i78 i80 i81 i82 i87 i92 i96 i100 i103 i104)), (q1, .inl (T 3, 5, .inl gq1)), ((z 0), .inl (T 0, 700, .inl g0))]) [1, 0, 2] (by decide +kernel) rfl)
                · skip
                  have hp28100917 := hAlt
                  have hp28100917 : x28100859.toInt = 1 ∧ 97 ≤ x28100858.toInt ∧ x28100858.toInt ≤ 122 := hp28100917
                  clear hAlt
                  refine W.widen (k := 0) (n := 0) (Nat.le_refl _) (Nat.le_refl _) ?_
                  refine lv_if_eq (tgt := 61) hx hb dX11_isHere_52 (by decide) (fun hc => by have hf : x28100859.toInt = 0 := eq_ti rfl (by decide) hc; omega) (fun c28100918 => ?_)
                  have kc28100918 : x28100859.toInt ≠ 0 := ne_ti rfl (by decide) c28100918
                  obtain ⟨x28100919, ex28100919⟩ : ∃ y : Int32, y = x28100790 + 1 := ⟨_, rfl⟩
                  have hx28100919 : x28100919.toInt = x28100790.toInt + 1 := ti_add ex28100919 rfl (by decide) (by omega) (by omega)
                  refine lv_iinc (v := x28100919) (lv' := [(2, .int x28100919), (0, .ref a), (1, .ref q1)]) hx hb dX11_isHere_55 hl (k := 0) rfl (by rw [ex28100919]; rfl) (by decide) rfl (fun ls hl => ?_)
                  refine lv_goto (tgt := 35) hx hb dX11_isHere_58 (by decide) ?_
                  exact ih28100801 x28100919 _ _ ls ⟨by omega, by omega⟩ (by omega) (by omega) (hP.sub (ws' := [(q1, .inl (T 3, 5, .inl gq1)), (a, .inr (11, OX z i1 x28100771 i3 i4 i5 i6 i7 i8 i30 i43 i45 i46 i47 i48 i49 i50 i51 i58 i59 i65 i68 i69 i72 i78 i80 i81 i82 i87 i92 i96 i100 i103 i104)), ((z 0), .inl (T 0, 700, .inl g0))]) [0, 1, 2] rfl) (hD.sub (ws' := [(q1, .inl (T 3, 5, .inl gq1)), (a, .inr (11, OX z i1 x28100771 i3 i4 i5 i6 i7 i8 i30 i43 i45 i46 i47 i48 i49 i50 i51 i58 i59 i65 i68 i69 i72 i78 i80 i81 i82 i87 i92 i96 i100 i103 i104)), ((z 0), .inl (T 0, 700, .inl g0))]) [0, 1, 2] (by decide +kernel) rfl) hS (lv_sub hl [0, 1, 2] rfl)
          exact L28100799 _ x28100771 _ _ ls ⟨by omega, by omega⟩ (by omega) (Nat.lt_succ_self _) (hP.sub (ws' := [(q1, .inl (T 3, 5, .inl gq1)), (a, .inr (11, OX z i1 x28100771 i3 i4 i5 i6 i7 i8 i30 i43 i45 i46 i47 i48 i49 i50 i51 i58 i59 i65 i68 i69 i72 i78 i80 i81 i82 i87 i92 i96 i100 i103 i104)), ((z 0), .inl (T 0, 700, .inl g0))]) [0, 1, 2] rfl) (hD.sub (ws' := [(q1, .inl (T 3, 5, .inl gq1)), (a, .inr (11, OX z i1 x28100771 i3 i4 i5 i6 i7 i8 i30 i43 i45 i46 i47 i48 i49 i50 i51 i58 i59 i65 i68 i69 i72 i78 i80 i81 i82 i87 i92 i96 i100 i103 i104)), ((z 0), .inl (T 0, 700, .inl g0))]) [0, 1, 2] (by decide +kernel) rfl) hS (lv_sub hl [0, 1, 2] rfl)
        · skip
          have kc28100781 : x28100771.toInt = i4.toInt := eq_ti rfl rfl c28100781
          refine lv_iconst (v := 0) hx hb dX11_isHere_28 (by decide) ?_
          have hl28100920 : (0 : Int32).toInt = 0 := by decide
          have hl28100921 : (0 : Int32).toInt = 0 := by decide
          exact r_zret (x28100771 : Int32) C0 hr (by decide +kernel) hlocks hS (Nat.le_refl _) (Nat.le_refl _) dX11_isHere_29 ⟨⟨by omega, by omega⟩, (by omega), (Or.inl (by omega)), ⟨by decide, by decide⟩⟩ (hP.sub (ws' := [(a, .inr (11, OX z i1 x28100771 i3 i4 i5 i6 i7 i8 i30 i43 i45 i46 i47 i48 i49 i50 i51 i58 i59 i65 i68 i69 i72 i78 i80 i81 i82 i87 i92 i96 i100 i103 i104)), (q1, .inl (T 3, 5, .inl gq1)), ((z 0), .inl (T 0, 700, .inl g0))]) [1, 0, 2] rfl) (hD.sub (ws' := [(a, .inr (11, OX z i1 x28100771 i3 i4 i5 i6 i7 i8 i30 i43 i45 i46 i47 i48 i49 i50 i51 i58 i59 i65 i68 i69 i72 i78 i80 i81 i82 i87 i92 i96 i100 i103 i104)), (q1, .inl (T 3, 5, .inl gq1)), ((z 0), .inl (T 0, 700, .inl g0))]) [1, 0, 2] (by decide +kernel) rfl)
    · skip
      have hp28100922 := hAlt
      have hp28100922 : i2.toInt ≤ x28100771.toInt ∧ x28100771.toInt < i3.toInt ∧ x28100770.toInt = (g0 (Int32.toNatClampNeg x28100771)).toInt := hp28100922
      clear hAlt
      refine W.widen (k := 0) (n := 0) (Nat.le_refl _) (Nat.le_refl _) ?_
      refine r_calli (wr := [(q1, .inl (T 3, 5, .inl gq1)), (a, .inr (11, OX z i1 x28100771 i3 i4 i5 i6 i7 i8 i30 i43 i45 i46 i47 i48 i49 i50 i51 i58 i59 i65 i68 i69 i72 i78 i80 i81 i82 i87 i92 i96 i100 i103 i104)), ((z 0), .inl (T 0, 700, .inl g0))]) (r_runS2 (As := [.int x28100770]) (rest := []) (wc := []) C0 hE hStr hS (va_free (wc := []) hD hS hA [] rfl) (h_X11_isLetter_20100005 l D T sq sv H.size x28100770) mw_928 mw_929 mw_14 mw_930 dn_1708 rfl rfl ⟨Nat.le_of_ble_eq_true rfl, Nat.le_of_ble_eq_true rfl⟩ (hP.sub (ws' := []) [] rfl) (hD.sub (ws' := []) [] (by decide +kernel) rfl) hl.1 rfl (Nat.le_of_ble_eq_true rfl) dX11_isHere_11 ⟨Nat.le_of_ble_eq_true rfl, Nat.le_of_ble_eq_true rfl⟩) hP hD hS hA [] [0, 1, 2] rfl rfl (by decide +kernel) (by decide +kernel) (fun x28100923 u H locs hq hP hD hS => ?_)
      obtain ⟨hAlt, hx28100923⟩ := hq
      have hx28100923 : 0 ≤ x28100923.toInt ∧ x28100923.toInt ≤ 1 := hx28100923
      have hP : va_P D vwCl [(q1, .inl (T 3, 5, .inl gq1)), (a, .inr (11, OX z i1 x28100771 i3 i4 i5 i6 i7 i8 i30 i43 i45 i46 i47 i48 i49 i50 i51 i58 i59 i65 i68 i69 i72 i78 i80 i81 i82 i87 i92 i96 i100 i103 i104)), ((z 0), .inl (T 0, 700, .inl g0))] H := hP
      have hD : va_D A [(q1, .inl (T 3, 5, .inl gq1)), (a, .inr (11, OX z i1 x28100771 i3 i4 i5 i6 i7 i8 i30 i43 i45 i46 i47 i48 i49 i50 i51 i58 i59 i65 i68 i69 i72 i78 i80 i81 i82 i87 i92 i96 i100 i103 i104)), ((z 0), .inl (T 0, 700, .inl g0))] := hD
      rcases hAlt with hAlt | hAlt
      · skip
        have hp28100924 := hAlt
        have hp28100924 : x28100923.toInt = 0 := hp28100924
        clear hAlt
        refine W.widen (k := 0) (n := 0) (Nat.le_refl _) (Nat.le_refl _) ?_
        refine lv_if_eq (tgt := 28) hx hb dX11_isHere_14 (by decide) (fun c28100925 => ?_) (fun hc => by have hf : x28100923.toInt ≠ 0 := ne_ti rfl (by decide) hc; omega)
        have kc28100925 : x28100923.toInt = 0 := eq_ti rfl (by decide) c28100925
        refine lv_iconst (v := 0) hx hb dX11_isHere_28 (by decide) ?_
        have hl28100926 : (0 : Int32).toInt = 0 := by decide
        have hl28100927 : (0 : Int32).toInt = 0 := by decide
        exact r_zret (x28100771 : Int32) C0 hr (by decide +kernel) hlocks hS (Nat.le_refl _) (Nat.le_refl _) dX11_isHere_29 ⟨⟨by omega, by omega⟩, (by omega), (Or.inl (by omega)), ⟨by decide, by decide⟩⟩ (hP.sub (ws' := [(a, .inr (11, OX z i1 x28100771 i3 i4 i5 i6 i7 i8 i30 i43 i45 i46 i47 i48 i49 i50 i51 i58 i59 i65 i68 i69 i72 i78 i80 i81 i82 i87 i92 i96 i100 i103 i104)), (q1, .inl (T 3, 5, .inl gq1)), ((z 0), .inl (T 0, 700, .inl g0))]) [1, 0, 2] rfl) (hD.sub (ws' := [(a, .inr (11, OX z i1 x28100771 i3 i4 i5 i6 i7 i8 i30 i43 i45 i46 i47 i48 i49 i50 i51 i58 i59 i65 i68 i69 i72 i78 i80 i81 i82 i87 i92 i96 i100 i103 i104)), (q1, .inl (T 3, 5, .inl gq1)), ((z 0), .inl (T 0, 700, .inl g0))]) [1, 0, 2] (by decide +kernel) rfl)
      · skip
        have hp28100928 := hAlt
        have hp28100928 : x28100923.toInt = 1 ∧ 97 ≤ x28100770.toInt ∧ x28100770.toInt ≤ 122 := hp28100928
        clear hAlt
        refine W.widen (k := 0) (n := 0) (Nat.le_refl _) (Nat.le_refl _) ?_
        refine lv_if_eq (tgt := 28) hx hb dX11_isHere_14 (by decide) (fun hc => by have hf : x28100923.toInt = 0 := eq_ti rfl (by decide) hc; omega) (fun c28100929 => ?_)
        have kc28100929 : x28100923.toInt ≠ 0 := ne_ti rfl (by decide) c28100929
        refine lv_aload_n hx hb dX11_isHere_17 rfl (lv_at hl 0 rfl) ?_
        refine r_get (v := .int x28100771) C0 hE ffX11_2 mw_792 hP 1 rfl ox_2 dX11_isHere_18 ?_
        refine lv_aload_n hx hb dX11_isHere_21 rfl (lv_at hl 0 rfl) ?_
        refine r_get (v := .int i4) C0 hE ffX11_4 mw_794 hP 1 rfl ox_4 dX11_isHere_22 ?_
        refine lv_icmp_ne (tgt := 30) hx hb dX11_isHere_25 (by decide) (fun c28100930 => ?_) (fun c28100930 => ?_)
        · skip
          have kc28100930 : x28100771.toInt ≠ i4.toInt := ne_ti rfl rfl c28100930
          refine lv_aload_n hx hb dX11_isHere_30 rfl (lv_at hl 0 rfl) ?_
          refine r_get (v := .int x28100771) C0 hE ffX11_2 mw_792 hP 1 rfl ox_2 dX11_isHere_31 ?_
          refine lv_istore_n (lv' := [(2, .int x28100771), (0, .ref a), (1, .ref q1)]) hx hb dX11_isHere_34 rfl hl (by decide) rfl (fun ls hl => ?_)
          have L28100948 : ∀ (n : Nat) (x28100939 : Int32) (H : Heap) (locs : List Loc) (ls : Array Slot), (0 ≤ x28100939.toInt ∧ x28100939.toInt ≤ 700) → (x28100771.toInt ≤ x28100939.toInt ∧ x28100939.toInt ≤ i3.toInt) → (701 - x28100939.toInt).toNat < n → va_P D vwCl [(q1, .inl (T 3, 5, .inl gq1)), (a, .inr (11, OX z i1 x28100771 i3 i4 i5 i6 i7 i8 i30 i43 i45 i46 i47 i48 i49 i50 i51 i58 i59 i65 i68 i69 i72 i78 i80 i81 i82 i87 i92 i96 i100 i103 i104)), ((z 0), .inl (T 0, 700, .inl g0))] H → va_D A [(q1, .inl (T 3, 5, .inl gq1)), (a, .inr (11, OX z i1 x28100771 i3 i4 i5 i6 i7 i8 i30 i43 i45 i46 i47 i48 i49 i50 i51 i58 i59 i65 i68 i69 i72 i78 i80 i81 i82 i87 i92 i96 i100 i103 i104)), ((z 0), .inl (T 0, 700, .inl g0))] → va_S A s.heap H locs → lv_has ls 4 [(2, .int x28100939), (0, .ref a), (1, .ref q1)] → W p l e { frames := 1, cells := 0, slots := 0, locals := 20 } s m args below meth c H locs 0 0 (MQ below ((Qi (S := Int32) (fun (r : Int32) (ui2 : Int32) => (0 ≤ ui2.toInt ∧ ui2.toInt ≤ 700) ∧ (i2.toInt ≤ ui2.toInt) ∧ (((r.toInt = 0 ∧ i2.toInt ≤ ui2.toInt)) ∨ ((r.toInt = 1 ∧ i2.toInt ≤ ui2.toInt ∧ ui2.toInt + 5 ≤ i3.toInt ∧ i5.toInt = 0))) ∧ (0 ≤ r.toInt ∧ r.toInt ≤ 1)) (fun (ui2 : Int32) => [(a, .inr (11, OX z i1 ui2 i3 i4 i5 i6 i7 i8 i30 i43 i45 i46 i47 i48 i49 i50 i51 i58 i59 i65 i68 i69 i72 i78 i80 i81 i82 i87 i92 i96 i100 i103 i104)), (q1, .inl (T 3, 5, .inl gq1)), ((z 0), .inl (T 0, 700, .inl g0))]) D) A) args s 0 0 A) (F0 m 35 ls []) := by
            intro n
            induction n with
            | zero =>
              intro x28100939 H locs ls hx28100939 hr28100949 hms hP hD hS hl
              exact absurd hms (Nat.not_lt_zero _)
            | succ n ih28100950 =>
              intro x28100939 H locs ls hx28100939 hr28100949 hms hP hD hS hl
              refine lv_iload_n hx hb dX11_isHere_35 rfl (lv_at hl 0 rfl) ?_
              refine lv_aload_n hx hb dX11_isHere_36 rfl (lv_at hl 1 rfl) ?_
              refine r_get (v := .int i3) C0 hE ffX11_3 mw_793 hP 1 rfl ox_3 dX11_isHere_37 ?_
              refine lv_icmp_ge (tgt := 61) hx hb dX11_isHere_40 (by decide) (fun c28100951 => ?_) (fun c28100951 => ?_)
              · skip
                have kc28100951 : i3.toInt ≤ x28100939.toInt := le_ti rfl rfl c28100951
                refine lv_iload_n hx hb dX11_isHere_61 rfl (lv_at hl 0 rfl) ?_
                refine lv_aload_n hx hb dX11_isHere_62 rfl (lv_at hl 1 rfl) ?_
                refine r_get (v := .int x28100771) C0 hE ffX11_2 mw_792 hP 1 rfl ox_2 dX11_isHere_63 ?_
                refine lv_isub hx hb dX11_isHere_66 ?_
                refine lv_topi (fun x28100952 ex28100952 => ?_)
                have hx28100952 : x28100952.toInt = x28100939.toInt - x28100771.toInt := ti_sub ex28100952 rfl rfl (by omega) (by omega)
                refine lv_aload_n hx hb dX11_isHere_67 rfl (lv_at hl 2 rfl) ?_
                refine va_alen (v := 5) hx hb hK hP 0 3 rfl rfl rfl dX11_isHere_68 ?_
                refine lv_icmp_eq (tgt := 74) hx hb dX11_isHere_69 (by decide) (fun c28100953 => ?_) (fun c28100953 => ?_)
                · skip
                  have kc28100953 : x28100952.toInt = 5 := eq_ti rfl (by decide) c28100953
                  refine lv_iconst (v := 0) hx hb dX11_isHere_74 (by decide) ?_
                  refine lv_istore_n (lv' := [(3, .int 0), (2, .int x28100939), (0, .ref a), (1, .ref q1)]) hx hb dX11_isHere_75 rfl hl (by decide) rfl (fun ls hl => ?_)
                  have L28100993 : ∀ (n : Nat) (x28100986 : Int32) (H : Heap) (locs : List Loc) (ls : Array Slot), (0 ≤ x28100986.toInt ∧ x28100986.toInt ≤ 5) → (6 - x28100986.toInt).toNat < n → va_P D vwCl [(q1, .inl (T 3, 5, .inl gq1)), (a, .inr (11, OX z i1 x28100771 i3 i4 i5 i6 i7 i8 i30 i43 i45 i46 i47 i48 i49 i50 i51 i58 i59 i65 i68 i69 i72 i78 i80 i81 i82 i87 i92 i96 i100 i103 i104)), ((z 0), .inl (T 0, 700, .inl g0))] H → va_D A [(q1, .inl (T 3, 5, .inl gq1)), (a, .inr (11, OX z i1 x28100771 i3 i4 i5 i6 i7 i8 i30 i43 i45 i46 i47 i48 i49 i50 i51 i58 i59 i65 i68 i69 i72 i78 i80 i81 i82 i87 i92 i96 i100 i103 i104)), ((z 0), .inl (T 0, 700, .inl g0))] → va_S A s.heap H locs → lv_has ls 4 [(3, .int x28100986), (2, .int x28100939), (0, .ref a), (1, .ref q1)] → W p l e { frames := 1, cells := 0, slots := 0, locals := 20 } s m args below meth c H locs 0 0 (MQ below ((Qi (S := Int32) (fun (r : Int32) (ui2 : Int32) => (0 ≤ ui2.toInt ∧ ui2.toInt ≤ 700) ∧ (i2.toInt ≤ ui2.toInt) ∧ (((r.toInt = 0 ∧ i2.toInt ≤ ui2.toInt)) ∨ ((r.toInt = 1 ∧ i2.toInt ≤ ui2.toInt ∧ ui2.toInt + 5 ≤ i3.toInt ∧ i5.toInt = 0))) ∧ (0 ≤ r.toInt ∧ r.toInt ≤ 1)) (fun (ui2 : Int32) => [(a, .inr (11, OX z i1 ui2 i3 i4 i5 i6 i7 i8 i30 i43 i45 i46 i47 i48 i49 i50 i51 i58 i59 i65 i68 i69 i72 i78 i80 i81 i82 i87 i92 i96 i100 i103 i104)), (q1, .inl (T 3, 5, .inl gq1)), ((z 0), .inl (T 0, 700, .inl g0))]) D) A) args s 0 0 A) (F0 m 76 ls []) := by
                    intro n
                    induction n with
                    | zero =>
                      intro x28100986 H locs ls hx28100986 hms hP hD hS hl
                      exact absurd hms (Nat.not_lt_zero _)
                    | succ n ih28100994 =>
                      intro x28100986 H locs ls hx28100986 hms hP hD hS hl
                      refine lv_iload_n hx hb dX11_isHere_76 rfl (lv_at hl 0 rfl) ?_
                      refine lv_aload_n hx hb dX11_isHere_77 rfl (lv_at hl 3 rfl) ?_
                      refine va_alen (v := 5) hx hb hK hP 0 3 rfl rfl rfl dX11_isHere_78 ?_
                      refine lv_icmp_ge (tgt := 107) hx hb dX11_isHere_79 (by decide) (fun c28100995 => ?_) (fun c28100995 => ?_)
                      · skip
                        have kc28100995 : 5 ≤ x28100986.toInt := le_ti (by decide) rfl c28100995
                        refine lv_iconst (v := 1) hx hb dX11_isHere_107 (by decide) ?_
                        have hl28100996 : (1 : Int32).toInt = 1 := by decide
                        have hl28100997 : (1 : Int32).toInt = 1 := by decide
                        exact r_zret (x28100771 : Int32) C0 hr (by decide +kernel) hlocks hS (Nat.le_refl _) (Nat.le_refl _) dX11_isHere_108 ⟨⟨by omega, by omega⟩, (by omega), (Or.inr (by omega)), ⟨by decide, by decide⟩⟩ (hP.sub (ws' := [(a, .inr (11, OX z i1 x28100771 i3 i4 i5 i6 i7 i8 i30 i43 i45 i46 i47 i48 i49 i50 i51 i58 i59 i65 i68 i69 i72 i78 i80 i81 i82 i87 i92 i96 i100 i103 i104)), (q1, .inl (T 3, 5, .inl gq1)), ((z 0), .inl (T 0, 700, .inl g0))]) [1, 0, 2] rfl) (hD.sub (ws' := [(a, .inr (11, OX z i1 x28100771 i3 i4 i5 i6 i7 i8 i30 i43 i45 i46 i47 i48 i49 i50 i51 i58 i59 i65 i68 i69 i72 i78 i80 i81 i82 i87 i92 i96 i100 i103 i104)), (q1, .inl (T 3, 5, .inl gq1)), ((z 0), .inl (T 0, 700, .inl g0))]) [1, 0, 2] (by decide +kernel) rfl)
                      · skip
                        have kc28100995 : x28100986.toInt < 5 := nle_ti (by decide) rfl c28100995
                        refine lv_aload_n hx hb dX11_isHere_82 rfl (lv_at hl 2 rfl) ?_
                        refine r_get (v := .ref (z 0)) C0 hE ffX11_0 mw_790 hP 1 rfl ox_0 dX11_isHere_83 ?_
                        refine lv_aload_n hx hb dX11_isHere_86 rfl (lv_at hl 2 rfl) ?_
                        refine r_get (v := .int x28100771) C0 hE ffX11_2 mw_792 hP 1 rfl ox_2 dX11_isHere_87 ?_
                        refine lv_iload_n hx hb dX11_isHere_90 rfl (lv_at hl 0 rfl) ?_
                        refine lv_iadd hx hb dX11_isHere_91 ?_
                        refine lv_topi (fun x28100998 ex28100998 => ?_)
                        have hx28100998 : x28100998.toInt = x28100771.toInt + x28100986.toInt := ti_add ex28100998 rfl rfl (by omega) (by omega)
                        refine va_iald hx hb hK hP 2 0 rfl rfl (in_ti rfl (by omega) (by omega)) dX11_isHere_92 ?_
                        refine lv_topi (fun x28100999 ex28100999 => ?_)
                        have tx28100999 : x28100999.toInt = (g0 (Int32.toNatClampNeg x28100998)).toInt := by rw [ex28100999]
                        refine lv_aload_n hx hb dX11_isHere_93 rfl (lv_at hl 3 rfl) ?_
                        refine lv_iload_n hx hb dX11_isHere_94 rfl (lv_at hl 0 rfl) ?_
                        refine va_cald hx hb hK hP 0 3 rfl rfl (in_ti rfl (by omega) (by omega)) dX11_isHere_95 ?_
                        refine lv_topi (fun x28101000 ex28101000 => ?_)
                        refine lv_icmp_eq (tgt := 101) hx hb dX11_isHere_96 (by decide) (fun c28101001 => ?_) (fun c28101001 => ?_)
                        · skip
                          have kc28101001 : x28100999.toInt = x28101000.toInt := eq_ti rfl rfl c28101001
                          obtain ⟨x28101002, ex28101002⟩ : ∃ y : Int32, y = x28100986 + 1 := ⟨_, rfl⟩
                          have hx28101002 : x28101002.toInt = x28100986.toInt + 1 := ti_add ex28101002 rfl (by decide) (by omega) (by omega)
                          refine lv_iinc (v := x28101002) (lv' := [(3, .int x28101002), (2, .int x28100939), (0, .ref a), (1, .ref q1)]) hx hb dX11_isHere_101 hl (k := 0) rfl (by rw [ex28101002]; rfl) (by decide) rfl (fun ls hl => ?_)
                          refine lv_goto (tgt := 76) hx hb dX11_isHere_104 (by decide) ?_
                          exact ih28100994 x28101002 _ _ ls ⟨by omega, by omega⟩ (by omega) (hP.sub (ws' := [(q1, .inl (T 3, 5, .inl gq1)), (a, .inr (11, OX z i1 x28100771 i3 i4 i5 i6 i7 i8 i30 i43 i45 i46 i47 i48 i49 i50 i51 i58 i59 i65 i68 i69 i72 i78 i80 i81 i82 i87 i92 i96 i100 i103 i104)), ((z 0), .inl (T 0, 700, .inl g0))]) [0, 1, 2] rfl) (hD.sub (ws' := [(q1, .inl (T 3, 5, .inl gq1)), (a, .inr (11, OX z i1 x28100771 i3 i4 i5 i6 i7 i8 i30 i43 i45 i46 i47 i48 i49 i50 i51 i58 i59 i65 i68 i69 i72 i78 i80 i81 i82 i87 i92 i96 i100 i103 i104)), ((z 0), .inl (T 0, 700, .inl g0))]) [0, 1, 2] (by decide +kernel) rfl) hS (lv_sub hl [0, 1, 2, 3] rfl)
                        · skip
                          have kc28101001 : x28100999.toInt ≠ x28101000.toInt := ne_ti rfl rfl c28101001
                          refine lv_iconst (v := 0) hx hb dX11_isHere_99 (by decide) ?_
                          have hl28101003 : (0 : Int32).toInt = 0 := by decide
                          have hl28101004 : (0 : Int32).toInt = 0 := by decide
                          exact r_zret (x28100771 : Int32) C0 hr (by decide +kernel) hlocks hS (Nat.le_refl _) (Nat.le_refl _) dX11_isHere_100 ⟨⟨by omega, by omega⟩, (by omega), (Or.inl (by omega)), ⟨by decide, by decide⟩⟩ (hP.sub (ws' := [(a, .inr (11, OX z i1 x28100771 i3 i4 i5 i6 i7 i8 i30 i43 i45 i46 i47 i48 i49 i50 i51 i58 i59 i65 i68 i69 i72 i78 i80 i81 i82 i87 i92 i96 i100 i103 i104)), (q1, .inl (T 3, 5, .inl gq1)), ((z 0), .inl (T 0, 700, .inl g0))]) [1, 0, 2] rfl) (hD.sub (ws' := [(a, .inr (11, OX z i1 x28100771 i3 i4 i5 i6 i7 i8 i30 i43 i45 i46 i47 i48 i49 i50 i51 i58 i59 i65 i68 i69 i72 i78 i80 i81 i82 i87 i92 i96 i100 i103 i104)), (q1, .inl (T 3, 5, .inl gq1)), ((z 0), .inl (T 0, 700, .inl g0))]) [1, 0, 2] (by decide +kernel) rfl)
                  exact L28100993 _ 0 _ _ ls ⟨by decide, by decide⟩ (Nat.lt_succ_self _) (hP.sub (ws' := [(q1, .inl (T 3, 5, .inl gq1)), (a, .inr (11, OX z i1 x28100771 i3 i4 i5 i6 i7 i8 i30 i43 i45 i46 i47 i48 i49 i50 i51 i58 i59 i65 i68 i69 i72 i78 i80 i81 i82 i87 i92 i96 i100 i103 i104)), ((z 0), .inl (T 0, 700, .inl g0))]) [0, 1, 2] rfl) (hD.sub (ws' := [(q1, .inl (T 3, 5, .inl gq1)), (a, .inr (11, OX z i1 x28100771 i3 i4 i5 i6 i7 i8 i30 i43 i45 i46 i47 i48 i49 i50 i51 i58 i59 i65 i68 i69 i72 i78 i80 i81 i82 i87 i92 i96 i100 i103 i104)), ((z 0), .inl (T 0, 700, .inl g0))]) [0, 1, 2] (by decide +kernel) rfl) hS (lv_sub hl [0, 1, 2, 3] rfl)
                · skip
                  have kc28100953 : x28100952.toInt ≠ 5 := ne_ti rfl (by decide) c28100953
                  refine lv_iconst (v := 0) hx hb dX11_isHere_72 (by decide) ?_
                  have hl28101005 : (0 : Int32).toInt = 0 := by decide
                  have hl28101006 : (0 : Int32).toInt = 0 := by decide
                  exact r_zret (x28100771 : Int32) C0 hr (by decide +kernel) hlocks hS (Nat.le_refl _) (Nat.le_refl _) dX11_isHere_73 ⟨⟨by omega, by omega⟩, (by omega), (Or.inl (by omega)), ⟨by decide, by decide⟩⟩ (hP.sub (ws' := [(a, .inr (11, OX z i1 x28100771 i3 i4 i5 i6 i7 i8 i30 i43 i45 i46 i47 i48 i49 i50 i51 i58 i59 i65 i68 i69 i72 i78 i80 i81 i82 i87 i92 i96 i100 i103 i104)), (q1, .inl (T 3, 5, .inl gq1)), ((z 0), .inl (T 0, 700, .inl g0))]) [1, 0, 2] rfl) (hD.sub (ws' := [(a, .inr (11, OX z i1 x28100771 i3 i4 i5 i6 i7 i8 i30 i43 i45 i46 i47 i48 i49 i50 i51 i58 i59 i65 i68 i69 i72 i78 i80 i81 i82 i87 i92 i96 i100 i103 i104)), (q1, .inl (T 3, 5, .inl gq1)), ((z 0), .inl (T 0, 700, .inl g0))]) [1, 0, 2] (by decide +kernel) rfl)
              · skip
                have kc28100951 : x28100939.toInt < i3.toInt := nle_ti rfl rfl c28100951
                refine lv_aload_n hx hb dX11_isHere_43 rfl (lv_at hl 1 rfl) ?_
                refine r_get (v := .ref (z 0)) C0 hE ffX11_0 mw_790 hP 1 rfl ox_0 dX11_isHere_44 ?_
                refine lv_iload_n hx hb dX11_isHere_47 rfl (lv_at hl 0 rfl) ?_
                refine va_iald hx hb hK hP 2 0 rfl rfl (in_ti rfl (by omega) (by omega)) dX11_isHere_48 ?_
                refine lv_topi (fun x28101007 ex28101007 => ?_)
                have tx28101007 : x28101007.toInt = (g0 (Int32.toNatClampNeg x28100939)).toInt := by rw [ex28101007]
                refine r_calli (wr := [(q1, .inl (T 3, 5, .inl gq1)), (a, .inr (11, OX z i1 x28100771 i3 i4 i5 i6 i7 i8 i30 i43 i45 i46 i47 i48 i49 i50 i51 i58 i59 i65 i68 i69 i72 i78 i80 i81 i82 i87 i92 i96 i100 i103 i104)), ((z 0), .inl (T 0, 700, .inl g0))]) (r_runS2 (As := [.int x28101007]) (rest := []) (wc := []) C0 hE hStr hS (va_free (wc := []) hD hS hA [] rfl) (h_X11_isLetter_20100005 l D T sq sv H.size x28101007) mw_928 mw_929 mw_14 mw_930 dn_1708 rfl rfl ⟨Nat.le_of_ble_eq_true rfl, Nat.le_of_ble_eq_true rfl⟩ (hP.sub (ws' := []) [] rfl) (hD.sub (ws' := []) [] (by decide +kernel) rfl) hl.1 rfl (Nat.le_of_ble_eq_true rfl) dX11_isHere_49 ⟨Nat.le_of_ble_eq_true rfl, Nat.le_of_ble_eq_true rfl⟩) hP hD hS hA [] [0, 1, 2] rfl rfl (by decide +kernel) (by decide +kernel) (fun x28101008 u H locs hq hP hD hS => ?_)
                obtain ⟨hAlt, hx28101008⟩ := hq
                have hx28101008 : 0 ≤ x28101008.toInt ∧ x28101008.toInt ≤ 1 := hx28101008
                have hP : va_P D vwCl [(q1, .inl (T 3, 5, .inl gq1)), (a, .inr (11, OX z i1 x28100771 i3 i4 i5 i6 i7 i8 i30 i43 i45 i46 i47 i48 i49 i50 i51 i58 i59 i65 i68 i69 i72 i78 i80 i81 i82 i87 i92 i96 i100 i103 i104)), ((z 0), .inl (T 0, 700, .inl g0))] H := hP
                have hD : va_D A [(q1, .inl (T 3, 5, .inl gq1)), (a, .inr (11, OX z i1 x28100771 i3 i4 i5 i6 i7 i8 i30 i43 i45 i46 i47 i48 i49 i50 i51 i58 i59 i65 i68 i69 i72 i78 i80 i81 i82 i87 i92 i96 i100 i103 i104)), ((z 0), .inl (T 0, 700, .inl g0))] := hD
                rcases hAlt with hAlt | hAlt
                · skip
                  have hp28101009 := hAlt
                  have hp28101009 : x28101008.toInt = 0 := hp28101009
                  clear hAlt
                  refine W.widen (k := 0) (n := 0) (Nat.le_refl _) (Nat.le_refl _) ?_
                  refine lv_if_eq (tgt := 61) hx hb dX11_isHere_52 (by decide) (fun c28101010 => ?_) (fun hc => by have hf : x28101008.toInt ≠ 0 := ne_ti rfl (by decide) hc; omega)
                  have kc28101010 : x28101008.toInt = 0 := eq_ti rfl (by decide) c28101010
                  refine lv_iload_n hx hb dX11_isHere_61 rfl (lv_at hl 0 rfl) ?_
                  refine lv_aload_n hx hb dX11_isHere_62 rfl (lv_at hl 1 rfl) ?_
                  refine r_get (v := .int x28100771) C0 hE ffX11_2 mw_792 hP 1 rfl ox_2 dX11_isHere_63 ?_
                  refine lv_isub hx hb dX11_isHere_66 ?_
                  refine lv_topi (fun x28101011 ex28101011 => ?_)
                  have hx28101011 : x28101011.toInt = x28100939.toInt - x28100771.toInt := ti_sub ex28101011 rfl rfl (by omega) (by omega)
                  refine lv_aload_n hx hb dX11_isHere_67 rfl (lv_at hl 2 rfl) ?_
                  refine va_alen (v := 5) hx hb hK hP 0 3 rfl rfl rfl dX11_isHere_68 ?_
                  refine lv_icmp_eq (tgt := 74) hx hb dX11_isHere_69 (by decide) (fun c28101012 => ?_) (fun c28101012 => ?_)
                  · skip
                    have kc28101012 : x28101011.toInt = 5 := eq_ti rfl (by decide) c28101012
                    refine lv_iconst (v := 0) hx hb dX11_isHere_74 (by decide) ?_
                    refine lv_istore_n (lv' := [(3, .int 0), (2, .int x28100939), (0, .ref a), (1, .ref q1)]) hx hb dX11_isHere_75 rfl hl (by decide) rfl (fun ls hl => ?_)
                    have L28101052 : ∀ (n : Nat) (x28101045 : Int32) (H : Heap) (locs : List Loc) (ls : Array Slot), (0 ≤ x28101045.toInt ∧ x28101045.toInt ≤ 5) → (6 - x28101045.toInt).toNat < n → va_P D vwCl [(q1, .inl (T 3, 5, .inl gq1)), (a, .inr (11, OX z i1 x28100771 i3 i4 i5 i6 i7 i8 i30 i43 i45 i46 i47 i48 i49 i50 i51 i58 i59 i65 i68 i69 i72 i78 i80 i81 i82 i87 i92 i96 i100 i103 i104)), ((z 0), .inl (T 0, 700, .inl g0))] H → va_D A [(q1, .inl (T 3, 5, .inl gq1)), (a, .inr (11, OX z i1 x28100771 i3 i4 i5 i6 i7 i8 i30 i43 i45 i46 i47 i48 i49 i50 i51 i58 i59 i65 i68 i69 i72 i78 i80 i81 i82 i87 i92 i96 i100 i103 i104)), ((z 0), .inl (T 0, 700, .inl g0))] → va_S A s.heap H locs → lv_has ls 4 [(3, .int x28101045), (2, .int x28100939), (0, .ref a), (1, .ref q1)] → W p l e { frames := 1, cells := 0, slots := 0, locals := 20 } s m args below meth c H locs 0 0 (MQ below ((Qi (S := Int32) (fun (r : Int32) (ui2 : Int32) => (0 ≤ ui2.toInt ∧ ui2.toInt ≤ 700) ∧ (i2.toInt ≤ ui2.toInt) ∧ (((r.toInt = 0 ∧ i2.toInt ≤ ui2.toInt)) ∨ ((r.toInt = 1 ∧ i2.toInt ≤ ui2.toInt ∧ ui2.toInt + 5 ≤ i3.toInt ∧ i5.toInt = 0))) ∧ (0 ≤ r.toInt ∧ r.toInt ≤ 1)) (fun (ui2 : Int32) => [(a, .inr (11, OX z i1 ui2 i3 i4 i5 i6 i7 i8 i30 i43 i45 i46 i47 i48 i49 i50 i51 i58 i59 i65 i68 i69 i72 i78 i80 i81 i82 i87 i92 i96 i100 i103 i104)), (q1, .inl (T 3, 5, .inl gq1)), ((z 0), .inl (T 0, 700, .inl g0))]) D) A) args s 0 0 A) (F0 m 76 ls []) := by
                      intro n
                      induction n with
                      | zero =>
                        intro x28101045 H locs ls hx28101045 hms hP hD hS hl
                        exact absurd hms (Nat.not_lt_zero _)
                      | succ n ih28101053 =>
                        intro x28101045 H locs ls hx28101045 hms hP hD hS hl
                        refine lv_iload_n hx hb dX11_isHere_76 rfl (lv_at hl 0 rfl) ?_
                        refine lv_aload_n hx hb dX11_isHere_77 rfl (lv_at hl 3 rfl) ?_
                        refine va_alen (v := 5) hx hb hK hP 0 3 rfl rfl rfl dX11_isHere_78 ?_
                        refine lv_icmp_ge (tgt := 107) hx hb dX11_isHere_79 (by decide) (fun c28101054 => ?_) (fun c28101054 => ?_)
                        · skip
                          have kc28101054 : 5 ≤ x28101045.toInt := le_ti (by decide) rfl c28101054
                          refine lv_iconst (v := 1) hx hb dX11_isHere_107 (by decide) ?_
                          have hl28101055 : (1 : Int32).toInt = 1 := by decide
                          have hl28101056 : (1 : Int32).toInt = 1 := by decide
                          exact r_zret (x28100771 : Int32) C0 hr (by decide +kernel) hlocks hS (Nat.le_refl _) (Nat.le_refl _) dX11_isHere_108 ⟨⟨by omega, by omega⟩, (by omega), (Or.inr (by omega)), ⟨by decide, by decide⟩⟩ (hP.sub (ws' := [(a, .inr (11, OX z i1 x28100771 i3 i4 i5 i6 i7 i8 i30 i43 i45 i46 i47 i48 i49 i50 i51 i58 i59 i65 i68 i69 i72 i78 i80 i81 i82 i87 i92 i96 i100 i103 i104)), (q1, .inl (T 3, 5, .inl gq1)), ((z 0), .inl (T 0, 700, .inl g0))]) [1, 0, 2] rfl) (hD.sub (ws' := [(a, .inr (11, OX z i1 x28100771 i3 i4 i5 i6 i7 i8 i30 i43 i45 i46 i47 i48 i49 i50 i51 i58 i59 i65 i68 i69 i72 i78 i80 i81 i82 i87 i92 i96 i100 i103 i104)), (q1, .inl (T 3, 5, .inl gq1)), ((z 0), .inl (T 0, 700, .inl g0))]) [1, 0, 2] (by decide +kernel) rfl)
                        · skip
                          have kc28101054 : x28101045.toInt < 5 := nle_ti (by decide) rfl c28101054
                          refine lv_aload_n hx hb dX11_isHere_82 rfl (lv_at hl 2 rfl) ?_
                          refine r_get (v := .ref (z 0)) C0 hE ffX11_0 mw_790 hP 1 rfl ox_0 dX11_isHere_83 ?_
                          refine lv_aload_n hx hb dX11_isHere_86 rfl (lv_at hl 2 rfl) ?_
                          refine r_get (v := .int x28100771) C0 hE ffX11_2 mw_792 hP 1 rfl ox_2 dX11_isHere_87 ?_
                          refine lv_iload_n hx hb dX11_isHere_90 rfl (lv_at hl 0 rfl) ?_
                          refine lv_iadd hx hb dX11_isHere_91 ?_
                          refine lv_topi (fun x28101057 ex28101057 => ?_)
                          have hx28101057 : x28101057.toInt = x28100771.toInt + x28101045.toInt := ti_add ex28101057 rfl rfl (by omega) (by omega)
                          refine va_iald hx hb hK hP 2 0 rfl rfl (in_ti rfl (by omega) (by omega)) dX11_isHere_92 ?_
                          refine lv_topi (fun x28101058 ex28101058 => ?_)
                          have tx28101058 : x28101058.toInt = (g0 (Int32.toNatClampNeg x28101057)).toInt := by rw [ex28101058]
                          refine lv_aload_n hx hb dX11_isHere_93 rfl (lv_at hl 3 rfl) ?_
                          refine lv_iload_n hx hb dX11_isHere_94 rfl (lv_at hl 0 rfl) ?_
                          refine va_cald hx hb hK hP 0 3 rfl rfl (in_ti rfl (by omega) (by omega)) dX11_isHere_95 ?_
                          refine lv_topi (fun x28101059 ex28101059 => ?_)
                          refine lv_icmp_eq (tgt := 101) hx hb dX11_isHere_96 (by decide) (fun c28101060 => ?_) (fun c28101060 => ?_)
                          · skip
                            have kc28101060 : x28101058.toInt = x28101059.toInt := eq_ti rfl rfl c28101060
                            obtain ⟨x28101061, ex28101061⟩ : ∃ y : Int32, y = x28101045 + 1 := ⟨_, rfl⟩
                            have hx28101061 : x28101061.toInt = x28101045.toInt + 1 := ti_add ex28101061 rfl (by decide) (by omega) (by omega)
                            refine lv_iinc (v := x28101061) (lv' := [(3, .int x28101061), (2, .int x28100939), (0, .ref a), (1, .ref q1)]) hx hb dX11_isHere_101 hl (k := 0) rfl (by rw [ex28101061]; rfl) (by decide) rfl (fun ls hl => ?_)
                            refine lv_goto (tgt := 76) hx hb dX11_isHere_104 (by decide) ?_
                            exact ih28101053 x28101061 _ _ ls ⟨by omega, by omega⟩ (by omega) (hP.sub (ws' := [(q1, .inl (T 3, 5, .inl gq1)), (a, .inr (11, OX z i1 x28100771 i3 i4 i5 i6 i7 i8 i30 i43 i45 i46 i47 i48 i49 i50 i51 i58 i59 i65 i68 i69 i72 i78 i80 i81 i82 i87 i92 i96 i100 i103 i104)), ((z 0), .inl (T 0, 700, .inl g0))]) [0, 1, 2] rfl) (hD.sub (ws' := [(q1, .inl (T 3, 5, .inl gq1)), (a, .inr (11, OX z i1 x28100771 i3 i4 i5 i6 i7 i8 i30 i43 i45 i46 i47 i48 i49 i50 i51 i58 i59 i65 i68 i69 i72 i78 i80 i81 i82 i87 i92 i96 i100 i103 i104)), ((z 0), .inl (T 0, 700, .inl g0))]) [0, 1, 2] (by decide +kernel) rfl) hS (lv_sub hl [0, 1, 2, 3] rfl)
                          · skip
                            have kc28101060 : x28101058.toInt ≠ x28101059.toInt := ne_ti rfl rfl c28101060
                            refine lv_iconst (v := 0) hx hb dX11_isHere_99 (by decide) ?_
                            have hl28101062 : (0 : Int32).toInt = 0 := by decide
                            have hl28101063 : (0 : Int32).toInt = 0 := by decide
                            exact r_zret (x28100771 : Int32) C0 hr (by decide +kernel) hlocks hS (Nat.le_refl _) (Nat.le_refl _) dX11_isHere_100 ⟨⟨by omega, by omega⟩, (by omega), (Or.inl (by omega)), ⟨by decide, by decide⟩⟩ (hP.sub (ws' := [(a, .inr (11, OX z i1 x28100771 i3 i4 i5 i6 i7 i8 i30 i43 i45 i46 i47 i48 i49 i50 i51 i58 i59 i65 i68 i69 i72 i78 i80 i81 i82 i87 i92 i96 i100 i103 i104)), (q1, .inl (T 3, 5, .inl gq1)), ((z 0), .inl (T 0, 700, .inl g0))]) [1, 0, 2] rfl) (hD.sub (ws' := [(a, .inr (11, OX z i1 x28100771 i3 i4 i5 i6 i7 i8 i30 i43 i45 i46 i47 i48 i49 i50 i51 i58 i59 i65 i68 i69 i72 i78 i80 i81 i82 i87 i92 i96 i100 i103 i104)), (q1, .inl (T 3, 5, .inl gq1)), ((z 0), .inl (T 0, 700, .inl g0))]) [1, 0, 2] (by decide +kernel) rfl)
                    exact L28101052 _ 0 _ _ ls ⟨by decide, by decide⟩ (Nat.lt_succ_self _) (hP.sub (ws' := [(q1, .inl (T 3, 5, .inl gq1)), (a, .inr (11, OX z i1 x28100771 i3 i4 i5 i6 i7 i8 i30 i43 i45 i46 i47 i48 i49 i50 i51 i58 i59 i65 i68 i69 i72 i78 i80 i81 i82 i87 i92 i96 i100 i103 i104)), ((z 0), .inl (T 0, 700, .inl g0))]) [0, 1, 2] rfl) (hD.sub (ws' := [(q1, .inl (T 3, 5, .inl gq1)), (a, .inr (11, OX z i1 x28100771 i3 i4 i5 i6 i7 i8 i30 i43 i45 i46 i47 i48 i49 i50 i51 i58 i59 i65 i68 i69 i72 i78 i80 i81 i82 i87 i92 i96 i100 i103 i104)), ((z 0), .inl (T 0, 700, .inl g0))]) [0, 1, 2] (by decide +kernel) rfl) hS (lv_sub hl [0, 1, 2, 3] rfl)
                  · skip
                    have kc28101012 : x28101011.toInt ≠ 5 := ne_ti rfl (by decide) c28101012
                    refine lv_iconst (v := 0) hx hb dX11_isHere_72 (by decide) ?_
                    have hl28101064 : (0 : Int32).toInt = 0 := by decide
                    have hl28101065 : (0 : Int32).toInt = 0 := by decide
                    exact r_zret (x28100771 : Int32) C0 hr (by decide +kernel) hlocks hS (Nat.le_refl _) (Nat.le_refl _) dX11_isHere_73 ⟨⟨by omega, by omega⟩, (by omega), (Or.inl (by omega)), ⟨by decide, by decide⟩⟩ (hP.sub (ws' := [(a, .inr (11, OX z i1 x28100771 i3 i4 i5 i6 i7 i8 i30 i43 i45 i46 i47 i48 i49 i50 i51 i58 i59 i65 i68 i69 i72 i78 i80 i81 i82 i87 i92 i96 i100 i103 i104)), (q1, .inl (T 3, 5, .inl gq1)), ((z 0), .inl (T 0, 700, .inl g0))]) [1, 0, 2] rfl) (hD.sub (ws' := [(a, .inr (11, OX z i1 x28100771 i3 i4 i5 i6 i7 i8 i30 i43 i45 i46 i47 i48 i49 i50 i51 i58 i59 i65 i68 i69 i72 i78 i80 i81 i82 i87 i92 i96 i100 i103 i104)), (q1, .inl (T 3, 5, .inl gq1)), ((z 0), .inl (T 0, 700, .inl g0))]) [1, 0, 2] (by decide +kernel) rfl)
                · skip
                  have hp28101066 := hAlt
                  have hp28101066 : x28101008.toInt = 1 ∧ 97 ≤ x28101007.toInt ∧ x28101007.toInt ≤ 122 := hp28101066
                  clear hAlt
                  refine W.widen (k := 0) (n := 0) (Nat.le_refl _) (Nat.le_refl _) ?_
                  refine lv_if_eq (tgt := 61) hx hb dX11_isHere_52 (by decide) (fun hc => by have hf : x28101008.toInt = 0 := eq_ti rfl (by decide) hc; omega) (fun c28101067 => ?_)
                  have kc28101067 : x28101008.toInt ≠ 0 := ne_ti rfl (by decide) c28101067
                  obtain ⟨x28101068, ex28101068⟩ : ∃ y : Int32, y = x28100939 + 1 := ⟨_, rfl⟩
                  have hx28101068 : x28101068.toInt = x28100939.toInt + 1 := ti_add ex28101068 rfl (by decide) (by omega) (by omega)
                  refine lv_iinc (v := x28101068) (lv' := [(2, .int x28101068), (0, .ref a), (1, .ref q1)]) hx hb dX11_isHere_55 hl (k := 0) rfl (by rw [ex28101068]; rfl) (by decide) rfl (fun ls hl => ?_)
                  refine lv_goto (tgt := 35) hx hb dX11_isHere_58 (by decide) ?_
                  exact ih28100950 x28101068 _ _ ls ⟨by omega, by omega⟩ (by omega) (by omega) (hP.sub (ws' := [(q1, .inl (T 3, 5, .inl gq1)), (a, .inr (11, OX z i1 x28100771 i3 i4 i5 i6 i7 i8 i30 i43 i45 i46 i47 i48 i49 i50 i51 i58 i59 i65 i68 i69 i72 i78 i80 i81 i82 i87 i92 i96 i100 i103 i104)), ((z 0), .inl (T 0, 700, .inl g0))]) [0, 1, 2] rfl) (hD.sub (ws' := [(q1, .inl (T 3, 5, .inl gq1)), (a, .inr (11, OX z i1 x28100771 i3 i4 i5 i6 i7 i8 i30 i43 i45 i46 i47 i48 i49 i50 i51 i58 i59 i65 i68 i69 i72 i78 i80 i81 i82 i87 i92 i96 i100 i103 i104)), ((z 0), .inl (T 0, 700, .inl g0))]) [0, 1, 2] (by decide +kernel) rfl) hS (lv_sub hl [0, 1, 2] rfl)
          exact L28100948 _ x28100771 _ _ ls ⟨by omega, by omega⟩ (by omega) (Nat.lt_succ_self _) (hP.sub (ws' := [(q1, .inl (T 3, 5, .inl gq1)), (a, .inr (11, OX z i1 x28100771 i3 i4 i5 i6 i7 i8 i30 i43 i45 i46 i47 i48 i49 i50 i51 i58 i59 i65 i68 i69 i72 i78 i80 i81 i82 i87 i92 i96 i100 i103 i104)), ((z 0), .inl (T 0, 700, .inl g0))]) [0, 1, 2] rfl) (hD.sub (ws' := [(q1, .inl (T 3, 5, .inl gq1)), (a, .inr (11, OX z i1 x28100771 i3 i4 i5 i6 i7 i8 i30 i43 i45 i46 i47 i48 i49 i50 i51 i58 i59 i65 i68 i69 i72 i78 i80 i81 i82 i87 i92 i96 i100 i103 i104)), ((z 0), .inl (T 0, 700, .inl g0))]) [0, 1, 2] (by decide +kernel) rfl) hS (lv_sub hl [0, 1, 2] rfl)
        · skip
          have kc28100930 : x28100771.toInt = i4.toInt := eq_ti rfl rfl c28100930
          refine lv_iconst (v := 0) hx hb dX11_isHere_28 (by decide) ?_
          have hl28101069 : (0 : Int32).toInt = 0 := by decide
          have hl28101070 : (0 : Int32).toInt = 0 := by decide
          exact r_zret (x28100771 : Int32) C0 hr (by decide +kernel) hlocks hS (Nat.le_refl _) (Nat.le_refl _) dX11_isHere_29 ⟨⟨by omega, by omega⟩, (by omega), (Or.inl (by omega)), ⟨by decide, by decide⟩⟩ (hP.sub (ws' := [(a, .inr (11, OX z i1 x28100771 i3 i4 i5 i6 i7 i8 i30 i43 i45 i46 i47 i48 i49 i50 i51 i58 i59 i65 i68 i69 i72 i78 i80 i81 i82 i87 i92 i96 i100 i103 i104)), (q1, .inl (T 3, 5, .inl gq1)), ((z 0), .inl (T 0, 700, .inl g0))]) [1, 0, 2] rfl) (hD.sub (ws' := [(a, .inr (11, OX z i1 x28100771 i3 i4 i5 i6 i7 i8 i30 i43 i45 i46 i47 i48 i49 i50 i51 i58 i59 i65 i68 i69 i72 i78 i80 i81 i82 i87 i92 i96 i100 i103 i104)), (q1, .inl (T 3, 5, .inl gq1)), ((z 0), .inl (T 0, 700, .inl g0))]) [1, 0, 2] (by decide +kernel) rfl)
