set_option maxHeartbeats 4000000 in
set_option maxRecDepth 100000 in
theorem h_X11_isHere_28101696 (l : Launch) (D : va_G) (T : Nat → ClassId) (sq sv sz : Nat) (a : Nat) (z : Nat → Nat) (i1 i2 i3 i4 i5 i6 i7 i8 i30 i43 i45 i46 i47 i48 i49 i50 i51 i58 i59 i65 i68 i69 i72 i78 i80 i81 i82 i87 i92 i96 i100 i103 i104 : Int32) (q1 : Nat) (gq1 : Nat → Int32) (g0 : Nat → Int32) (hi2 : 0 ≤ i2.toInt ∧ i2.toInt ≤ 700) (hi3 : 0 ≤ i3.toInt ∧ i3.toInt ≤ 700) : Met l yX11_isHere (.code yX11_isHere cX11_isHere 4 (some .boolean) :: TB) { frames := 1, cells := 0, slots := 0, locals := 20 } (PC2 D T sq sv [.ref a, .ref q1] [(a, .inr (11, OX z i1 i2 i3 i4 i5 i6 i7 i8 i30 i43 i45 i46 i47 i48 i49 i50 i51 i58 i59 i65 i68 i69 i72 i78 i80 i81 i82 i87 i92 i96 i100 i103 i104)), (q1, .inl (T 3, 3, .inl gq1)), ((z 0), .inl (T 0, 700, .inl g0))] sz) (Qi (S := Int32) (fun (r : Int32) (ui2 : Int32) => (0 ≤ ui2.toInt ∧ ui2.toInt ≤ 700) ∧ (i2.toInt ≤ ui2.toInt) ∧ (((r.toInt = 0 ∧ i2.toInt ≤ ui2.toInt)) ∨ ((r.toInt = 1 ∧ i2.toInt ≤ ui2.toInt ∧ ui2.toInt + 3 ≤ i3.toInt ∧ i5.toInt = 0))) ∧ (0 ≤ r.toInt ∧ r.toInt ≤ 1)) (fun (ui2 : Int32) => [(a, .inr (11, OX z i1 ui2 i3 i4 i5 i6 i7 i8 i30 i43 i45 i46 i47 i48 i49 i50 i51 i58 i59 i65 i68 i69 i72 i78 i80 i81 i82 i87 i92 i96 i100 i103 i104)), (q1, .inl (T 3, 3, .inl gq1)), ((z 0), .inl (T 0, 700, .inl g0))]) D (va_A [(a, .inr (11, OX z i1 i2 i3 i4 i5 i6 i7 i8 i30 i43 i45 i46 i47 i48 i49 i50 i51 i58 i59 i65 i68 i69 i72 i78 i80 i81 i82 i87 i92 i96 i100 i103 i104)), (q1, .inl (T 3, 3, .inl gq1)), ((z 0), .inl (T 0, 700, .inl g0))] sz)) 0 0 (va_A [(a, .inr (11, OX z i1 i2 i3 i4 i5 i6 i7 i8 i30 i43 i45 i46 i47 i48 i49 i50 i51 i58 i59 i65 i68 i69 i72 i78 i80 i81 i82 i87 i92 i96 i100 i103 i104)), (q1, .inl (T 3, 3, .inl gq1)), ((z 0), .inl (T 0, 700, .inl g0))] sz) := by
  refine ct_begin2 (Qc := Qi (S := Int32) (fun (r : Int32) (ui2 : Int32) => (0 ≤ ui2.toInt ∧ ui2.toInt ≤ 700) ∧ (i2.toInt ≤ ui2.toInt) ∧ (((r.toInt = 0 ∧ i2.toInt ≤ ui2.toInt)) ∨ ((r.toInt = 1 ∧ i2.toInt ≤ ui2.toInt ∧ ui2.toInt + 3 ≤ i3.toInt ∧ i5.toInt = 0))) ∧ (0 ≤ r.toInt ∧ r.toInt ≤ 1)) (fun (ui2 : Int32) => [(a, .inr (11, OX z i1 ui2 i3 i4 i5 i6 i7 i8 i30 i43 i45 i46 i47 i48 i49 i50 i51 i58 i59 i65 i68 i69 i72 i78 i80 i81 i82 i87 i92 i96 i100 i103 i104)), (q1, .inl (T 3, 3, .inl gq1)), ((z 0), .inl (T 0, 700, .inl g0))]) D) (by decide +kernel) (Nat.le_of_ble_eq_true rfl) ?_
  intro p e s m below meth c A ls C0 hr hlocks hnm hE hStr hA hP hD hl
  generalize ([.ref a, .ref q1] : List Value).toArray = args at C0 ⊢
  have hx := C0.1
  have hb := C0.2.1
  have hml := C0.2.2.1
  have hown := C0.2.2.2.1
  have hT := C0.2.2.2.2
  have hK := hE.1
  generalize hH : s.heap = H at hP ⊢
  have hS : va_S A s.heap H [] := by rw [← hH]; exact va_S.rf
  have hP : va_P D vwCl [(a, .inr (11, OX z i1 i2 i3 i4 i5 i6 i7 i8 i30 i43 i45 i46 i47 i48 i49 i50 i51 i58 i59 i65 i68 i69 i72 i78 i80 i81 i82 i87 i92 i96 i100 i103 i104)), (q1, .inl (T 3, 3, .inl gq1)), ((z 0), .inl (T 0, 700, .inl g0))] H := hP
  have hD : va_D A [(a, .inr (11, OX z i1 i2 i3 i4 i5 i6 i7 i8 i30 i43 i45 i46 i47 i48 i49 i50 i51 i58 i59 i65 i68 i69 i72 i78 i80 i81 i82 i87 i92 i96 i100 i103 i104)), (q1, .inl (T 3, 3, .inl gq1)), ((z 0), .inl (T 0, 700, .inl g0))] := hD
  have hl : lv_has ls 4 [(0, .ref a), (1, .ref q1)] := hl
  refine lv_aload_n hx hb dX11_isHere_0 rfl (lv_at hl 0 rfl) ?_
  refine r_get (v := .int i5) C0 hE ffX11_5 mw_795 hP 0 rfl ox_5 dX11_isHere_1 ?_
  refine lv_if_ne (tgt := 28) hx hb dX11_isHere_4 (by decide) (fun c28101697 => ?_) (fun c28101697 => ?_)
  · skip
    have kc28101697 : i5.toInt ≠ 0 := ne_ti rfl (by decide) c28101697
    have nzi5 : ¬ i5 = 0 := c28101697
    refine lv_iconst (v := 0) hx hb dX11_isHere_28 (by decide) ?_
    have hl28101698 : (0 : Int32).toInt = 0 := by decide
    have hl28101699 : (0 : Int32).toInt = 0 := by decide
    exact r_zret (i2 : Int32) C0 hr (by decide +kernel) hlocks hS (Nat.le_refl _) (Nat.le_refl _) dX11_isHere_29 ⟨⟨by omega, by omega⟩, (by omega), (Or.inl (by omega)), ⟨by decide, by decide⟩⟩ (hP.sub (ws' := [(a, .inr (11, OX z i1 i2 i3 i4 i5 i6 i7 i8 i30 i43 i45 i46 i47 i48 i49 i50 i51 i58 i59 i65 i68 i69 i72 i78 i80 i81 i82 i87 i92 i96 i100 i103 i104)), (q1, .inl (T 3, 3, .inl gq1)), ((z 0), .inl (T 0, 700, .inl g0))]) [0, 1, 2] rfl) (hD.sub (ws' := [(a, .inr (11, OX z i1 i2 i3 i4 i5 i6 i7 i8 i30 i43 i45 i46 i47 i48 i49 i50 i51 i58 i59 i65 i68 i69 i72 i78 i80 i81 i82 i87 i92 i96 i100 i103 i104)), (q1, .inl (T 3, 3, .inl gq1)), ((z 0), .inl (T 0, 700, .inl g0))]) [0, 1, 2] (by decide +kernel) rfl)
  · skip
    have kc28101697 : i5.toInt = 0 := eq_ti rfl (by decide) c28101697
    refine lv_aload_n hx hb dX11_isHere_7 rfl (lv_at hl 0 rfl) ?_
    refine r_calli (wr := [(q1, .inl (T 3, 3, .inl gq1))]) (r_runV2 (As := []) (rest := []) (wc := [(a, .inr (11, OX z i1 i2 i3 i4 i5 i6 i7 i8 i30 i43 i45 i46 i47 i48 i49 i50 i51 i58 i59 i65 i68 i69 i72 i78 i80 i81 i82 i87 i92 i96 i100 i103 i104)), ((z 0), .inl (T 0, 700, .inl g0))]) (ci := 11) C0 hE hStr hS (va_free (wc := [(a, .inr (11, OX z i1 i2 i3 i4 i5 i6 i7 i8 i30 i43 i45 i46 i47 i48 i49 i50 i51 i58 i59 i65 i68 i69 i72 i78 i80 i81 i82 i87 i92 i96 i100 i103 i104)), ((z 0), .inl (T 0, 700, .inl g0))]) hD hS hA [0, 2] rfl) (h_X11_look_20600027 l D T sq sv H.size a z i1 i2 i3 i4 i5 i6 i7 i8 i30 i43 i45 i46 i47 i48 i49 i50 i51 i58 i59 i65 i68 i69 i72 i78 i80 i81 i82 i87 i92 i96 i100 i103 i104 g0 ⟨by omega, by omega⟩ ⟨by omega, by omega⟩) mw_913 mw_914 mw_1297 mw_14 mw_915 dn_1710 rfl rfl ⟨Nat.le_of_ble_eq_true rfl, Nat.le_of_ble_eq_true rfl⟩ (hP.sub (ws' := [(a, .inr (11, OX z i1 i2 i3 i4 i5 i6 i7 i8 i30 i43 i45 i46 i47 i48 i49 i50 i51 i58 i59 i65 i68 i69 i72 i78 i80 i81 i82 i87 i92 i96 i100 i103 i104)), ((z 0), .inl (T 0, 700, .inl g0))]) [0, 2] rfl) (hD.sub (ws' := [(a, .inr (11, OX z i1 i2 i3 i4 i5 i6 i7 i8 i30 i43 i45 i46 i47 i48 i49 i50 i51 i58 i59 i65 i68 i69 i72 i78 i80 i81 i82 i87 i92 i96 i100 i103 i104)), ((z 0), .inl (T 0, 700, .inl g0))]) [0, 2] (by decide +kernel) rfl) rfl rfl rfl hl.1 rfl (Nat.le_of_ble_eq_true rfl) dX11_isHere_8 ⟨Nat.le_of_ble_eq_true rfl, Nat.le_of_ble_eq_true rfl⟩) hP hD hS hA [0, 2] [1] rfl rfl (by decide +kernel) (by decide +kernel) (fun x28101700 u H locs hq hP hD hS => ?_)
    obtain ⟨x28101701, rfl⟩ : ∃ y, y = u := ⟨_, rfl⟩
    obtain ⟨hx28101701, hp28101702, hAlt⟩ := hq
    have hx28101701 : 0 ≤ x28101701.toInt ∧ x28101701.toInt ≤ 700 := hx28101701
    have hp28101702 : i2.toInt ≤ x28101701.toInt := hp28101702
    have hP : va_P D vwCl [(q1, .inl (T 3, 3, .inl gq1)), (a, .inr (11, OX z i1 x28101701 i3 i4 i5 i6 i7 i8 i30 i43 i45 i46 i47 i48 i49 i50 i51 i58 i59 i65 i68 i69 i72 i78 i80 i81 i82 i87 i92 i96 i100 i103 i104)), ((z 0), .inl (T 0, 700, .inl g0))] H := hP
    have hD : va_D A [(q1, .inl (T 3, 3, .inl gq1)), (a, .inr (11, OX z i1 x28101701 i3 i4 i5 i6 i7 i8 i30 i43 i45 i46 i47 i48 i49 i50 i51 i58 i59 i65 i68 i69 i72 i78 i80 i81 i82 i87 i92 i96 i100 i103 i104)), ((z 0), .inl (T 0, 700, .inl g0))] := hD
    rcases hAlt with hAlt | hAlt
    · skip
      have hp28101703 := hAlt
      have hp28101703 : x28101700.toInt = -1 ∧ i2.toInt ≤ x28101701.toInt := hp28101703
      clear hAlt
      refine W.widen (k := 0) (n := 0) (Nat.le_refl _) (Nat.le_refl _) ?_
      refine r_calli (wr := [(q1, .inl (T 3, 3, .inl gq1)), (a, .inr (11, OX z i1 x28101701 i3 i4 i5 i6 i7 i8 i30 i43 i45 i46 i47 i48 i49 i50 i51 i58 i59 i65 i68 i69 i72 i78 i80 i81 i82 i87 i92 i96 i100 i103 i104)), ((z 0), .inl (T 0, 700, .inl g0))]) (r_runS2 (As := [.int x28101700]) (rest := []) (wc := []) C0 hE hStr hS (va_free (wc := []) hD hS hA [] rfl) (h_X11_isLetter_20100005 l D T sq sv H.size x28101700) mw_928 mw_929 mw_14 mw_930 dn_1708 rfl rfl ⟨Nat.le_of_ble_eq_true rfl, Nat.le_of_ble_eq_true rfl⟩ (hP.sub (ws' := []) [] rfl) (hD.sub (ws' := []) [] (by decide +kernel) rfl) hl.1 rfl (Nat.le_of_ble_eq_true rfl) dX11_isHere_11 ⟨Nat.le_of_ble_eq_true rfl, Nat.le_of_ble_eq_true rfl⟩) hP hD hS hA [] [0, 1, 2] rfl rfl (by decide +kernel) (by decide +kernel) (fun x28101704 u H locs hq hP hD hS => ?_)
      obtain ⟨hAlt, hx28101704⟩ := hq
      have hx28101704 : 0 ≤ x28101704.toInt ∧ x28101704.toInt ≤ 1 := hx28101704
      have hP : va_P D vwCl [(q1, .inl (T 3, 3, .inl gq1)), (a, .inr (11, OX z i1 x28101701 i3 i4 i5 i6 i7 i8 i30 i43 i45 i46 i47 i48 i49 i50 i51 i58 i59 i65 i68 i69 i72 i78 i80 i81 i82 i87 i92 i96 i100 i103 i104)), ((z 0), .inl (T 0, 700, .inl g0))] H := hP
      have hD : va_D A [(q1, .inl (T 3, 3, .inl gq1)), (a, .inr (11, OX z i1 x28101701 i3 i4 i5 i6 i7 i8 i30 i43 i45 i46 i47 i48 i49 i50 i51 i58 i59 i65 i68 i69 i72 i78 i80 i81 i82 i87 i92 i96 i100 i103 i104)), ((z 0), .inl (T 0, 700, .inl g0))] := hD
      rcases hAlt with hAlt | hAlt
      · skip
        have hp28101705 := hAlt
        have hp28101705 : x28101704.toInt = 0 := hp28101705
        clear hAlt
        refine W.widen (k := 0) (n := 0) (Nat.le_refl _) (Nat.le_refl _) ?_
        refine lv_if_eq (tgt := 28) hx hb dX11_isHere_14 (by decide) (fun c28101706 => ?_) (fun hc => by have hf : x28101704.toInt ≠ 0 := ne_ti rfl (by decide) hc; omega)
        have kc28101706 : x28101704.toInt = 0 := eq_ti rfl (by decide) c28101706
        refine lv_iconst (v := 0) hx hb dX11_isHere_28 (by decide) ?_
        have hl28101707 : (0 : Int32).toInt = 0 := by decide
        have hl28101708 : (0 : Int32).toInt = 0 := by decide
        exact r_zret (x28101701 : Int32) C0 hr (by decide +kernel) hlocks hS (Nat.le_refl _) (Nat.le_refl _) dX11_isHere_29 ⟨⟨by omega, by omega⟩, (by omega), (Or.inl (by omega)), ⟨by decide, by decide⟩⟩ (hP.sub (ws' := [(a, .inr (11, OX z i1 x28101701 i3 i4 i5 i6 i7 i8 i30 i43 i45 i46 i47 i48 i49 i50 i51 i58 i59 i65 i68 i69 i72 i78 i80 i81 i82 i87 i92 i96 i100 i103 i104)), (q1, .inl (T 3, 3, .inl gq1)), ((z 0), .inl (T 0, 700, .inl g0))]) [1, 0, 2] rfl) (hD.sub (ws' := [(a, .inr (11, OX z i1 x28101701 i3 i4 i5 i6 i7 i8 i30 i43 i45 i46 i47 i48 i49 i50 i51 i58 i59 i65 i68 i69 i72 i78 i80 i81 i82 i87 i92 i96 i100 i103 i104)), (q1, .inl (T 3, 3, .inl gq1)), ((z 0), .inl (T 0, 700, .inl g0))]) [1, 0, 2] (by decide +kernel) rfl)
      · skip
        have hp28101709 := hAlt
        have hp28101709 : x28101704.toInt = 1 ∧ 97 ≤ x28101700.toInt ∧ x28101700.toInt ≤ 122 := hp28101709
        clear hAlt
        refine W.widen (k := 0) (n := 0) (Nat.le_refl _) (Nat.le_refl _) ?_
        refine lv_if_eq (tgt := 28) hx hb dX11_isHere_14 (by decide) (fun hc => by have hf : x28101704.toInt = 0 := eq_ti rfl (by decide) hc; omega) (fun c28101710 => ?_)
        have kc28101710 : x28101704.toInt ≠ 0 := ne_ti rfl (by decide) c28101710
        refine lv_aload_n hx hb dX11_isHere_17 rfl (lv_at hl 0 rfl) ?_
        refine r_get (v := .int x28101701) C0 hE ffX11_2 mw_792 hP 1 rfl ox_2 dX11_isHere_18 ?_
        refine lv_aload_n hx hb dX11_isHere_21 rfl (lv_at hl 0 rfl) ?_
        refine r_get (v := .int i4) C0 hE ffX11_4 mw_794 hP 1 rfl ox_4 dX11_isHere_22 ?_
        refine lv_icmp_ne (tgt := 30) hx hb dX11_isHere_25 (by decide) (fun c28101711 => ?_) (fun c28101711 => ?_)
        · skip
          have kc28101711 : x28101701.toInt ≠ i4.toInt := ne_ti rfl rfl c28101711
          refine lv_aload_n hx hb dX11_isHere_30 rfl (lv_at hl 0 rfl) ?_
          refine r_get (v := .int x28101701) C0 hE ffX11_2 mw_792 hP 1 rfl ox_2 dX11_isHere_31 ?_
          refine lv_istore_n (lv' := [(2, .int x28101701), (0, .ref a), (1, .ref q1)]) hx hb dX11_isHere_34 rfl hl (by decide) rfl (fun ls hl => ?_)
          have L28101729 : ∀ (n : Nat) (x28101720 : Int32) (H : Heap) (locs : List Loc) (ls : Array Slot), (0 ≤ x28101720.toInt ∧ x28101720.toInt ≤ 700) → (x28101701.toInt ≤ x28101720.toInt ∧ x28101720.toInt ≤ i3.toInt) → (701 - x28101720.toInt).toNat < n → va_P D vwCl [(q1, .inl (T 3, 3, .inl gq1)), (a, .inr (11, OX z i1 x28101701 i3 i4 i5 i6 i7 i8 i30 i43 i45 i46 i47 i48 i49 i50 i51 i58 i59 i65 i68 i69 i72 i78 i80 i81 i82 i87 i92 i96 i100 i103 i104)), ((z 0), .inl (T 0, 700, .inl g0))] H → va_D A [(q1, .inl (T 3, 3, .inl gq1)), (a, .inr (11, OX z i1 x28101701 i3 i4 i5 i6 i7 i8 i30 i43 i45 i46 i47 i48 i49 i50 i51 i58 i59 i65 i68 i69 i72 i78 i80 i81 i82 i87 i92 i96 i100 i103 i104)), ((z 0), .inl (T 0, 700, .inl g0))] → va_S A s.heap H locs → lv_has ls 4 [(2, .int x28101720), (0, .ref a), (1, .ref q1)] → W p l e { frames := 1, cells := 0, slots := 0, locals := 20 } s m args below meth c H locs 0 0 (MQ below ((Qi (S := Int32) (fun (r : Int32) (ui2 : Int32) => (0 ≤ ui2.toInt ∧ ui2.toInt ≤ 700) ∧ (i2.toInt ≤ ui2.toInt) ∧ (((r.toInt = 0 ∧ i2.toInt ≤ ui2.toInt)) ∨ ((r.toInt = 1 ∧ i2.toInt ≤ ui2.toInt ∧ ui2.toInt + 3 ≤ i3.toInt ∧ i5.toInt = 0))) ∧ (0 ≤ r.toInt ∧ r.toInt ≤ 1)) (fun (ui2 : Int32) => [(a, .inr (11, OX z i1 ui2 i3 i4 i5 i6 i7 i8 i30 i43 i45 i46 i47 i48 i49 i50 i51 i58 i59 i65 i68 i69 i72 i78 i80 i81 i82 i87 i92 i96 i100 i103 i104)), (q1, .inl (T 3, 3, .inl gq1)), ((z 0), .inl (T 0, 700, .inl g0))]) D) A) args s 0 0 A) (F0 m 35 ls []) := by
            intro n
            induction n with
            | zero =>
              intro x28101720 H locs ls hx28101720 hr28101730 hms hP hD hS hl
              exact absurd hms (Nat.not_lt_zero _)
            | succ n ih28101731 =>
              intro x28101720 H locs ls hx28101720 hr28101730 hms hP hD hS hl
              refine lv_iload_n hx hb dX11_isHere_35 rfl (lv_at hl 0 rfl) ?_
              refine lv_aload_n hx hb dX11_isHere_36 rfl (lv_at hl 1 rfl) ?_
              refine r_get (v := .int i3) C0 hE ffX11_3 mw_793 hP 1 rfl ox_3 dX11_isHere_37 ?_
              refine lv_icmp_ge (tgt := 61) hx hb dX11_isHere_40 (by decide) (fun c28101732 => ?_) (fun c28101732 => ?_)
              · skip
                have kc28101732 : i3.toInt ≤ x28101720.toInt := le_ti rfl rfl c28101732
                refine lv_iload_n hx hb dX11_isHere_61 rfl (lv_at hl 0 rfl) ?_
                refine lv_aload_n hx hb dX11_isHere_62 rfl (lv_at hl 1 rfl) ?_
                refine r_get (v := .int x28101701) C0 hE ffX11_2 mw_792 hP 1 rfl ox_2 dX11_isHere_63 ?_
                refine lv_isub hx hb dX11_isHere_66 ?_
                refine lv_topi (fun x28101733 ex28101733 => ?_)
                have hx28101733 : x28101733.toInt = x28101720.toInt - x28101701.toInt := ti_sub ex28101733 rfl rfl (by omega) (by omega)
                refine lv_aload_n hx hb dX11_isHere_67 rfl (lv_at hl 2 rfl) ?_
                refine va_alen (v := 3) hx hb hK hP 0 3 rfl rfl rfl dX11_isHere_68 ?_
                refine lv_icmp_eq (tgt := 74) hx hb dX11_isHere_69 (by decide) (fun c28101734 => ?_) (fun c28101734 => ?_)
                · skip
                  have kc28101734 : x28101733.toInt = 3 := eq_ti rfl (by decide) c28101734
                  refine lv_iconst (v := 0) hx hb dX11_isHere_74 (by decide) ?_
                  refine lv_istore_n (lv' := [(3, .int 0), (2, .int x28101720), (0, .ref a), (1, .ref q1)]) hx hb dX11_isHere_75 rfl hl (by decide) rfl (fun ls hl => ?_)
                  have L28101760 : ∀ (n : Nat) (x28101753 : Int32) (H : Heap) (locs : List Loc) (ls : Array Slot), (0 ≤ x28101753.toInt ∧ x28101753.toInt ≤ 3) → (4 - x28101753.toInt).toNat < n → va_P D vwCl [(q1, .inl (T 3, 3, .inl gq1)), (a, .inr (11, OX z i1 x28101701 i3 i4 i5 i6 i7 i8 i30 i43 i45 i46 i47 i48 i49 i50 i51 i58 i59 i65 i68 i69 i72 i78 i80 i81 i82 i87 i92 i96 i100 i103 i104)), ((z 0), .inl (T 0, 700, .inl g0))] H → va_D A [(q1, .inl (T 3, 3, .inl gq1)), (a, .inr (11, OX z i1 x28101701 i3 i4 i5 i6 i7 i8 i30 i43 i45 i46 i47 i48 i49 i50 i51 i58 i59 i65 i68 i69 i72 i78 i80 i81 i82 i87 i92 i96 i100 i103 i104)), ((z 0), .inl (T 0, 700, .inl g0))] → va_S A s.heap H locs → lv_has ls 4 [(3, .int x28101753), (2, .int x28101720), (0, .ref a), (1, .ref q1)] → W p l e { frames := 1, cells := 0, slots := 0, locals := 20 } s m args below meth c H locs 0 0 (MQ below ((Qi (S := Int32) (fun (r : Int32) (ui2 : Int32) => (0 ≤ ui2.toInt ∧ ui2.toInt ≤ 700) ∧ (i2.toInt ≤ ui2.toInt) ∧ (((r.toInt = 0 ∧ i2.toInt ≤ ui2.toInt)) ∨ ((r.toInt = 1 ∧ i2.toInt ≤ ui2.toInt ∧ ui2.toInt + 3 ≤ i3.toInt ∧ i5.toInt = 0))) ∧ (0 ≤ r.toInt ∧ r.toInt ≤ 1)) (fun (ui2 : Int32) => [(a, .inr (11, OX z i1 ui2 i3 i4 i5 i6 i7 i8 i30 i43 i45 i46 i47 i48 i49 i50 i51 i58 i59 i65 i68 i69 i72 i78 i80 i81 i82 i87 i92 i96 i100 i103 i104)), (q1, .inl (T 3, 3, .inl gq1)), ((z 0), .inl (T 0, 700, .inl g0))]) D) A) args s 0 0 A) (F0 m 76 ls []) := by
                    intro n
                    induction n with
                    | zero =>
                      intro x28101753 H locs ls hx28101753 hms hP hD hS hl
                      exact absurd hms (Nat.not_lt_zero _)
                    | succ n ih28101761 =>
                      intro x28101753 H locs ls hx28101753 hms hP hD hS hl
                      refine lv_iload_n hx hb dX11_isHere_76 rfl (lv_at hl 0 rfl) ?_
                      refine lv_aload_n hx hb dX11_isHere_77 rfl (lv_at hl 3 rfl) ?_
                      refine va_alen (v := 3) hx hb hK hP 0 3 rfl rfl rfl dX11_isHere_78 ?_
                      refine lv_icmp_ge (tgt := 107) hx hb dX11_isHere_79 (by decide) (fun c28101762 => ?_) (fun c28101762 => ?_)
                      · skip
                        have kc28101762 : 3 ≤ x28101753.toInt := le_ti (by decide) rfl c28101762
                        refine lv_iconst (v := 1) hx hb dX11_isHere_107 (by decide) ?_
                        have hl28101763 : (1 : Int32).toInt = 1 := by decide
                        have hl28101764 : (1 : Int32).toInt = 1 := by decide
                        exact r_zret (x28101701 : Int32) C0 hr (by decide +kernel) hlocks hS (Nat.le_refl _) (Nat.le_refl _) dX11_isHere_108 ⟨⟨by omega, by omega⟩, (by omega), (Or.inr (by omega)), ⟨by decide, by decide⟩⟩ (hP.sub (ws' := [(a, .inr (11, OX z i1 x28101701 i3 i4 i5 i6 i7 i8 i30 i43 i45 i46 i47 i48 i49 i50 i51 i58 i59 i65 i68 i69 i72 i78 i80 i81 i82 i87 i92 i96 i100 i103 i104)), (q1, .inl (T 3, 3, .inl gq1)), ((z 0), .inl (T 0, 700, .inl g0))]) [1, 0, 2] rfl) (hD.sub (ws' := [(a, .inr (11, OX z i1 x28101701 i3 i4 i5 i6 i7 i8 i30 i43 i45 i46 i47 i48 i49 i50 i51 i58 i59 i65 i68 i69 i72 i78 i80 i81 i82 i87 i92 i96 i100 i103 i104)), (q1, .inl (T 3, 3, .inl gq1)), ((z 0), .inl (T 0, 700, .inl g0))]) [1, 0, 2] (by decide +kernel) rfl)
                      · skip
                        have kc28101762 : x28101753.toInt < 3 := nle_ti (by decide) rfl c28101762
                        refine lv_aload_n hx hb dX11_isHere_82 rfl (lv_at hl 2 rfl) ?_
                        refine r_get (v := .ref (z 0)) C0 hE ffX11_0 mw_790 hP 1 rfl ox_0 dX11_isHere_83 ?_
                        refine lv_aload_n hx hb dX11_isHere_86 rfl (lv_at hl 2 rfl) ?_
                        refine r_get (v := .int x28101701) C0 hE ffX11_2 mw_792 hP 1 rfl ox_2 dX11_isHere_87 ?_
                        refine lv_iload_n hx hb dX11_isHere_90 rfl (lv_at hl 0 rfl) ?_
                        refine lv_iadd hx hb dX11_isHere_91 ?_
                        refine lv_topi (fun x28101765 ex28101765 => ?_)
                        have hx28101765 : x28101765.toInt = x28101701.toInt + x28101753.toInt := ti_add ex28101765 rfl rfl (by omega) (by omega)
                        refine va_iald hx hb hK hP 2 0 rfl rfl (in_ti rfl (by omega) (by omega)) dX11_isHere_92 ?_
                        refine lv_topi (fun x28101766 ex28101766 => ?_)
                        have tx28101766 : x28101766.toInt = (g0 (Int32.toNatClampNeg x28101765)).toInt := by rw [ex28101766]
                        refine lv_aload_n hx hb dX11_isHere_93 rfl (lv_at hl 3 rfl) ?_
                        refine lv_iload_n hx hb dX11_isHere_94 rfl (lv_at hl 0 rfl) ?_
                        refine va_cald hx hb hK hP 0 3 rfl rfl (in_ti rfl (by omega) (by omega)) dX11_isHere_95 ?_
                        refine lv_topi (fun x28101767 ex28101767 => ?_)
                        refine lv_icmp_eq (tgt := 101) hx hb dX11_isHere_96 (by decide) (fun c28101768 => ?_) (fun c28101768 => ?_)
                        · skip
                          have kc28101768 : x28101766.toInt = x28101767.toInt := eq_ti rfl rfl c28101768
                          obtain ⟨x28101769, ex28101769⟩ : ∃ y : Int32, y = x28101753 + 1 := ⟨_, rfl⟩
                          have hx28101769 : x28101769.toInt = x28101753.toInt + 1 := ti_add ex28101769 rfl (by decide) (by omega) (by omega)
                          refine lv_iinc (v := x28101769) (lv' := [(3, .int x28101769), (2, .int x28101720), (0, .ref a), (1, .ref q1)]) hx hb dX11_isHere_101 hl (k := 0) rfl (by rw [ex28101769]; rfl) (by decide) rfl (fun ls hl => ?_)
                          refine lv_goto (tgt := 76) hx hb dX11_isHere_104 (by decide) ?_
                          exact ih28101761 x28101769 _ _ ls ⟨by omega, by omega⟩ (by omega) (hP.sub (ws' := [(q1, .inl (T 3, 3, .inl gq1)), (a, .inr (11, OX z i1 x28101701 i3 i4 i5 i6 i7 i8 i30 i43 i45 i46 i47 i48 i49 i50 i51 i58 i59 i65 i68 i69 i72 i78 i80 i81 i82 i87 i92 i96 i100 i103 i104)), ((z 0), .inl (T 0, 700, .inl g0))]) [0, 1, 2] rfl) (hD.sub (ws' := [(q1, .inl (T 3, 3, .inl gq1)), (a, .inr (11, OX z i1 x28101701 i3 i4 i5 i6 i7 i8 i30 i43 i45 i46 i47 i48 i49 i50 i51 i58 i59 i65 i68 i69 i72 i78 i80 i81 i82 i87 i92 i96 i100 i103 i104)), ((z 0), .inl (T 0, 700, .inl g0))]) [0, 1, 2] (by decide +kernel) rfl) hS (lv_sub hl [0, 1, 2, 3] rfl)
                        · skip
                          have kc28101768 : x28101766.toInt ≠ x28101767.toInt := ne_ti rfl rfl c28101768
                          refine lv_iconst (v := 0) hx hb dX11_isHere_99 (by decide) ?_
                          have hl28101770 : (0 : Int32).toInt = 0 := by decide
                          have hl28101771 : (0 : Int32).toInt = 0 := by decide
                          exact r_zret (x28101701 : Int32) C0 hr (by decide +kernel) hlocks hS (Nat.le_refl _) (Nat.le_refl _) dX11_isHere_100 ⟨⟨by omega, by omega⟩, (by omega), (Or.inl (by omega)), ⟨by decide, by decide⟩⟩ (hP.sub (ws' := [(a, .inr (11, OX z i1 x28101701 i3 i4 i5 i6 i7 i8 i30 i43 i45 i46 i47 i48 i49 i50 i51 i58 i59 i65 i68 i69 i72 i78 i80 i81 i82 i87 i92 i96 i100 i103 i104)), (q1, .inl (T 3, 3, .inl gq1)), ((z 0), .inl (T 0, 700, .inl g0))]) [1, 0, 2] rfl) (hD.sub (ws' := [(a, .inr (11, OX z i1 x28101701 i3 i4 i5 i6 i7 i8 i30 i43 i45 i46 i47 i48 i49 i50 i51 i58 i59 i65 i68 i69 i72 i78 i80 i81 i82 i87 i92 i96 i100 i103 i104)), (q1, .inl (T 3, 3, .inl gq1)), ((z 0), .inl (T 0, 700, .inl g0))]) [1, 0, 2] (by decide +kernel) rfl)
                  exact L28101760 _ 0 _ _ ls ⟨by decide, by decide⟩ (Nat.lt_succ_self _) (hP.sub (ws' := [(q1, .inl (T 3, 3, .inl gq1)), (a, .inr (11, OX z i1 x28101701 i3 i4 i5 i6 i7 i8 i30 i43 i45 i46 i47 i48 i49 i50 i51 i58 i59 i65 i68 i69 i72 i78 i80 i81 i82 i87 i92 i96 i100 i103 i104)), ((z 0), .inl (T 0, 700, .inl g0))]) [0, 1, 2] rfl) (hD.sub (ws' := [(q1, .inl (T 3, 3, .inl gq1)), (a, .inr (11, OX z i1 x28101701 i3 i4 i5 i6 i7 i8 i30 i43 i45 i46 i47 i48 i49 i50 i51 i58 i59 i65 i68 i69 i72 i78 i80 i81 i82 i87 i92 i96 i100 i103 i104)), ((z 0), .inl (T 0, 700, .inl g0))]) [0, 1, 2] (by decide +kernel) rfl) hS (lv_sub hl [0, 1, 2, 3] rfl)
                · skip
                  have kc28101734 : x28101733.toInt ≠ 3 := ne_ti rfl (by decide) c28101734
                  refine lv_iconst (v := 0) hx hb dX11_isHere_72 (by decide) ?_
                  have hl28101772 : (0 : Int32).toInt = 0 := by decide
                  have hl28101773 : (0 : Int32).toInt = 0 := by decide
                  exact r_zret (x28101701 : Int32) C0 hr (by decide +kernel) hlocks hS (Nat.le_refl _) (Nat.le_refl _) dX11_isHere_73 ⟨⟨by omega, by omega⟩, (by omega), (Or.inl (by omega)), ⟨by decide, by decide⟩⟩ (hP.sub (ws' := [(a, .inr (11, OX z i1 x28101701 i3 i4 i5 i6 i7 i8 i30 i43 i45 i46 i47 i48 i49 i50 i51 i58 i59 i65 i68 i69 i72 i78 i80 i81 i82 i87 i92 i96 i100 i103 i104)), (q1, .inl (T 3, 3, .inl gq1)), ((z 0), .inl (T 0, 700, .inl g0))]) [1, 0, 2] rfl) (hD.sub (ws' := [(a, .inr (11, OX z i1 x28101701 i3 i4 i5 i6 i7 i8 i30 i43 i45 i46 i47 i48 i49 i50 i51 i58 i59 i65 i68 i69 i72 i78 i80 i81 i82 i87 i92 i96 i100 i103 i104)), (q1, .inl (T 3, 3, .inl gq1)), ((z 0), .inl (T 0, 700, .inl g0))]) [1, 0, 2] (by decide +kernel) rfl)
              · skip
                have kc28101732 : x28101720.toInt < i3.toInt := nle_ti rfl rfl c28101732
                refine lv_aload_n hx hb dX11_isHere_43 rfl (lv_at hl 1 rfl) ?_
                refine r_get (v := .ref (z 0)) C0 hE ffX11_0 mw_790 hP 1 rfl ox_0 dX11_isHere_44 ?_
                refine lv_iload_n hx hb dX11_isHere_47 rfl (lv_at hl 0 rfl) ?_
                refine va_iald hx hb hK hP 2 0 rfl rfl (in_ti rfl (by omega) (by omega)) dX11_isHere_48 ?_
                refine lv_topi (fun x28101774 ex28101774 => ?_)
                have tx28101774 : x28101774.toInt = (g0 (Int32.toNatClampNeg x28101720)).toInt := by rw [ex28101774]
                refine r_calli (wr := [(q1, .inl (T 3, 3, .inl gq1)), (a, .inr (11, OX z i1 x28101701 i3 i4 i5 i6 i7 i8 i30 i43 i45 i46 i47 i48 i49 i50 i51 i58 i59 i65 i68 i69 i72 i78 i80 i81 i82 i87 i92 i96 i100 i103 i104)), ((z 0), .inl (T 0, 700, .inl g0))]) (r_runS2 (As := [.int x28101774]) (rest := []) (wc := []) C0 hE hStr hS (va_free (wc := []) hD hS hA [] rfl) (h_X11_isLetter_20100005 l D T sq sv H.size x28101774) mw_928 mw_929 mw_14 mw_930 dn_1708 rfl rfl ⟨Nat.le_of_ble_eq_true rfl, Nat.le_of_ble_eq_true rfl⟩ (hP.sub (ws' := []) [] rfl) (hD.sub (ws' := []) [] (by decide +kernel) rfl) hl.1 rfl (Nat.le_of_ble_eq_true rfl) dX11_isHere_49 ⟨Nat.le_of_ble_eq_true rfl, Nat.le_of_ble_eq_true rfl⟩) hP hD hS hA [] [0, 1, 2] rfl rfl (by decide +kernel) (by decide +kernel) (fun x28101775 u H locs hq hP hD hS => ?_)
                obtain ⟨hAlt, hx28101775⟩ := hq
                have hx28101775 : 0 ≤ x28101775.toInt ∧ x28101775.toInt ≤ 1 := hx28101775
                have hP : va_P D vwCl [(q1, .inl (T 3, 3, .inl gq1)), (a, .inr (11, OX z i1 x28101701 i3 i4 i5 i6 i7 i8 i30 i43 i45 i46 i47 i48 i49 i50 i51 i58 i59 i65 i68 i69 i72 i78 i80 i81 i82 i87 i92 i96 i100 i103 i104)), ((z 0), .inl (T 0, 700, .inl g0))] H := hP
                have hD : va_D A [(q1, .inl (T 3, 3, .inl gq1)), (a, .inr (11, OX z i1 x28101701 i3 i4 i5 i6 i7 i8 i30 i43 i45 i46 i47 i48 i49 i50 i51 i58 i59 i65 i68 i69 i72 i78 i80 i81 i82 i87 i92 i96 i100 i103 i104)), ((z 0), .inl (T 0, 700, .inl g0))] := hD
                rcases hAlt with hAlt | hAlt
                · skip
                  have hp28101776 := hAlt
                  have hp28101776 : x28101775.toInt = 0 := hp28101776
                  clear hAlt
                  refine W.widen (k := 0) (n := 0) (Nat.le_refl _) (Nat.le_refl _) ?_
                  refine lv_if_eq (tgt := 61) hx hb dX11_isHere_52 (by decide) (fun c28101777 => ?_) (fun hc => by have hf : x28101775.toInt ≠ 0 := ne_ti rfl (by decide) hc; omega)
                  have kc28101777 : x28101775.toInt = 0 := eq_ti rfl (by decide) c28101777
                  refine lv_iload_n hx hb dX11_isHere_61 rfl (lv_at hl 0 rfl) ?_
                  refine lv_aload_n hx hb dX11_isHere_62 rfl (lv_at hl 1 rfl) ?_
                  refine r_get (v := .int x28101701) C0 hE ffX11_2 mw_792 hP 1 rfl ox_2 dX11_isHere_63 ?_
                  refine lv_isub hx hb dX11_isHere_66 ?_
                  refine lv_topi (fun x28101778 ex28101778 => ?_)
                  have hx28101778 : x28101778.toInt = x28101720.toInt - x28101701.toInt := ti_sub ex28101778 rfl rfl (by omega) (by omega)
                  refine lv_aload_n hx hb dX11_isHere_67 rfl (lv_at hl 2 rfl) ?_
                  refine va_alen (v := 3) hx hb hK hP 0 3 rfl rfl rfl dX11_isHere_68 ?_
                  refine lv_icmp_eq (tgt := 74) hx hb dX11_isHere_69 (by decide) (fun c28101779 => ?_) (fun c28101779 => ?_)
                  · skip
                    have kc28101779 : x28101778.toInt = 3 := eq_ti rfl (by decide) c28101779
                    refine lv_iconst (v := 0) hx hb dX11_isHere_74 (by decide) ?_
                    refine lv_istore_n (lv' := [(3, .int 0), (2, .int x28101720), (0, .ref a), (1, .ref q1)]) hx hb dX11_isHere_75 rfl hl (by decide) rfl (fun ls hl => ?_)
                    have L28101805 : ∀ (n : Nat) (x28101798 : Int32) (H : Heap) (locs : List Loc) (ls : Array Slot), (0 ≤ x28101798.toInt ∧ x28101798.toInt ≤ 3) → (4 - x28101798.toInt).toNat < n → va_P D vwCl [(q1, .inl (T 3, 3, .inl gq1)), (a, .inr (11, OX z i1 x28101701 i3 i4 i5 i6 i7 i8 i30 i43 i45 i46 i47 i48 i49 i50 i51 i58 i59 i65 i68 i69 i72 i78 i80 i81 i82 i87 i92 i96 i100 i103 i104)), ((z 0), .inl (T 0, 700, .inl g0))] H → va_D A [(q1, .inl (T 3, 3, .inl gq1)), (a, .inr (11, OX z i1 x28101701 i3 i4 i5 i6 i7 i8 i30 i43 i45 i46 i47 i48 i49 i50 i51 i58 i59 i65 i68 i69 i72 i78 i80 i81 i82 i87 i92 i96 i100 i103 i104)), ((z 0), .inl (T 0, 700, .inl g0))] → va_S A s.heap H locs → lv_has ls 4 [(3, .int x28101798), (2, .int x28101720), (0, .ref a), (1, .ref q1)] → W p l e { frames := 1, cells := 0, slots := 0, locals := 20 } s m args below meth c H locs 0 0 (MQ below ((Qi (S := Int32) (fun (r : Int32) (ui2 : Int32) => (0 ≤ ui2.toInt ∧ ui2.toInt ≤ 700) ∧ (i2.toInt ≤ ui2.toInt) ∧ (((r.toInt = 0 ∧ i2.toInt ≤ ui2.toInt)) ∨ ((r.toInt = 1 ∧ i2.toInt ≤ ui2.toInt ∧ ui2.toInt + 3 ≤ i3.toInt ∧ i5.toInt = 0))) ∧ (0 ≤ r.toInt ∧ r.toInt ≤ 1)) (fun (ui2 : Int32) => [(a, .inr (11, OX z i1 ui2 i3 i4 i5 i6 i7 i8 i30 i43 i45 i46 i47 i48 i49 i50 i51 i58 i59 i65 i68 i69 i72 i78 i80 i81 i82 i87 i92 i96 i100 i103 i104)), (q1, .inl (T 3, 3, .inl gq1)), ((z 0), .inl (T 0, 700, .inl g0))]) D) A) args s 0 0 A) (F0 m 76 ls []) := by
                      intro n
                      induction n with
                      | zero =>
                        intro x28101798 H locs ls hx28101798 hms hP hD hS hl
                        exact absurd hms (Nat.not_lt_zero _)
                      | succ n ih28101806 =>
                        intro x28101798 H locs ls hx28101798 hms hP hD hS hl
                        refine lv_iload_n hx hb dX11_isHere_76 rfl (lv_at hl 0 rfl) ?_
                        refine lv_aload_n hx hb dX11_isHere_77 rfl (lv_at hl 3 rfl) ?_
                        refine va_alen (v := 3) hx hb hK hP 0 3 rfl rfl rfl dX11_isHere_78 ?_
                        refine lv_icmp_ge (tgt := 107) hx hb dX11_isHere_79 (by decide) (fun c28101807 => ?_) (fun c28101807 => ?_)
                        · skip
                          have kc28101807 : 3 ≤ x28101798.toInt := le_ti (by decide) rfl c28101807
                          refine lv_iconst (v := 1) hx hb dX11_isHere_107 (by decide) ?_
                          have hl28101808 : (1 : Int32).toInt = 1 := by decide
                          have hl28101809 : (1 : Int32).toInt = 1 := by decide
                          exact r_zret (x28101701 : Int32) C0 hr (by decide +kernel) hlocks hS (Nat.le_refl _) (Nat.le_refl _) dX11_isHere_108 ⟨⟨by omega, by omega⟩, (by omega), (Or.inr (by omega)), ⟨by decide, by decide⟩⟩ (hP.sub (ws' := [(a, .inr (11, OX z i1 x28101701 i3 i4 i5 i6 i7 i8 i30 i43 i45 i46 i47 i48 i49 i50 i51 i58 i59 i65 i68 i69 i72 i78 i80 i81 i82 i87 i92 i96 i100 i103 i104)), (q1, .inl (T 3, 3, .inl gq1)), ((z 0), .inl (T 0, 700, .inl g0))]) [1, 0, 2] rfl) (hD.sub (ws' := [(a, .inr (11, OX z i1 x28101701 i3 i4 i5 i6 i7 i8 i30 i43 i45 i46 i47 i48 i49 i50 i51 i58 i59 i65 i68 i69 i72 i78 i80 i81 i82 i87 i92 i96 i100 i103 i104)), (q1, .inl (T 3, 3, .inl gq1)), ((z 0), .inl (T 0, 700, .inl g0))]) [1, 0, 2] (by decide +kernel) rfl)
                        · skip
                          have kc28101807 : x28101798.toInt < 3 := nle_ti (by decide) rfl c28101807
                          refine lv_aload_n hx hb dX11_isHere_82 rfl (lv_at hl 2 rfl) ?_
                          refine r_get (v := .ref (z 0)) C0 hE ffX11_0 mw_790 hP 1 rfl ox_0 dX11_isHere_83 ?_
                          refine lv_aload_n hx hb dX11_isHere_86 rfl (lv_at hl 2 rfl) ?_
                          refine r_get (v := .int x28101701) C0 hE ffX11_2 mw_792 hP 1 rfl ox_2 dX11_isHere_87 ?_
                          refine lv_iload_n hx hb dX11_isHere_90 rfl (lv_at hl 0 rfl) ?_
                          refine lv_iadd hx hb dX11_isHere_91 ?_
                          refine lv_topi (fun x28101810 ex28101810 => ?_)
                          have hx28101810 : x28101810.toInt = x28101701.toInt + x28101798.toInt := ti_add ex28101810 rfl rfl (by omega) (by omega)
                          refine va_iald hx hb hK hP 2 0 rfl rfl (in_ti rfl (by omega) (by omega)) dX11_isHere_92 ?_
                          refine lv_topi (fun x28101811 ex28101811 => ?_)
                          have tx28101811 : x28101811.toInt = (g0 (Int32.toNatClampNeg x28101810)).toInt := by rw [ex28101811]
                          refine lv_aload_n hx hb dX11_isHere_93 rfl (lv_at hl 3 rfl) ?_
                          refine lv_iload_n hx hb dX11_isHere_94 rfl (lv_at hl 0 rfl) ?_
                          refine va_cald hx hb hK hP 0 3 rfl rfl (in_ti rfl (by omega) (by omega)) dX11_isHere_95 ?_
                          refine lv_topi (fun x28101812 ex28101812 => ?_)
                          refine lv_icmp_eq (tgt := 101) hx hb dX11_isHere_96 (by decide) (fun c28101813 => ?_) (fun c28101813 => ?_)
                          · skip
                            have kc28101813 : x28101811.toInt = x28101812.toInt := eq_ti rfl rfl c28101813
                            obtain ⟨x28101814, ex28101814⟩ : ∃ y : Int32, y = x28101798 + 1 := ⟨_, rfl⟩
                            have hx28101814 : x28101814.toInt = x28101798.toInt + 1 := ti_add ex28101814 rfl (by decide) (by omega) (by omega)
                            refine lv_iinc (v := x28101814) (lv' := [(3, .int x28101814), (2, .int x28101720), (0, .ref a), (1, .ref q1)]) hx hb dX11_isHere_101 hl (k := 0) rfl (by rw [ex28101814]; rfl) (by decide) rfl (fun ls hl => ?_)
                            refine lv_goto (tgt := 76) hx hb dX11_isHere_104 (by decide) ?_
                            exact ih28101806 x28101814 _ _ ls ⟨by omega, by omega⟩ (by omega) (hP.sub (ws' := [(q1, .inl (T 3, 3, .inl gq1)), (a, .inr (11, OX z i1 x28101701 i3 i4 i5 i6 i7 i8 i30 i43 i45 i46 i47 i48 i49 i50 i51 i58 i59 i65 i68 i69 i72 i78 i80 i81 i82 i87 i92 i96 i100 i103 i104)), ((z 0), .inl (T 0, 700, .inl g0))]) [0, 1, 2] rfl) (hD.sub (ws' := [(q1, .inl (T 3, 3, .inl gq1)), (a, .inr (11, OX z i1 x28101701 i3 i4 i5 i6 i7 i8 i30 i43 i45 i46 i47 i48 i49 i50 i51 i58 i59 i65 i68 i69 i72 i78 i80 i81 i82 i87 i92 i96 i100 i103 i104)), ((z 0), .inl (T 0, 700, .inl g0))]) [0, 1, 2] (by decide +kernel) rfl) hS (lv_sub hl [0, 1, 2, 3] rfl)
                          · skip
                            have kc28101813 : x28101811.toInt ≠ x28101812.toInt := ne_ti rfl rfl c28101813
                            refine lv_iconst (v := 0) hx hb dX11_isHere_99 (by decide) ?_
                            have hl28101815 : (0 : Int32).toInt = 0 := by decide
                            have hl28101816 : (0 : Int32).toInt = 0 := by decide
                            exact r_zret (x28101701 : Int32) C0 hr (by decide +kernel) hlocks hS (Nat.le_refl _) (Nat.le_refl _) dX11_isHere_100 ⟨⟨by omega, by omega⟩, (by omega), (Or.inl (by omega)), ⟨by decide, by decide⟩⟩ (hP.sub (ws' := [(a, .inr (11, OX z i1 x28101701 i3 i4 i5 i6 i7 i8 i30 i43 i45 i46 i47 i48 i49 i50 i51 i58 i59 i65 i68 i69 i72 i78 i80 i81 i82 i87 i92 i96 i100 i103 i104)), (q1, .inl (T 3, 3, .inl gq1)), ((z 0), .inl (T 0, 700, .inl g0))]) [1, 0, 2] rfl) (hD.sub (ws' := [(a, .inr (11, OX z i1 x28101701 i3 i4 i5 i6 i7 i8 i30 i43 i45 i46 i47 i48 i49 i50 i51 i58 i59 i65 i68 i69 i72 i78 i80 i81 i82 i87 i92 i96 i100 i103 i104)), (q1, .inl (T 3, 3, .inl gq1)), ((z 0), .inl (T 0, 700, .inl g0))]) [1, 0, 2] (by decide +kernel) rfl)
                    exact L28101805 _ 0 _ _ ls ⟨by decide, by decide⟩ (Nat.lt_succ_self _) (hP.sub (ws' := [(q1, .inl (T 3, 3, .inl gq1)), (a, .inr (11, OX z i1 x28101701 i3 i4 i5 i6 i7 i8 i30 i43 i45 i46 i47 i48 i49 i50 i51 i58 i59 i65 i68 i69 i72 i78 i80 i81 i82 i87 i92 i96 i100 i103 i104)), ((z 0), .inl (T 0, 700, .inl g0))]) [0, 1, 2] rfl) (hD.sub (ws' := [(q1, .inl (T 3, 3, .inl gq1)), (a, .inr (11, OX z i1 x28101701 i3 i4 i5 i6 i7 i8 i30 i43 i45 i46 i47 i48 i49 i50 i51 i58 i59 i65 i68 i69 i72 i78 i80 i81 i82 i87 i92 i96 i100 i103 i104)), ((z 0), .inl (T 0, 700, .inl g0))]) [0, 1, 2] (by decide +kernel) rfl) hS (lv_sub hl [0, 1, 2, 3] rfl)
                  · skip
                    have kc28101779 : x28101778.toInt ≠ 3 := ne_ti rfl (by decide) c28101779
                    refine lv_iconst (v := 0) hx hb dX11_isHere_72 (by decide) ?_
                    have hl28101817 : (0 : Int32).toInt = 0 := by decide
                    have hl28101818 : (0 : Int32).toInt = 0 := by decide
                    exact r_zret (x28101701 : Int32) C0 hr (by decide +kernel) hlocks hS (Nat.le_refl _) (Nat.le_refl _) dX11_isHere_73 ⟨⟨by omega, by omega⟩, (by omega), (Or.inl (by omega)), ⟨by decide, by decide⟩⟩ (hP.sub (ws' := [(a, .inr (11, OX z i1 x28101701 i3 i4 i5 i6 i7 i8 i30 i43 i45 i46 i47 i48 i49 i50 i51 i58 i59 i65 i68 i69 i72 i78 i80 i81 i82 i87 i92 i96 i100 i103 i104)), (q1, .inl (T 3, 3, .inl gq1)), ((z 0), .inl (T 0, 700, .inl g0))]) [1, 0, 2] rfl) (hD.sub (ws' := [(a, .inr (11, OX z i1 x28101701 i3 i4 i5 i6 i7 i8 i30 i43 i45 i46 i47 i48 i49 i50 i51 i58 i59 i65 i68 i69 i72 i78 i80 i81 i82 i87 i92 i96 i100 i103 i104)), (q1, .inl (T 3, 3, .inl gq1)), ((z 0), .inl (T 0, 700, .inl g0))]) [1, 0, 2] (by decide +kernel) rfl)
                · skip
                  have hp28101819 := hAlt
                  have hp28101819 : x28101775.toInt = 1 ∧ 97 ≤ x28101774.toInt ∧ x28101774.toInt ≤ 122 := hp28101819
                  clear hAlt
                  refine W.widen (k := 0) (n := 0) (Nat.le_refl _) (Nat.le_refl _) ?_
                  refine lv_if_eq (tgt := 61) hx hb dX11_isHere_52 (by decide) (fun hc => by have hf : x28101775.toInt = 0 := eq_ti rfl (by decide) hc; omega) (fun c28101820 => ?_)
                  have kc28101820 : x28101775.toInt ≠ 0 := ne_ti rfl (by decide) c28101820
                  obtain ⟨x28101821, ex28101821⟩ : ∃ y : Int32, y = x28101720 + 1 := ⟨_, rfl⟩
                  have hx28101821 : x28101821.toInt = x28101720.toInt + 1 := ti_add ex28101821 rfl (by decide) (by omega) (by omega)
                  refine lv_iinc (v := x28101821) (lv' := [(2, .int x28101821), (0, .ref a), (1, .ref q1)]) hx hb dX11_isHere_55 hl (k := 0) rfl (by rw [ex28101821]; rfl) (by decide) rfl (fun ls hl => ?_)
                  refine lv_goto (tgt := 35) hx hb dX11_isHere_58 (by decide) ?_
                  exact ih28101731 x28101821 _ _ ls ⟨by omega, by omega⟩ (by omega) (by omega) (hP.sub (ws' := [(q1, .inl (T 3, 3, .inl gq1)), (a, .inr (11, OX z i1 x28101701 i3 i4 i5 i6 i7 i8 i30 i43 i45 i46 i47 i48 i49 i50 i51 i58 i59 i65 i68 i69 i72 i78 i80 i81 i82 i87 i92 i96 i100 i103 i104)), ((z 0), .inl (T 0, 700, .inl g0))]) [0, 1, 2] rfl) (hD.sub (ws' := [(q1, .inl (T 3, 3, .inl gq1)), (a, .inr (11, OX z i1 x28101701 i3 i4 i5 i6 i7 i8 i30 i43 i45 i46 i47 i48 i49 i50 i51 i58 i59 i65 i68 i69 i72 i78 i80 i81 i82 i87 i92 i96 i100 i103 i104)), ((z 0), .inl (T 0, 700, .inl g0))]) [0, 1, 2] (by decide +kernel) rfl) hS (lv_sub hl [0, 1, 2] rfl)
          exact L28101729 _ x28101701 _ _ ls ⟨by omega, by omega⟩ (by omega) (Nat.lt_succ_self _) (hP.sub (ws' := [(q1, .inl (T 3, 3, .inl gq1)), (a, .inr (11, OX z i1 x28101701 i3 i4 i5 i6 i7 i8 i30 i43 i45 i46 i47 i48 i49 i50 i51 i58 i59 i65 i68 i69 i72 i78 i80 i81 i82 i87 i92 i96 i100 i103 i104)), ((z 0), .inl (T 0, 700, .inl g0))]) [0, 1, 2] rfl) (hD.sub (ws' := [(q1, .inl (T 3, 3, .inl gq1)), (a, .inr (11, OX z i1 x28101701 i3 i4 i5 i6 i7 i8 i30 i43 i45 i46 i47 i48 i49 i50 i51 i58 i59 i65 i68 i69 i72 i78 i80 i81 i82 i87 i92 i96 i100 i103 i104)), ((z 0), .inl (T 0, 700, .inl g0))]) [0, 1, 2] (by decide +kernel) rfl) hS (lv_sub hl [0, 1, 2] rfl)
        · skip
          have kc28101711 : x28101701.toInt = i4.toInt := eq_ti rfl rfl c28101711
          refine lv_iconst (v := 0) hx hb dX11_isHere_28 (by decide) ?_
          have hl28101822 : (0 : Int32).toInt = 0 := by decide
          have hl28101823 : (0 : Int32).toInt = 0 := by decide
          exact r_zret (x28101701 : Int32) C0 hr (by decide +kernel) hlocks hS (Nat.le_refl _) (Nat.le_refl _) dX11_isHere_29 ⟨⟨by omega, by omega⟩, (by omega), (Or.inl (by omega)), ⟨by decide, by decide⟩⟩ (hP.sub (ws' := [(a, .inr (11, OX z i1 x28101701 i3 i4 i5 i6 i7 i8 i30 i43 i45 i46 i47 i48 i49 i50 i51 i58 i59 i65 i68 i69 i72 i78 i80 i81 i82 i87 i92 i96 i100 i103 i104)), (q1, .inl (T 3, 3, .inl gq1)), ((z 0), .inl (T 0, 700, .inl g0))]) [1, 0, 2] rfl) (hD.sub (ws' := [(a, .inr (11, OX z i1 x28101701 i3 i4 i5 i6 i7 i8 i30 i43 i45 i46 i47 i48 i49 i50 i51 i58 i59 i65 i68 i69 i72 i78 i80 i81 i82 i87 i92 i96 i100 i103 i104)), (q1, .inl (T 3, 3, .inl gq1)), ((z 0), .inl (T 0, 700, .inl g0))]) [1, 0, 2] (by decide +kernel) rfl)
    · skip
      have hp28101824 := hAlt
      have hp28101824 : i2.toInt ≤ x28101701.toInt ∧ x28101701.toInt < i3.toInt ∧ x28101700.toInt = (g0 (Int32.toNatClampNeg x28101701)).toInt := hp28101824
      clear hAlt
      refine W.widen (k := 0) (n := 0) (Nat.le_refl _) (Nat.le_refl _) ?_
      refine r_calli (wr := [(q1, .inl (T 3, 3, .inl gq1)), (a, .inr (11, OX z i1 x28101701 i3 i4 i5 i6 i7 i8 i30 i43 i45 i46 i47 i48 i49 i50 i51 i58 i59 i65 i68 i69 i72 i78 i80 i81 i82 i87 i92 i96 i100 i103 i104)), ((z 0), .inl (T 0, 700, .inl g0))]) (r_runS2 (As := [.int x28101700]) (rest := []) (wc := []) C0 hE hStr hS (va_free (wc := []) hD hS hA [] rfl) (h_X11_isLetter_20100005 l D T sq sv H.size x28101700) mw_928 mw_929 mw_14 mw_930 dn_1708 rfl rfl ⟨Nat.le_of_ble_eq_true rfl, Nat.le_of_ble_eq_true rfl⟩ (hP.sub (ws' := []) [] rfl) (hD.sub (ws' := []) [] (by decide +kernel) rfl) hl.1 rfl (Nat.le_of_ble_eq_true rfl) dX11_isHere_11 ⟨Nat.le_of_ble_eq_true rfl, Nat.le_of_ble_eq_true rfl⟩) hP hD hS hA [] [0, 1, 2] rfl rfl (by decide +kernel) (by decide +kernel) (fun x28101825 u H locs hq hP hD hS => ?_)
      obtain ⟨hAlt, hx28101825⟩ := hq
      have hx28101825 : 0 ≤ x28101825.toInt ∧ x28101825.toInt ≤ 1 := hx28101825
      have hP : va_P D vwCl [(q1, .inl (T 3, 3, .inl gq1)), (a, .inr (11, OX z i1 x28101701 i3 i4 i5 i6 i7 i8 i30 i43 i45 i46 i47 i48 i49 i50 i51 i58 i59 i65 i68 i69 i72 i78 i80 i81 i82 i87 i92 i96 i100 i103 i104)), ((z 0), .inl (T 0, 700, .inl g0))] H := hP
      have hD : va_D A [(q1, .inl (T 3, 3, .inl gq1)), (a, .inr (11, OX z i1 x28101701 i3 i4 i5 i6 i7 i8 i30 i43 i45 i46 i47 i48 i49 i50 i51 i58 i59 i65 i68 i69 i72 i78 i80 i81 i82 i87 i92 i96 i100 i103 i104)), ((z 0), .inl (T 0, 700, .inl g0))] := hD
      rcases hAlt with hAlt | hAlt
      · skip
        have hp28101826 := hAlt
        have hp28101826 : x28101825.toInt = 0 := hp28101826
        clear hAlt
        refine W.widen (k := 0) (n := 0) (Nat.le_refl _) (Nat.le_refl _) ?_
        refine lv_if_eq (tgt := 28) hx hb dX11_isHere_14 (by decide) (fun c28101827 => ?_) (fun hc => by have hf : x28101825.toInt ≠ 0 := ne_ti rfl (by decide) hc; omega)
        have kc28101827 : x28101825.toInt = 0 := eq_ti rfl (by decide) c28101827
        refine lv_iconst (v := 0) hx hb dX11_isHere_28 (by decide) ?_
        have hl28101828 : (0 : Int32).toInt = 0 := by decide
        have hl28101829 : (0 : Int32).toInt = 0 := by decide
        exact r_zret (x28101701 : Int32) C0 hr (by decide +kernel) hlocks hS (Nat.le_refl _) (Nat.le_refl _) dX11_isHere_29 ⟨⟨by omega, by omega⟩, (by omega), (Or.inl (by omega)), ⟨by decide, by decide⟩⟩ (hP.sub (ws' := [(a, .inr (11, OX z i1 x28101701 i3 i4 i5 i6 i7 i8 i30 i43 i45 i46 i47 i48 i49 i50 i51 i58 i59 i65 i68 i69 i72 i78 i80 i81 i82 i87 i92 i96 i100 i103 i104)), (q1, .inl (T 3, 3, .inl gq1)), ((z 0), .inl (T 0, 700, .inl g0))]) [1, 0, 2] rfl) (hD.sub (ws' := [(a, .inr (11, OX z i1 x28101701 i3 i4 i5 i6 i7 i8 i30 i43 i45 i46 i47 i48 i49 i50 i51 i58 i59 i65 i68 i69 i72 i78 i80 i81 i82 i87 i92 i96 i100 i103 i104)), (q1, .inl (T 3, 3, .inl gq1)), ((z 0), .inl (T 0, 700, .inl g0))]) [1, 0, 2] (by decide +kernel) rfl)
      · skip
        have hp28101830 := hAlt
        have hp28101830 : x28101825.toInt = 1 ∧ 97 ≤ x28101700.toInt ∧ x28101700.toInt ≤ 122 := hp28101830
        clear hAlt
        refine W.widen (k := 0) (n := 0) (Nat.le_refl _) (Nat.le_refl _) ?_
        refine lv_if_eq (tgt := 28) hx hb dX11_isHere_14 (by decide) (fun hc => by have hf : x28101825.toInt = 0 := eq_ti rfl (by decide) hc; omega) (fun c28101831 => ?_)
        have kc28101831 : x28101825.toInt ≠ 0 := ne_ti rfl (by decide) c28101831
        refine lv_aload_n hx hb dX11_isHere_17 rfl (lv_at hl 0 rfl) ?_
        refine r_get (v := .int x28101701) C0 hE ffX11_2 mw_792 hP 1 rfl ox_2 dX11_isHere_18 ?_
        refine lv_aload_n hx hb dX11_isHere_21 rfl (lv_at hl 0 rfl) ?_
        refine r_get (v := .int i4) C0 hE ffX11_4 mw_794 hP 1 rfl ox_4 dX11_isHere_22 ?_
        refine lv_icmp_ne (tgt := 30) hx hb dX11_isHere_25 (by decide) (fun c28101832 => ?_) (fun c28101832 => ?_)
        · skip
          have kc28101832 : x28101701.toInt ≠ i4.toInt := ne_ti rfl rfl c28101832
          refine lv_aload_n hx hb dX11_isHere_30 rfl (lv_at hl 0 rfl) ?_
          refine r_get (v := .int x28101701) C0 hE ffX11_2 mw_792 hP 1 rfl ox_2 dX11_isHere_31 ?_
          refine lv_istore_n (lv' := [(2, .int x28101701), (0, .ref a), (1, .ref q1)]) hx hb dX11_isHere_34 rfl hl (by decide) rfl (fun ls hl => ?_)
          have L28101850 : ∀ (n : Nat) (x28101841 : Int32) (H : Heap) (locs : List Loc) (ls : Array Slot), (0 ≤ x28101841.toInt ∧ x28101841.toInt ≤ 700) → (x28101701.toInt ≤ x28101841.toInt ∧ x28101841.toInt ≤ i3.toInt) → (701 - x28101841.toInt).toNat < n → va_P D vwCl [(q1, .inl (T 3, 3, .inl gq1)), (a, .inr (11, OX z i1 x28101701 i3 i4 i5 i6 i7 i8 i30 i43 i45 i46 i47 i48 i49 i50 i51 i58 i59 i65 i68 i69 i72 i78 i80 i81 i82 i87 i92 i96 i100 i103 i104)), ((z 0), .inl (T 0, 700, .inl g0))] H → va_D A [(q1, .inl (T 3, 3, .inl gq1)), (a, .inr (11, OX z i1 x28101701 i3 i4 i5 i6 i7 i8 i30 i43 i45 i46 i47 i48 i49 i50 i51 i58 i59 i65 i68 i69 i72 i78 i80 i81 i82 i87 i92 i96 i100 i103 i104)), ((z 0), .inl (T 0, 700, .inl g0))] → va_S A s.heap H locs → lv_has ls 4 [(2, .int x28101841), (0, .ref a), (1, .ref q1)] → W p l e { frames := 1, cells := 0, slots := 0, locals := 20 } s m args below meth c H locs 0 0 (MQ below ((Qi (S := Int32) (fun (r : Int32) (ui2 : Int32) => (0 ≤ ui2.toInt ∧ ui2.toInt ≤ 700) ∧ (i2.toInt ≤ ui2.toInt) ∧ (((r.toInt = 0 ∧ i2.toInt ≤ ui2.toInt)) ∨ ((r.toInt = 1 ∧ i2.toInt ≤ ui2.toInt ∧ ui2.toInt + 3 ≤ i3.toInt ∧ i5.toInt = 0))) ∧ (0 ≤ r.toInt ∧ r.toInt ≤ 1)) (fun (ui2 : Int32) => [(a, .inr (11, OX z i1 ui2 i3 i4 i5 i6 i7 i8 i30 i43 i45 i46 i47 i48 i49 i50 i51 i58 i59 i65 i68 i69 i72 i78 i80 i81 i82 i87 i92 i96 i100 i103 i104)), (q1, .inl (T 3, 3, .inl gq1)), ((z 0), .inl (T 0, 700, .inl g0))]) D) A) args s 0 0 A) (F0 m 35 ls []) := by
            intro n
            induction n with
            | zero =>
              intro x28101841 H locs ls hx28101841 hr28101851 hms hP hD hS hl
              exact absurd hms (Nat.not_lt_zero _)
            | succ n ih28101852 =>
              intro x28101841 H locs ls hx28101841 hr28101851 hms hP hD hS hl
              refine lv_iload_n hx hb dX11_isHere_35 rfl (lv_at hl 0 rfl) ?_
              refine lv_aload_n hx hb dX11_isHere_36 rfl (lv_at hl 1 rfl) ?_
              refine r_get (v := .int i3) C0 hE ffX11_3 mw_793 hP 1 rfl ox_3 dX11_isHere_37 ?_
              refine lv_icmp_ge (tgt := 61) hx hb dX11_isHere_40 (by decide) (fun c28101853 => ?_) (fun c28101853 => ?_)
              · skip
                have kc28101853 : i3.toInt ≤ x28101841.toInt := le_ti rfl rfl c28101853
                refine lv_iload_n hx hb dX11_isHere_61 rfl (lv_at hl 0 rfl) ?_
                refine lv_aload_n hx hb dX11_isHere_62 rfl (lv_at hl 1 rfl) ?_
                refine r_get (v := .int x28101701) C0 hE ffX11_2 mw_792 hP 1 rfl ox_2 dX11_isHere_63 ?_
                refine lv_isub hx hb dX11_isHere_66 ?_
                refine lv_topi (fun x28101854 ex28101854 => ?_)
                have hx28101854 : x28101854.toInt = x28101841.toInt - x28101701.toInt := ti_sub ex28101854 rfl rfl (by omega) (by omega)
                refine lv_aload_n hx hb dX11_isHere_67 rfl (lv_at hl 2 rfl) ?_
                refine va_alen (v := 3) hx hb hK hP 0 3 rfl rfl rfl dX11_isHere_68 ?_
                refine lv_icmp_eq (tgt := 74) hx hb dX11_isHere_69 (by decide) (fun c28101855 => ?_) (fun c28101855 => ?_)
                · skip
                  have kc28101855 : x28101854.toInt = 3 := eq_ti rfl (by decide) c28101855
                  refine lv_iconst (v := 0) hx hb dX11_isHere_74 (by decide) ?_
                  refine lv_istore_n (lv' := [(3, .int 0), (2, .int x28101841), (0, .ref a), (1, .ref q1)]) hx hb dX11_isHere_75 rfl hl (by decide) rfl (fun ls hl => ?_)
                  have L28101881 : ∀ (n : Nat) (x28101874 : Int32) (H : Heap) (locs : List Loc) (ls : Array Slot), (0 ≤ x28101874.toInt ∧ x28101874.toInt ≤ 3) → (4 - x28101874.toInt).toNat < n → va_P D vwCl [(q1, .inl (T 3, 3, .inl gq1)), (a, .inr (11, OX z i1 x28101701 i3 i4 i5 i6 i7 i8 i30 i43 i45 i46 i47 i48 i49 i50 i51 i58 i59 i65 i68 i69 i72 i78 i80 i81 i82 i87 i92 i96 i100 i103 i104)), ((z 0), .inl (T 0, 700, .inl g0))] H → va_D A [(q1, .inl (T 3, 3, .inl gq1)), (a, .inr (11, OX z i1 x28101701 i3 i4 i5 i6 i7 i8 i30 i43 i45 i46 i47 i48 i49 i50 i51 i58 i59 i65 i68 i69 i72 i78 i80 i81 i82 i87 i92 i96 i100 i103 i104)), ((z 0), .inl (T 0, 700, .inl g0))] → va_S A s.heap H locs → lv_has ls 4 [(3, .int x28101874), (2, .int x28101841), (0, .ref a), (1, .ref q1)] → W p l e { frames := 1, cells := 0, slots := 0, locals := 20 } s m args below meth c H locs 0 0 (MQ below ((Qi (S := Int32) (fun (r : Int32) (ui2 : Int32) => (0 ≤ ui2.toInt ∧ ui2.toInt ≤ 700) ∧ (i2.toInt ≤ ui2.toInt) ∧ (((r.toInt = 0 ∧ i2.toInt ≤ ui2.toInt)) ∨ ((r.toInt = 1 ∧ i2.toInt ≤ ui2.toInt ∧ ui2.toInt + 3 ≤ i3.toInt ∧ i5.toInt = 0))) ∧ (0 ≤ r.toInt ∧ r.toInt ≤ 1)) (fun (ui2 : Int32) => [(a, .inr (11, OX z i1 ui2 i3 i4 i5 i6 i7 i8 i30 i43 i45 i46 i47 i48 i49 i50 i51 i58 i59 i65 i68 i69 i72 i78 i80 i81 i82 i87 i92 i96 i100 i103 i104)), (q1, .inl (T 3, 3, .inl gq1)), ((z 0), .inl (T 0, 700, .inl g0))]) D) A) args s 0 0 A) (F0 m 76 ls []) := by
                    intro n
                    induction n with
                    | zero =>
                      intro x28101874 H locs ls hx28101874 hms hP hD hS hl
                      exact absurd hms (Nat.not_lt_zero _)
                    | succ n ih28101882 =>
                      intro x28101874 H locs ls hx28101874 hms hP hD hS hl
                      refine lv_iload_n hx hb dX11_isHere_76 rfl (lv_at hl 0 rfl) ?_
                      refine lv_aload_n hx hb dX11_isHere_77 rfl (lv_at hl 3 rfl) ?_
                      refine va_alen (v := 3) hx hb hK hP 0 3 rfl rfl rfl dX11_isHere_78 ?_
                      refine lv_icmp_ge (tgt := 107) hx hb dX11_isHere_79 (by decide) (fun c28101883 => ?_) (fun c28101883 => ?_)
                      · skip
                        have kc28101883 : 3 ≤ x28101874.toInt := le_ti (by decide) rfl c28101883
                        refine lv_iconst (v := 1) hx hb dX11_isHere_107 (by decide) ?_
                        have hl28101884 : (1 : Int32).toInt = 1 := by decide
                        have hl28101885 : (1 : Int32).toInt = 1 := by decide
                        exact r_zret (x28101701 : Int32) C0 hr (by decide +kernel) hlocks hS (Nat.le_refl _) (Nat.le_refl _) dX11_isHere_108 ⟨⟨by omega, by omega⟩, (by omega), (Or.inr (by omega)), ⟨by decide, by decide⟩⟩ (hP.sub (ws' := [(a, .inr (11, OX z i1 x28101701 i3 i4 i5 i6 i7 i8 i30 i43 i45 i46 i47 i48 i49 i50 i51 i58 i59 i65 i68 i69 i72 i78 i80 i81 i82 i87 i92 i96 i100 i103 i104)), (q1, .inl (T 3, 3, .inl gq1)), ((z 0), .inl (T 0, 700, .inl g0))]) [1, 0, 2] rfl) (hD.sub (ws' := [(a, .inr (11, OX z i1 x28101701 i3 i4 i5 i6 i7 i8 i30 i43 i45 i46 i47 i48 i49 i50 i51 i58 i59 i65 i68 i69 i72 i78 i80 i81 i82 i87 i92 i96 i100 i103 i104)), (q1, .inl (T 3, 3, .inl gq1)), ((z 0), .inl (T 0, 700, .inl g0))]) [1, 0, 2] (by decide +kernel) rfl)
                      · skip
                        have kc28101883 : x28101874.toInt < 3 := nle_ti (by decide) rfl c28101883
                        refine lv_aload_n hx hb dX11_isHere_82 rfl (lv_at hl 2 rfl) ?_
                        refine r_get (v := .ref (z 0)) C0 hE ffX11_0 mw_790 hP 1 rfl ox_0 dX11_isHere_83 ?_
                        refine lv_aload_n hx hb dX11_isHere_86 rfl (lv_at hl 2 rfl) ?_
                        refine r_get (v := .int x28101701) C0 hE ffX11_2 mw_792 hP 1 rfl ox_2 dX11_isHere_87 ?_
                        refine lv_iload_n hx hb dX11_isHere_90 rfl (lv_at hl 0 rfl) ?_
                        refine lv_iadd hx hb dX11_isHere_91 ?_
                        refine lv_topi (fun x28101886 ex28101886 => ?_)
                        have hx28101886 : x28101886.toInt = x28101701.toInt + x28101874.toInt := ti_add ex28101886 rfl rfl (by omega) (by omega)
                        refine va_iald hx hb hK hP 2 0 rfl rfl (in_ti rfl (by omega) (by omega)) dX11_isHere_92 ?_
                        refine lv_topi (fun x28101887 ex28101887 => ?_)
                        have tx28101887 : x28101887.toInt = (g0 (Int32.toNatClampNeg x28101886)).toInt := by rw [ex28101887]
                        refine lv_aload_n hx hb dX11_isHere_93 rfl (lv_at hl 3 rfl) ?_
                        refine lv_iload_n hx hb dX11_isHere_94 rfl (lv_at hl 0 rfl) ?_
                        refine va_cald hx hb hK hP 0 3 rfl rfl (in_ti rfl (by omega) (by omega)) dX11_isHere_95 ?_
                        refine lv_topi (fun x28101888 ex28101888 => ?_)
                        refine lv_icmp_eq (tgt := 101) hx hb dX11_isHere_96 (by decide) (fun c28101889 => ?_) (fun c28101889 => ?_)
                        · skip
                          have kc28101889 : x28101887.toInt = x28101888.toInt := eq_ti rfl rfl c28101889
                          obtain ⟨x28101890, ex28101890⟩ : ∃ y : Int32, y = x28101874 + 1 := ⟨_, rfl⟩
                          have hx28101890 : x28101890.toInt = x28101874.toInt + 1 := ti_add ex28101890 rfl (by decide) (by omega) (by omega)
                          refine lv_iinc (v := x28101890) (lv' := [(3, .int x28101890), (2, .int x28101841), (0, .ref a), (1, .ref q1)]) hx hb dX11_isHere_101 hl (k := 0) rfl (by rw [ex28101890]; rfl) (by decide) rfl (fun ls hl => ?_)
                          refine lv_goto (tgt := 76) hx hb dX11_isHere_104 (by decide) ?_
                          exact ih28101882 x28101890 _ _ ls ⟨by omega, by omega⟩ (by omega) (hP.sub (ws' := [(q1, .inl (T 3, 3, .inl gq1)), (a, .inr (11, OX z i1 x28101701 i3 i4 i5 i6 i7 i8 i30 i43 i45 i46 i47 i48 i49 i50 i51 i58 i59 i65 i68 i69 i72 i78 i80 i81 i82 i87 i92 i96 i100 i103 i104)), ((z 0), .inl (T 0, 700, .inl g0))]) [0, 1, 2] rfl) (hD.sub (ws' := [(q1, .inl (T 3, 3, .inl gq1)), (a, .inr (11, OX z i1 x28101701 i3 i4 i5 i6 i7 i8 i30 i43 i45 i46 i47 i48 i49 i50 i51 i58 i59 i65 i68 i69 i72 i78 i80 i81 i82 i87 i92 i96 i100 i103 i104)), ((z 0), .inl (T 0, 700, .inl g0))]) [0, 1, 2] (by decide +kernel) rfl) hS (lv_sub hl [0, 1, 2, 3] rfl)
                        · skip
                          have kc28101889 : x28101887.toInt ≠ x28101888.toInt := ne_ti rfl rfl c28101889
                          refine lv_iconst (v := 0) hx hb dX11_isHere_99 (by decide) ?_
                          have hl28101891 : (0 : Int32).toInt = 0 := by decide
                          have hl28101892 : (0 : Int32).toInt = 0 := by decide
                          exact r_zret (x28101701 : Int32) C0 hr (by decide +kernel) hlocks hS (Nat.le_refl _) (Nat.le_refl _) dX11_isHere_100 ⟨⟨by omega, by omega⟩, (by omega), (Or.inl (by omega)), ⟨by decide, by decide⟩⟩ (hP.sub (ws' := [(a, .inr (11, OX z i1 x28101701 i3 i4 i5 i6 i7 i8 i30 i43 i45 i46 i47 i48 i49 i50 i51 i58 i59 i65 i68 i69 i72 i78 i80 i81 i82 i87 i92 i96 i100 i103 i104)), (q1, .inl (T 3, 3, .inl gq1)), ((z 0), .inl (T 0, 700, .inl g0))]) [1, 0, 2] rfl) (hD.sub (ws' := [(a, .inr (11, OX z i1 x28101701 i3 i4 i5 i6 i7 i8 i30 i43 i45 i46 i47 i48 i49 i50 i51 i58 i59 i65 i68 i69 i72 i78 i80 i81 i82 i87 i92 i96 i100 i103 i104)), (q1, .inl (T 3, 3, .inl gq1)), ((z 0), .inl (T 0, 700, .inl g0))]) [1, 0, 2] (by decide +kernel) rfl)
                  exact L28101881 _ 0 _ _ ls ⟨by decide, by decide⟩ (Nat.lt_succ_self _) (hP.sub (ws' := [(q1, .inl (T 3, 3, .inl gq1)), (a, .inr (11, OX z i1 x28101701 i3 i4 i5 i6 i7 i8 i30 i43 i45 i46 i47 i48 i49 i50 i51 i58 i59 i65 i68 i69 i72 i78 i80 i81 i82 i87 i92 i96 i100 i103 i104)), ((z 0), .inl (T 0, 700, .inl g0))]) [0, 1, 2] rfl) (hD.sub (ws' := [(q1, .inl (T 3, 3, .inl gq1)), (a, .inr (11, OX z i1 x28101701 i3 i4 i5 i6 i7 i8 i30 i43 i45 i46 i47 i48 i49 i50 i51 i58 i59 i65 i68 i69 i72 i78 i80 i81 i82 i87 i92 i96 i100 i103 i104)), ((z 0), .inl (T 0, 700, .inl g0))]) [0, 1, 2] (by decide +kernel) rfl) hS (lv_sub hl [0, 1, 2, 3] rfl)
                · skip
                  have kc28101855 : x28101854.toInt ≠ 3 := ne_ti rfl (by decide) c28101855
                  refine lv_iconst (v := 0) hx hb dX11_isHere_72 (by decide) ?_
                  have hl28101893 : (0 : Int32).toInt = 0 := by decide
                  have hl28101894 : (0 : Int32).toInt = 0 := by decide
                  exact r_zret (x28101701 : Int32) C0 hr (by decide +kernel) hlocks hS (Nat.le_refl _) (Nat.le_refl _) dX11_isHere_73 ⟨⟨by omega, by omega⟩, (by omega), (Or.inl (by omega)), ⟨by decide, by decide⟩⟩ (hP.sub (ws' := [(a, .inr (11, OX z i1 x28101701 i3 i4 i5 i6 i7 i8 i30 i43 i45 i46 i47 i48 i49 i50 i51 i58 i59 i65 i68 i69 i72 i78 i80 i81 i82 i87 i92 i96 i100 i103 i104)), (q1, .inl (T 3, 3, .inl gq1)), ((z 0), .inl (T 0, 700, .inl g0))]) [1, 0, 2] rfl) (hD.sub (ws' := [(a, .inr (11, OX z i1 x28101701 i3 i4 i5 i6 i7 i8 i30 i43 i45 i46 i47 i48 i49 i50 i51 i58 i59 i65 i68 i69 i72 i78 i80 i81 i82 i87 i92 i96 i100 i103 i104)), (q1, .inl (T 3, 3, .inl gq1)), ((z 0), .inl (T 0, 700, .inl g0))]) [1, 0, 2] (by decide +kernel) rfl)
              · skip
                have kc28101853 : x28101841.toInt < i3.toInt := nle_ti rfl rfl c28101853
                refine lv_aload_n hx hb dX11_isHere_43 rfl (lv_at hl 1 rfl) ?_
                refine r_get (v := .ref (z 0)) C0 hE ffX11_0 mw_790 hP 1 rfl ox_0 dX11_isHere_44 ?_
                refine lv_iload_n hx hb dX11_isHere_47 rfl (lv_at hl 0 rfl) ?_
                refine va_iald hx hb hK hP 2 0 rfl rfl (in_ti rfl (by omega) (by omega)) dX11_isHere_48 ?_
                refine lv_topi (fun x28101895 ex28101895 => ?_)
                have tx28101895 : x28101895.toInt = (g0 (Int32.toNatClampNeg x28101841)).toInt := by rw [ex28101895]
                refine r_calli (wr := [(q1, .inl (T 3, 3, .inl gq1)), (a, .inr (11, OX z i1 x28101701 i3 i4 i5 i6 i7 i8 i30 i43 i45 i46 i47 i48 i49 i50 i51 i58 i59 i65 i68 i69 i72 i78 i80 i81 i82 i87 i92 i96 i100 i103 i104)), ((z 0), .inl (T 0, 700, .inl g0))]) (r_runS2 (As := [.int x28101895]) (rest := []) (wc := []) C0 hE hStr hS (va_free (wc := []) hD hS hA [] rfl) (h_X11_isLetter_20100005 l D T sq sv H.size x28101895) mw_928 mw_929 mw_14 mw_930 dn_1708 rfl rfl ⟨Nat.le_of_ble_eq_true rfl, Nat.le_of_ble_eq_true rfl⟩ (hP.sub (ws' := []) [] rfl) (hD.sub (ws' := []) [] (by decide +kernel) rfl) hl.1 rfl (Nat.le_of_ble_eq_true rfl) dX11_isHere_49 ⟨Nat.le_of_ble_eq_true rfl, Nat.le_of_ble_eq_true rfl⟩) hP hD hS hA [] [0, 1, 2] rfl rfl (by decide +kernel) (by decide +kernel) (fun x28101896 u H locs hq hP hD hS => ?_)
                obtain ⟨hAlt, hx28101896⟩ := hq
                have hx28101896 : 0 ≤ x28101896.toInt ∧ x28101896.toInt ≤ 1 := hx28101896
                have hP : va_P D vwCl [(q1, .inl (T 3, 3, .inl gq1)), (a, .inr (11, OX z i1 x28101701 i3 i4 i5 i6 i7 i8 i30 i43 i45 i46 i47 i48 i49 i50 i51 i58 i59 i65 i68 i69 i72 i78 i80 i81 i82 i87 i92 i96 i100 i103 i104)), ((z 0), .inl (T 0, 700, .inl g0))] H := hP
                have hD : va_D A [(q1, .inl (T 3, 3, .inl gq1)), (a, .inr (11, OX z i1 x28101701 i3 i4 i5 i6 i7 i8 i30 i43 i45 i46 i47 i48 i49 i50 i51 i58 i59 i65 i68 i69 i72 i78 i80 i81 i82 i87 i92 i96 i100 i103 i104)), ((z 0), .inl (T 0, 700, .inl g0))] := hD
                rcases hAlt with hAlt | hAlt
                · skip
                  have hp28101897 := hAlt
                  have hp28101897 : x28101896.toInt = 0 := hp28101897
                  clear hAlt
                  refine W.widen (k := 0) (n := 0) (Nat.le_refl _) (Nat.le_refl _) ?_
                  refine lv_if_eq (tgt := 61) hx hb dX11_isHere_52 (by decide) (fun c28101898 => ?_) (fun hc => by have hf : x28101896.toInt ≠ 0 := ne_ti rfl (by decide) hc; omega)
                  have kc28101898 : x28101896.toInt = 0 := eq_ti rfl (by decide) c28101898
                  refine lv_iload_n hx hb dX11_isHere_61 rfl (lv_at hl 0 rfl) ?_
                  refine lv_aload_n hx hb dX11_isHere_62 rfl (lv_at hl 1 rfl) ?_
                  refine r_get (v := .int x28101701) C0 hE ffX11_2 mw_792 hP 1 rfl ox_2 dX11_isHere_63 ?_
                  refine lv_isub hx hb dX11_isHere_66 ?_
                  refine lv_topi (fun x28101899 ex28101899 => ?_)
                  have hx28101899 : x28101899.toInt = x28101841.toInt - x28101701.toInt := ti_sub ex28101899 rfl rfl (by omega) (by omega)
                  refine lv_aload_n hx hb dX11_isHere_67 rfl (lv_at hl 2 rfl) ?_
                  refine va_alen (v := 3) hx hb hK hP 0 3 rfl rfl rfl dX11_isHere_68 ?_
                  refine lv_icmp_eq (tgt := 74) hx hb dX11_isHere_69 (by decide) (fun c28101900 => ?_) (fun c28101900 => ?_)
                  · skip
                    have kc28101900 : x28101899.toInt = 3 := eq_ti rfl (by decide) c28101900
                    refine lv_iconst (v := 0) hx hb dX11_isHere_74 (by decide) ?_
                    refine lv_istore_n (lv' := [(3, .int 0), (2, .int x28101841), (0, .ref a), (1, .ref q1)]) hx hb dX11_isHere_75 rfl hl (by decide) rfl (fun ls hl => ?_)
                    have L28101926 : ∀ (n : Nat) (x28101919 : Int32) (H : Heap) (locs : List Loc) (ls : Array Slot), (0 ≤ x28101919.toInt ∧ x28101919.toInt ≤ 3) → (4 - x28101919.toInt).toNat < n → va_P D vwCl [(q1, .inl (T 3, 3, .inl gq1)), (a, .inr (11, OX z i1 x28101701 i3 i4 i5 i6 i7 i8 i30 i43 i45 i46 i47 i48 i49 i50 i51 i58 i59 i65 i68 i69 i72 i78 i80 i81 i82 i87 i92 i96 i100 i103 i104)), ((z 0), .inl (T 0, 700, .inl g0))] H → va_D A [(q1, .inl (T 3, 3, .inl gq1)), (a, .inr (11, OX z i1 x28101701 i3 i4 i5 i6 i7 i8 i30 i43 i45 i46 i47 i48 i49 i50 i51 i58 i59 i65 i68 i69 i72 i78 i80 i81 i82 i87 i92 i96 i100 i103 i104)), ((z 0), .inl (T 0, 700, .inl g0))] → va_S A s.heap H locs → lv_has ls 4 [(3, .int x28101919), (2, .int x28101841), (0, .ref a), (1, .ref q1)] → W p l e { frames := 1, cells := 0, slots := 0, locals := 20 } s m args below meth c H locs 0 0 (MQ below ((Qi (S := Int32) (fun (r : Int32) (ui2 : Int32) => (0 ≤ ui2.toInt ∧ ui2.toInt ≤ 700) ∧ (i2.toInt ≤ ui2.toInt) ∧ (((r.toInt = 0 ∧ i2.toInt ≤ ui2.toInt)) ∨ ((r.toInt = 1 ∧ i2.toInt ≤ ui2.toInt ∧ ui2.toInt + 3 ≤ i3.toInt ∧ i5.toInt = 0))) ∧ (0 ≤ r.toInt ∧ r.toInt ≤ 1)) (fun (ui2 : Int32) => [(a, .inr (11, OX z i1 ui2 i3 i4 i5 i6 i7 i8 i30 i43 i45 i46 i47 i48 i49 i50 i51 i58 i59 i65 i68 i69 i72 i78 i80 i81 i82 i87 i92 i96 i100 i103 i104)), (q1, .inl (T 3, 3, .inl gq1)), ((z 0), .inl (T 0, 700, .inl g0))]) D) A) args s 0 0 A) (F0 m 76 ls []) := by
                      intro n
                      induction n with
                      | zero =>
                        intro x28101919 H locs ls hx28101919 hms hP hD hS hl
                        exact absurd hms (Nat.not_lt_zero _)
                      | succ n ih28101927 =>
                        intro x28101919 H locs ls hx28101919 hms hP hD hS hl
                        refine lv_iload_n hx hb dX11_isHere_76 rfl (lv_at hl 0 rfl) ?_
                        refine lv_aload_n hx hb dX11_isHere_77 rfl (lv_at hl 3 rfl) ?_
                        refine va_alen (v := 3) hx hb hK hP 0 3 rfl rfl rfl dX11_isHere_78 ?_
                        refine lv_icmp_ge (tgt := 107) hx hb dX11_isHere_79 (by decide) (fun c28101928 => ?_) (fun c28101928 => ?_)
                        · skip
                          have kc28101928 : 3 ≤ x28101919.toInt := le_ti (by decide) rfl c28101928
                          refine lv_iconst (v := 1) hx hb dX11_isHere_107 (by decide) ?_
                          have hl28101929 : (1 : Int32).toInt = 1 := by decide
                          have hl28101930 : (1 : Int32).toInt = 1 := by decide
                          exact r_zret (x28101701 : Int32) C0 hr (by decide +kernel) hlocks hS (Nat.le_refl _) (Nat.le_refl _) dX11_isHere_108 ⟨⟨by omega, by omega⟩, (by omega), (Or.inr (by omega)), ⟨by decide, by decide⟩⟩ (hP.sub (ws' := [(a, .inr (11, OX z i1 x28101701 i3 i4 i5 i6 i7 i8 i30 i43 i45 i46 i47 i48 i49 i50 i51 i58 i59 i65 i68 i69 i72 i78 i80 i81 i82 i87 i92 i96 i100 i103 i104)), (q1, .inl (T 3, 3, .inl gq1)), ((z 0), .inl (T 0, 700, .inl g0))]) [1, 0, 2] rfl) (hD.sub (ws' := [(a, .inr (11, OX z i1 x28101701 i3 i4 i5 i6 i7 i8 i30 i43 i45 i46 i47 i48 i49 i50 i51 i58 i59 i65 i68 i69 i72 i78 i80 i81 i82 i87 i92 i96 i100 i103 i104)), (q1, .inl (T 3, 3, .inl gq1)), ((z 0), .inl (T 0, 700, .inl g0))]) [1, 0, 2] (by decide +kernel) rfl)
                        · skip
                          have kc28101928 : x28101919.toInt < 3 := nle_ti (by decide) rfl c28101928
                          refine lv_aload_n hx hb dX11_isHere_82 rfl (lv_at hl 2 rfl) ?_
                          refine r_get (v := .ref (z 0)) C0 hE ffX11_0 mw_790 hP 1 rfl ox_0 dX11_isHere_83 ?_
                          refine lv_aload_n hx hb dX11_isHere_86 rfl (lv_at hl 2 rfl) ?_
                          refine r_get (v := .int x28101701) C0 hE ffX11_2 mw_792 hP 1 rfl ox_2 dX11_isHere_87 ?_
                          refine lv_iload_n hx hb dX11_isHere_90 rfl (lv_at hl 0 rfl) ?_
                          refine lv_iadd hx hb dX11_isHere_91 ?_
                          refine lv_topi (fun x28101931 ex28101931 => ?_)
                          have hx28101931 : x28101931.toInt = x28101701.toInt + x28101919.toInt := ti_add ex28101931 rfl rfl (by omega) (by omega)
                          refine va_iald hx hb hK hP 2 0 rfl rfl (in_ti rfl (by omega) (by omega)) dX11_isHere_92 ?_
                          refine lv_topi (fun x28101932 ex28101932 => ?_)
                          have tx28101932 : x28101932.toInt = (g0 (Int32.toNatClampNeg x28101931)).toInt := by rw [ex28101932]
                          refine lv_aload_n hx hb dX11_isHere_93 rfl (lv_at hl 3 rfl) ?_
                          refine lv_iload_n hx hb dX11_isHere_94 rfl (lv_at hl 0 rfl) ?_
                          refine va_cald hx hb hK hP 0 3 rfl rfl (in_ti rfl (by omega) (by omega)) dX11_isHere_95 ?_
                          refine lv_topi (fun x28101933 ex28101933 => ?_)
                          refine lv_icmp_eq (tgt := 101) hx hb dX11_isHere_96 (by decide) (fun c28101934 => ?_) (fun c28101934 => ?_)
                          · skip
                            have kc28101934 : x28101932.toInt = x28101933.toInt := eq_ti rfl rfl c28101934
                            obtain ⟨x28101935, ex28101935⟩ : ∃ y : Int32, y = x28101919 + 1 := ⟨_, rfl⟩
                            have hx28101935 : x28101935.toInt = x28101919.toInt + 1 := ti_add ex28101935 rfl (by decide) (by omega) (by omega)
                            refine lv_iinc (v := x28101935) (lv' := [(3, .int x28101935), (2, .int x28101841), (0, .ref a), (1, .ref q1)]) hx hb dX11_isHere_101 hl (k := 0) rfl (by rw [ex28101935]; rfl) (by decide) rfl (fun ls hl => ?_)
                            refine lv_goto (tgt := 76) hx hb dX11_isHere_104 (by decide) ?_
                            exact ih28101927 x28101935 _ _ ls ⟨by omega, by omega⟩ (by omega) (hP.sub (ws' := [(q1, .inl (T 3, 3, .inl gq1)), (a, .inr (11, OX z i1 x28101701 i3 i4 i5 i6 i7 i8 i30 i43 i45 i46 i47 i48 i49 i50 i51 i58 i59 i65 i68 i69 i72 i78 i80 i81 i82 i87 i92 i96 i100 i103 i104)), ((z 0), .inl (T 0, 700, .inl g0))]) [0, 1, 2] rfl) (hD.sub (ws' := [(q1, .inl (T 3, 3, .inl gq1)), (a, .inr (11, OX z i1 x28101701 i3 i4 i5 i6 i7 i8 i30 i43 i45 i46 i47 i48 i49 i50 i51 i58 i59 i65 i68 i69 i72 i78 i80 i81 i82 i87 i92 i96 i100 i103 i104)), ((z 0), .inl (T 0, 700, .inl g0))]) [0, 1, 2] (by decide +kernel) rfl) hS (lv_sub hl [0, 1, 2, 3] rfl)
                          · skip
                            have kc28101934 : x28101932.toInt ≠ x28101933.toInt := ne_ti rfl rfl c28101934
                            refine lv_iconst (v := 0) hx hb dX11_isHere_99 (by decide) ?_
                            have hl28101936 : (0 : Int32).toInt = 0 := by decide
                            have hl28101937 : (0 : Int32).toInt = 0 := by decide
                            exact r_zret (x28101701 : Int32) C0 hr (by decide +kernel) hlocks hS (Nat.le_refl _) (Nat.le_refl _) dX11_isHere_100 ⟨⟨by omega, by omega⟩, (by omega), (Or.inl (by omega)), ⟨by decide, by decide⟩⟩ (hP.sub (ws' := [(a, .inr (11, OX z i1 x28101701 i3 i4 i5 i6 i7 i8 i30 i43 i45 i46 i47 i48 i49 i50 i51 i58 i59 i65 i68 i69 i72 i78 i80 i81 i82 i87 i92 i96 i100 i103 i104)), (q1, .inl (T 3, 3, .inl gq1)), ((z 0), .inl (T 0, 700, .inl g0))]) [1, 0, 2] rfl) (hD.sub (ws' := [(a, .inr (11, OX z i1 x28101701 i3 i4 i5 i6 i7 i8 i30 i43 i45 i46 i47 i48 i49 i50 i51 i58 i59 i65 i68 i69 i72 i78 i80 i81 i82 i87 i92 i96 i100 i103 i104)), (q1, .inl (T 3, 3, .inl gq1)), ((z 0), .inl (T 0, 700, .inl g0))]) [1, 0, 2] (by decide +kernel) rfl)
                    exact L28101926 _ 0 _ _ ls ⟨by decide, by decide⟩ (Nat.lt_succ_self _) (hP.sub (ws' := [(q1, .inl (T 3, 3, .inl gq1)), (a, .inr (11, OX z i1 x28101701 i3 i4 i5 i6 i7 i8 i30 i43 i45 i46 i47 i48 i49 i50 i51 i58 i59 i65 i68 i69 i72 i78 i80 i81 i82 i87 i92 i96 i100 i103 i104)), ((z 0), .inl (T 0, 700, .inl g0))]) [0, 1, 2] rfl) (hD.sub (ws' := [(q1, .inl (T 3, 3, .inl gq1)), (a, .inr (11, OX z i1 x28101701 i3 i4 i5 i6 i7 i8 i30 i43 i45 i46 i47 i48 i49 i50 i51 i58 i59 i65 i68 i69 i72 i78 i80 i81 i82 i87 i92 i96 i100 i103 i104)), ((z 0), .inl (T 0, 700, .inl g0))]) [0, 1, 2] (by decide +kernel) rfl) hS (lv_sub hl [0, 1, 2, 3] rfl)
                  · skip
                    have kc28101900 : x28101899.toInt ≠ 3 := ne_ti rfl (by decide) c28101900
                    refine lv_iconst (v := 0) hx hb dX11_isHere_72 (by decide) ?_
                    have hl28101938 : (0 : Int32).toInt = 0 := by decide
                    have hl28101939 : (0 : Int32).toInt = 0 := by decide
                    exact r_zret (x28101701 : Int32) C0 hr (by decide +kernel) hlocks hS (Nat.le_refl _) (Nat.le_refl _) dX11_isHere_73 ⟨⟨by omega, by omega⟩, (by omega), (Or.inl (by omega)), ⟨by decide, by decide⟩⟩ (hP.sub (ws' := [(a, .inr (11, OX z i1 x28101701 i3 i4 i5 i6 i7 i8 i30 i43 i45 i46 i47 i48 i49 i50 i51 i58 i59 i65 i68 i69 i72 i78 i80 i81 i82 i87 i92 i96 i100 i103 i104)), (q1, .inl (T 3, 3, .inl gq1)), ((z 0), .inl (T 0, 700, .inl g0))]) [1, 0, 2] rfl) (hD.sub (ws' := [(a, .inr (11, OX z i1 x28101701 i3 i4 i5 i6 i7 i8 i30 i43 i45 i46 i47 i48 i49 i50 i51 i58 i59 i65 i68 i69 i72 i78 i80 i81 i82 i87 i92 i96 i100 i103 i104)), (q1, .inl (T 3, 3, .inl gq1)), ((z 0), .inl (T 0, 700, .inl g0))]) [1, 0, 2] (by decide +kernel) rfl)
                · skip
                  have hp28101940 := hAlt
                  have hp28101940 : x28101896.toInt = 1 ∧ 97 ≤ x28101895.toInt ∧ x28101895.toInt ≤ 122 := hp28101940
                  clear hAlt
                  refine W.widen (k := 0) (n := 0) (Nat.le_refl _) (Nat.le_refl _) ?_
                  refine lv_if_eq (tgt := 61) hx hb dX11_isHere_52 (by decide) (fun hc => by have hf : x28101896.toInt = 0 := eq_ti rfl (by decide) hc; omega) (fun c28101941 => ?_)
                  have kc28101941 : x28101896.toInt ≠ 0 := ne_ti rfl (by decide) c28101941
                  obtain ⟨x28101942, ex28101942⟩ : ∃ y : Int32, y = x28101841 + 1 := ⟨_, rfl⟩
                  have hx28101942 : x28101942.toInt = x28101841.toInt + 1 := ti_add ex28101942 rfl (by decide) (by omega) (by omega)
                  refine lv_iinc (v := x28101942) (lv' := [(2, .int x28101942), (0, .ref a), (1, .ref q1)]) hx hb dX11_isHere_55 hl (k := 0) rfl (by rw [ex28101942]; rfl) (by decide) rfl (fun ls hl => ?_)
                  refine lv_goto (tgt := 35) hx hb dX11_isHere_58 (by decide) ?_
                  exact ih28101852 x28101942 _ _ ls ⟨by omega, by omega⟩ (by omega) (by omega) (hP.sub (ws' := [(q1, .inl (T 3, 3, .inl gq1)), (a, .inr (11, OX z i1 x28101701 i3 i4 i5 i6 i7 i8 i30 i43 i45 i46 i47 i48 i49 i50 i51 i58 i59 i65 i68 i69 i72 i78 i80 i81 i82 i87 i92 i96 i100 i103 i104)), ((z 0), .inl (T 0, 700, .inl g0))]) [0, 1, 2] rfl) (hD.sub (ws' := [(q1, .inl (T 3, 3, .inl gq1)), (a, .inr (11, OX z i1 x28101701 i3 i4 i5 i6 i7 i8 i30 i43 i45 i46 i47 i48 i49 i50 i51 i58 i59 i65 i68 i69 i72 i78 i80 i81 i82 i87 i92 i96 i100 i103 i104)), ((z 0), .inl (T 0, 700, .inl g0))]) [0, 1, 2] (by decide +kernel) rfl) hS (lv_sub hl [0, 1, 2] rfl)
          exact L28101850 _ x28101701 _ _ ls ⟨by omega, by omega⟩ (by omega) (Nat.lt_succ_self _) (hP.sub (ws' := [(q1, .inl (T 3, 3, .inl gq1)), (a, .inr (11, OX z i1 x28101701 i3 i4 i5 i6 i7 i8 i30 i43 i45 i46 i47 i48 i49 i50 i51 i58 i59 i65 i68 i69 i72 i78 i80 i81 i82 i87 i92 i96 i100 i103 i104)), ((z 0), .inl (T 0, 700, .inl g0))]) [0, 1, 2] rfl) (hD.sub (ws' := [(q1, .inl (T 3, 3, .inl gq1)), (a, .inr (11, OX z i1 x28101701 i3 i4 i5 i6 i7 i8 i30 i43 i45 i46 i47 i48 i49 i50 i51 i58 i59 i65 i68 i69 i72 i78 i80 i81 i82 i87 i92 i96 i100 i103 i104)), ((z 0), .inl (T 0, 700, .inl g0))]) [0, 1, 2] (by decide +kernel) rfl) hS (lv_sub hl [0, 1, 2] rfl)
        · skip
          have kc28101832 : x28101701.toInt = i4.toInt := eq_ti rfl rfl c28101832
          refine lv_iconst (v := 0) hx hb dX11_isHere_28 (by decide) ?_
          have hl28101943 : (0 : Int32).toInt = 0 := by decide
          have hl28101944 : (0 : Int32).toInt = 0 := by decide
          exact r_zret (x28101701 : Int32) C0 hr (by decide +kernel) hlocks hS (Nat.le_refl _) (Nat.le_refl _) dX11_isHere_29 ⟨⟨by omega, by omega⟩, (by omega), (Or.inl (by omega)), ⟨by decide, by decide⟩⟩ (hP.sub (ws' := [(a, .inr (11, OX z i1 x28101701 i3 i4 i5 i6 i7 i8 i30 i43 i45 i46 i47 i48 i49 i50 i51 i58 i59 i65 i68 i69 i72 i78 i80 i81 i82 i87 i92 i96 i100 i103 i104)), (q1, .inl (T 3, 3, .inl gq1)), ((z 0), .inl (T 0, 700, .inl g0))]) [1, 0, 2] rfl) (hD.sub (ws' := [(a, .inr (11, OX z i1 x28101701 i3 i4 i5 i6 i7 i8 i30 i43 i45 i46 i47 i48 i49 i50 i51 i58 i59 i65 i68 i69 i72 i78 i80 i81 i82 i87 i92 i96 i100 i103 i104)), (q1, .inl (T 3, 3, .inl gq1)), ((z 0), .inl (T 0, 700, .inl g0))]) [1, 0, 2] (by decide +kernel) rfl)
