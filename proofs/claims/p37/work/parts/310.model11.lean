set_option maxHeartbeats 4000000 in
set_option maxRecDepth 100000 in
theorem h_X11_kind_25300021 (l : Launch) (D : va_G) (T : Nat → ClassId) (sq sv sz : Nat) (a : Nat) (z : Nat → Nat) (i1 i2 i3 i4 i5 i6 i7 i8 i30 i43 i45 i46 i47 i48 i49 i50 i51 i58 i59 i65 i68 i69 i72 i78 i80 i81 i82 i87 i92 i96 i100 i103 i104 : Int32) (p1 : Int32) (p2 : Int32) (g31 : Nat → Int32) (g33 : Nat → Int32) (g34 : Nat → Int32) (g35 : Nat → Int32) (g36 : Nat → Int32) (hbg31 : Bd (0) (8) g31) : Met l yX11_kind (.code yX11_kind cX11_kind 3 (some .int) :: TB) { frames := 1, cells := 0, slots := 0, locals := 25 } (PC2 D T sq sv [.ref a, .int p1, .int p2] [(a, .inr (11, OX z i1 i2 i3 i4 i5 i6 i7 i8 i30 i43 i45 i46 i47 i48 i49 i50 i51 i58 i59 i65 i68 i69 i72 i78 i80 i81 i82 i87 i92 i96 i100 i103 i104)), ((z 31), .inl (T 0, 2, .inl g31)), ((z 33), .inl (T 0, 16, .inl g33)), ((z 34), .inl (T 0, 16, .inl g34)), ((z 35), .inl (T 0, 16, .inl g35)), ((z 36), .inl (T 0, 16, .inl g36))] sz) (Qi (S := Unit) (fun (r : Int32) (_ : Unit) => True) (fun (_ : Unit) => [(a, .inr (11, OX z i1 i2 i3 i4 i5 i6 i7 i8 i30 i43 i45 i46 i47 i48 i49 i50 i51 i58 i59 i65 i68 i69 i72 i78 i80 i81 i82 i87 i92 i96 i100 i103 i104)), ((z 31), .inl (T 0, 2, .inl g31)), ((z 33), .inl (T 0, 16, .inl g33)), ((z 34), .inl (T 0, 16, .inl g34)), ((z 35), .inl (T 0, 16, .inl g35)), ((z 36), .inl (T 0, 16, .inl g36))]) D (va_A [(a, .inr (11, OX z i1 i2 i3 i4 i5 i6 i7 i8 i30 i43 i45 i46 i47 i48 i49 i50 i51 i58 i59 i65 i68 i69 i72 i78 i80 i81 i82 i87 i92 i96 i100 i103 i104)), ((z 31), .inl (T 0, 2, .inl g31)), ((z 33), .inl (T 0, 16, .inl g33)), ((z 34), .inl (T 0, 16, .inl g34)), ((z 35), .inl (T 0, 16, .inl g35)), ((z 36), .inl (T 0, 16, .inl g36))] sz)) 0 0 (va_A [(a, .inr (11, OX z i1 i2 i3 i4 i5 i6 i7 i8 i30 i43 i45 i46 i47 i48 i49 i50 i51 i58 i59 i65 i68 i69 i72 i78 i80 i81 i82 i87 i92 i96 i100 i103 i104)), ((z 31), .inl (T 0, 2, .inl g31)), ((z 33), .inl (T 0, 16, .inl g33)), ((z 34), .inl (T 0, 16, .inl g34)), ((z 35), .inl (T 0, 16, .inl g35)), ((z 36), .inl (T 0, 16, .inl g36))] sz) := by
  refine ct_begin2 (Qc := Qi (S := Unit) (fun (r : Int32) (_ : Unit) => True) (fun (_ : Unit) => [(a, .inr (11, OX z i1 i2 i3 i4 i5 i6 i7 i8 i30 i43 i45 i46 i47 i48 i49 i50 i51 i58 i59 i65 i68 i69 i72 i78 i80 i81 i82 i87 i92 i96 i100 i103 i104)), ((z 31), .inl (T 0, 2, .inl g31)), ((z 33), .inl (T 0, 16, .inl g33)), ((z 34), .inl (T 0, 16, .inl g34)), ((z 35), .inl (T 0, 16, .inl g35)), ((z 36), .inl (T 0, 16, .inl g36))]) D) (by decide +kernel) (Nat.le_of_ble_eq_true rfl) ?_
  intro p e s m below meth c A ls C0 hr hlocks hnm hE hStr hA hP hD hl
  generalize ([.ref a, .int p1, .int p2] : List Value).toArray = args at C0 ⊢
  have hx := C0.1
  have hb := C0.2.1
  have hml := C0.2.2.1
  have hown := C0.2.2.2.1
  have hT := C0.2.2.2.2
  have hK := hE.1
  generalize hH : s.heap = H at hP ⊢
  have hS : va_S A s.heap H [] := by rw [← hH]; exact va_S.rf
  have hP : va_P D vwCl [(a, .inr (11, OX z i1 i2 i3 i4 i5 i6 i7 i8 i30 i43 i45 i46 i47 i48 i49 i50 i51 i58 i59 i65 i68 i69 i72 i78 i80 i81 i82 i87 i92 i96 i100 i103 i104)), ((z 31), .inl (T 0, 2, .inl g31)), ((z 33), .inl (T 0, 16, .inl g33)), ((z 34), .inl (T 0, 16, .inl g34)), ((z 35), .inl (T 0, 16, .inl g35)), ((z 36), .inl (T 0, 16, .inl g36))] H := hP
  have hD : va_D A [(a, .inr (11, OX z i1 i2 i3 i4 i5 i6 i7 i8 i30 i43 i45 i46 i47 i48 i49 i50 i51 i58 i59 i65 i68 i69 i72 i78 i80 i81 i82 i87 i92 i96 i100 i103 i104)), ((z 31), .inl (T 0, 2, .inl g31)), ((z 33), .inl (T 0, 16, .inl g33)), ((z 34), .inl (T 0, 16, .inl g34)), ((z 35), .inl (T 0, 16, .inl g35)), ((z 36), .inl (T 0, 16, .inl g36))] := hD
  have hl : lv_has ls 3 [(0, .ref a), (1, .int p1), (2, .int p2)] := hl
  refine lv_iload_n hx hb dX11_kind_0 rfl (lv_at hl 1 rfl) ?_
  refine lv_i2l hx hb dX11_kind_1 rfl ?_
  refine lv_topl (fun x25300022 ex25300022 => ?_)
  have hx25300022 : x25300022.toInt = p1.toInt := by rw [ex25300022]; exact Int32.toInt_toInt64 _
  refine lv_lconst (v := 0) hx hb dX11_kind_2 (by decide) ?_
  refine lv_aload_n hx hb dX11_kind_3 rfl (lv_at hl 0 rfl) ?_
  refine r_get (v := .ref (z 31)) C0 hE ffX11_31 mw_821 hP 0 rfl ox_31 dX11_kind_4 ?_
  refine lv_iconst (v := 1) hx hb dX11_kind_7 (by decide) ?_
  refine va_iald hx hb hK hP 1 0 rfl rfl (vp_lit (by decide +kernel)) dX11_kind_8 ?_
  refine lv_topi (fun x25300023 ex25300023 => ?_)
  have hx25300023 : 0 ≤ x25300023.toInt ∧ x25300023.toInt ≤ 8 := by rw [ex25300023]; exact hbg31 _
  refine lv_iconst (v := 1) hx hb dX11_kind_9 (by decide) ?_
  refine lv_isub hx hb dX11_kind_10 ?_
  refine lv_topi (fun x25300024 ex25300024 => ?_)
  have hx25300024 : x25300024.toInt = x25300023.toInt - 1 := ti_sub ex25300024 rfl (by decide) (by omega) (by omega)
  refine lv_i2l hx hb dX11_kind_11 rfl ?_
  refine lv_topl (fun x25300025 ex25300025 => ?_)
  have hx25300025 : x25300025.toInt = x25300024.toInt := by rw [ex25300025]; exact Int32.toInt_toInt64 _
  refine r_calli (wr := [(a, .inr (11, OX z i1 i2 i3 i4 i5 i6 i7 i8 i30 i43 i45 i46 i47 i48 i49 i50 i51 i58 i59 i65 i68 i69 i72 i78 i80 i81 i82 i87 i92 i96 i100 i103 i104)), ((z 31), .inl (T 0, 2, .inl g31)), ((z 33), .inl (T 0, 16, .inl g33)), ((z 34), .inl (T 0, 16, .inl g34)), ((z 35), .inl (T 0, 16, .inl g35)), ((z 36), .inl (T 0, 16, .inl g36))]) (r_runS2 (As := [.long x25300022, .long 0, .long x25300025]) (rest := []) (wc := []) C0 hE hStr hS (va_free (wc := []) hD hS hA [] rfl) (h_X11_isIn_20000007 l D T sq sv H.size x25300022 0 x25300025) mw_910 mw_911 mw_14 mw_912 dn_1704 rfl rfl ⟨Nat.le_of_ble_eq_true rfl, Nat.le_of_ble_eq_true rfl⟩ (hP.sub (ws' := []) [] rfl) (hD.sub (ws' := []) [] (by decide +kernel) rfl) hl.1 rfl (Nat.le_of_ble_eq_true rfl) dX11_kind_12 ⟨Nat.le_of_ble_eq_true rfl, Nat.le_of_ble_eq_true rfl⟩) hP hD hS hA [] [0, 1, 2, 3, 4, 5] rfl rfl (by decide +kernel) (by decide +kernel) (fun x25300026 u H locs hq hP hD hS => ?_)
  obtain ⟨hp25300027, hx25300026⟩ := hq
  have hp25300027 : (x25300026.toInt = 0 ∧ (x25300022.toInt < 0 ∨ x25300025.toInt < x25300022.toInt)) ∨ (x25300026.toInt = 1 ∧ 0 ≤ x25300022.toInt ∧ x25300022.toInt ≤ x25300025.toInt) := hp25300027
  have hx25300026 : 0 ≤ x25300026.toInt ∧ x25300026.toInt ≤ 1 := hx25300026
  have hl25300028 : (0 : Int64).toInt = 0 := by decide
  have hP : va_P D vwCl [(a, .inr (11, OX z i1 i2 i3 i4 i5 i6 i7 i8 i30 i43 i45 i46 i47 i48 i49 i50 i51 i58 i59 i65 i68 i69 i72 i78 i80 i81 i82 i87 i92 i96 i100 i103 i104)), ((z 31), .inl (T 0, 2, .inl g31)), ((z 33), .inl (T 0, 16, .inl g33)), ((z 34), .inl (T 0, 16, .inl g34)), ((z 35), .inl (T 0, 16, .inl g35)), ((z 36), .inl (T 0, 16, .inl g36))] H := hP
  have hD : va_D A [(a, .inr (11, OX z i1 i2 i3 i4 i5 i6 i7 i8 i30 i43 i45 i46 i47 i48 i49 i50 i51 i58 i59 i65 i68 i69 i72 i78 i80 i81 i82 i87 i92 i96 i100 i103 i104)), ((z 31), .inl (T 0, 2, .inl g31)), ((z 33), .inl (T 0, 16, .inl g33)), ((z 34), .inl (T 0, 16, .inl g34)), ((z 35), .inl (T 0, 16, .inl g35)), ((z 36), .inl (T 0, 16, .inl g36))] := hD
  refine W.widen (k := 0) (n := 0) (Nat.le_refl _) (Nat.le_refl _) ?_
  refine lv_if_ne (tgt := 20) hx hb dX11_kind_15 (by decide) (fun c25300029 => ?_) (fun c25300029 => ?_)
  · skip
    have kc25300029 : x25300026.toInt ≠ 0 := ne_ti rfl (by decide) c25300029
    have nzx25300026 : ¬ x25300026 = 0 := c25300029
    refine lv_iload_n hx hb dX11_kind_20 rfl (lv_at hl 2 rfl) ?_
    have J25300043 : ∀ (x25300042 : Int32) (H : Heap) (locs : List Loc) (ls : Array Slot), va_P D vwCl [(a, .inr (11, OX z i1 i2 i3 i4 i5 i6 i7 i8 i30 i43 i45 i46 i47 i48 i49 i50 i51 i58 i59 i65 i68 i69 i72 i78 i80 i81 i82 i87 i92 i96 i100 i103 i104)), ((z 31), .inl (T 0, 2, .inl g31)), ((z 33), .inl (T 0, 16, .inl g33)), ((z 34), .inl (T 0, 16, .inl g34)), ((z 35), .inl (T 0, 16, .inl g35)), ((z 36), .inl (T 0, 16, .inl g36))] H → va_D A [(a, .inr (11, OX z i1 i2 i3 i4 i5 i6 i7 i8 i30 i43 i45 i46 i47 i48 i49 i50 i51 i58 i59 i65 i68 i69 i72 i78 i80 i81 i82 i87 i92 i96 i100 i103 i104)), ((z 31), .inl (T 0, 2, .inl g31)), ((z 33), .inl (T 0, 16, .inl g33)), ((z 34), .inl (T 0, 16, .inl g34)), ((z 35), .inl (T 0, 16, .inl g35)), ((z 36), .inl (T 0, 16, .inl g36))] → va_S A s.heap H locs → lv_has ls 3 [(0, .ref a), (1, .int p1), (2, .int p2)] → W p l e { frames := 1, cells := 0, slots := 0, locals := 25 } s m args below meth c H locs 0 0 (MQ below ((Qi (S := Unit) (fun (r : Int32) (_ : Unit) => True) (fun (_ : Unit) => [(a, .inr (11, OX z i1 i2 i3 i4 i5 i6 i7 i8 i30 i43 i45 i46 i47 i48 i49 i50 i51 i58 i59 i65 i68 i69 i72 i78 i80 i81 i82 i87 i92 i96 i100 i103 i104)), ((z 31), .inl (T 0, 2, .inl g31)), ((z 33), .inl (T 0, 16, .inl g33)), ((z 34), .inl (T 0, 16, .inl g34)), ((z 35), .inl (T 0, 16, .inl g35)), ((z 36), .inl (T 0, 16, .inl g36))]) D) A) args s 0 0 A) (F0 m 88 ls [.int x25300042]) := by
      intro x25300042 H locs ls hP hD hS hl
      exact r_iret () C0 hr hlocks hS (Nat.le_refl _) (Nat.le_refl _) dX11_kind_88 trivial (hP.sub (ws' := [(a, .inr (11, OX z i1 i2 i3 i4 i5 i6 i7 i8 i30 i43 i45 i46 i47 i48 i49 i50 i51 i58 i59 i65 i68 i69 i72 i78 i80 i81 i82 i87 i92 i96 i100 i103 i104)), ((z 31), .inl (T 0, 2, .inl g31)), ((z 33), .inl (T 0, 16, .inl g33)), ((z 34), .inl (T 0, 16, .inl g34)), ((z 35), .inl (T 0, 16, .inl g35)), ((z 36), .inl (T 0, 16, .inl g36))]) [0, 1, 2, 3, 4, 5] rfl) (hD.sub (ws' := [(a, .inr (11, OX z i1 i2 i3 i4 i5 i6 i7 i8 i30 i43 i45 i46 i47 i48 i49 i50 i51 i58 i59 i65 i68 i69 i72 i78 i80 i81 i82 i87 i92 i96 i100 i103 i104)), ((z 31), .inl (T 0, 2, .inl g31)), ((z 33), .inl (T 0, 16, .inl g33)), ((z 34), .inl (T 0, 16, .inl g34)), ((z 35), .inl (T 0, 16, .inl g35)), ((z 36), .inl (T 0, 16, .inl g36))]) [0, 1, 2, 3, 4, 5] (by decide +kernel) rfl)
    refine lv_if_ne (tgt := 36) hx hb dX11_kind_21 (by decide) (fun c25300030 => ?_) (fun c25300030 => ?_)
    · skip
      have kc25300030 : p2.toInt ≠ 0 := ne_ti rfl (by decide) c25300030
      have nzp2 : ¬ p2 = 0 := c25300030
      refine lv_iload_n hx hb dX11_kind_36 rfl (lv_at hl 2 rfl) ?_
      refine lv_iconst (v := 1) hx hb dX11_kind_37 (by decide) ?_
      refine lv_icmp_ne (tgt := 53) hx hb dX11_kind_38 (by decide) (fun c25300044 => ?_) (fun c25300044 => ?_)
      · skip
        have kc25300044 : p2.toInt ≠ 1 := ne_ti rfl (by decide) c25300044
        refine lv_iload_n hx hb dX11_kind_53 rfl (lv_at hl 2 rfl) ?_
        refine lv_iconst (v := 2) hx hb dX11_kind_54 (by decide) ?_
        refine lv_icmp_ne (tgt := 70) hx hb dX11_kind_55 (by decide) (fun c25300045 => ?_) (fun c25300045 => ?_)
        · skip
          have kc25300045 : p2.toInt ≠ 2 := ne_ti rfl (by decide) c25300045
          refine lv_iload_n hx hb dX11_kind_70 rfl (lv_at hl 2 rfl) ?_
          refine lv_iconst (v := 3) hx hb dX11_kind_71 (by decide) ?_
          refine lv_icmp_ne (tgt := 87) hx hb dX11_kind_72 (by decide) (fun c25300046 => ?_) (fun c25300046 => ?_)
          · skip
            have kc25300046 : p2.toInt ≠ 3 := ne_ti rfl (by decide) c25300046
            refine lv_iconst (v := (-1)) hx hb dX11_kind_87 (by decide) ?_
            exact J25300043 (-1) _ _ ls (hP.sub (ws' := [(a, .inr (11, OX z i1 i2 i3 i4 i5 i6 i7 i8 i30 i43 i45 i46 i47 i48 i49 i50 i51 i58 i59 i65 i68 i69 i72 i78 i80 i81 i82 i87 i92 i96 i100 i103 i104)), ((z 31), .inl (T 0, 2, .inl g31)), ((z 33), .inl (T 0, 16, .inl g33)), ((z 34), .inl (T 0, 16, .inl g34)), ((z 35), .inl (T 0, 16, .inl g35)), ((z 36), .inl (T 0, 16, .inl g36))]) [0, 1, 2, 3, 4, 5] rfl) (hD.sub (ws' := [(a, .inr (11, OX z i1 i2 i3 i4 i5 i6 i7 i8 i30 i43 i45 i46 i47 i48 i49 i50 i51 i58 i59 i65 i68 i69 i72 i78 i80 i81 i82 i87 i92 i96 i100 i103 i104)), ((z 31), .inl (T 0, 2, .inl g31)), ((z 33), .inl (T 0, 16, .inl g33)), ((z 34), .inl (T 0, 16, .inl g34)), ((z 35), .inl (T 0, 16, .inl g35)), ((z 36), .inl (T 0, 16, .inl g36))]) [0, 1, 2, 3, 4, 5] (by decide +kernel) rfl) hS (lv_sub hl [0, 1, 2] rfl)
          · skip
            have kc25300046 : p2.toInt = 3 := eq_ti rfl (by decide) c25300046
            refine lv_aload_n hx hb dX11_kind_75 rfl (lv_at hl 0 rfl) ?_
            refine r_get (v := .ref (z 36)) C0 hE ffX11_36 mw_826 hP 0 rfl ox_36 dX11_kind_76 ?_
            refine lv_bipush (v := 8) hx hb dX11_kind_79 (by decide) ?_
            refine lv_iload_n hx hb dX11_kind_81 rfl (lv_at hl 1 rfl) ?_
            refine lv_iadd hx hb dX11_kind_82 ?_
            refine lv_topi (fun x25300047 ex25300047 => ?_)
            have hx25300047 : x25300047.toInt = 8 + p1.toInt := ti_add ex25300047 (by decide) rfl (by omega) (by omega)
            refine va_iald hx hb hK hP 5 0 rfl rfl (in_ti rfl (by omega) (by omega)) dX11_kind_83 ?_
            refine lv_topi (fun x25300048 ex25300048 => ?_)
            refine lv_goto (tgt := 88) hx hb dX11_kind_84 (by decide) ?_
            exact J25300043 x25300048 _ _ ls (hP.sub (ws' := [(a, .inr (11, OX z i1 i2 i3 i4 i5 i6 i7 i8 i30 i43 i45 i46 i47 i48 i49 i50 i51 i58 i59 i65 i68 i69 i72 i78 i80 i81 i82 i87 i92 i96 i100 i103 i104)), ((z 31), .inl (T 0, 2, .inl g31)), ((z 33), .inl (T 0, 16, .inl g33)), ((z 34), .inl (T 0, 16, .inl g34)), ((z 35), .inl (T 0, 16, .inl g35)), ((z 36), .inl (T 0, 16, .inl g36))]) [0, 1, 2, 3, 4, 5] rfl) (hD.sub (ws' := [(a, .inr (11, OX z i1 i2 i3 i4 i5 i6 i7 i8 i30 i43 i45 i46 i47 i48 i49 i50 i51 i58 i59 i65 i68 i69 i72 i78 i80 i81 i82 i87 i92 i96 i100 i103 i104)), ((z 31), .inl (T 0, 2, .inl g31)), ((z 33), .inl (T 0, 16, .inl g33)), ((z 34), .inl (T 0, 16, .inl g34)), ((z 35), .inl (T 0, 16, .inl g35)), ((z 36), .inl (T 0, 16, .inl g36))]) [0, 1, 2, 3, 4, 5] (by decide +kernel) rfl) hS (lv_sub hl [0, 1, 2] rfl)
        · skip
          have kc25300045 : p2.toInt = 2 := eq_ti rfl (by decide) c25300045
          refine lv_aload_n hx hb dX11_kind_58 rfl (lv_at hl 0 rfl) ?_
          refine r_get (v := .ref (z 35)) C0 hE ffX11_35 mw_825 hP 0 rfl ox_35 dX11_kind_59 ?_
          refine lv_bipush (v := 8) hx hb dX11_kind_62 (by decide) ?_
          refine lv_iload_n hx hb dX11_kind_64 rfl (lv_at hl 1 rfl) ?_
          refine lv_iadd hx hb dX11_kind_65 ?_
          refine lv_topi (fun x25300049 ex25300049 => ?_)
          have hx25300049 : x25300049.toInt = 8 + p1.toInt := ti_add ex25300049 (by decide) rfl (by omega) (by omega)
          refine va_iald hx hb hK hP 4 0 rfl rfl (in_ti rfl (by omega) (by omega)) dX11_kind_66 ?_
          refine lv_topi (fun x25300050 ex25300050 => ?_)
          refine lv_goto (tgt := 88) hx hb dX11_kind_67 (by decide) ?_
          exact J25300043 x25300050 _ _ ls (hP.sub (ws' := [(a, .inr (11, OX z i1 i2 i3 i4 i5 i6 i7 i8 i30 i43 i45 i46 i47 i48 i49 i50 i51 i58 i59 i65 i68 i69 i72 i78 i80 i81 i82 i87 i92 i96 i100 i103 i104)), ((z 31), .inl (T 0, 2, .inl g31)), ((z 33), .inl (T 0, 16, .inl g33)), ((z 34), .inl (T 0, 16, .inl g34)), ((z 35), .inl (T 0, 16, .inl g35)), ((z 36), .inl (T 0, 16, .inl g36))]) [0, 1, 2, 3, 4, 5] rfl) (hD.sub (ws' := [(a, .inr (11, OX z i1 i2 i3 i4 i5 i6 i7 i8 i30 i43 i45 i46 i47 i48 i49 i50 i51 i58 i59 i65 i68 i69 i72 i78 i80 i81 i82 i87 i92 i96 i100 i103 i104)), ((z 31), .inl (T 0, 2, .inl g31)), ((z 33), .inl (T 0, 16, .inl g33)), ((z 34), .inl (T 0, 16, .inl g34)), ((z 35), .inl (T 0, 16, .inl g35)), ((z 36), .inl (T 0, 16, .inl g36))]) [0, 1, 2, 3, 4, 5] (by decide +kernel) rfl) hS (lv_sub hl [0, 1, 2] rfl)
      · skip
        have kc25300044 : p2.toInt = 1 := eq_ti rfl (by decide) c25300044
        refine lv_aload_n hx hb dX11_kind_41 rfl (lv_at hl 0 rfl) ?_
        refine r_get (v := .ref (z 34)) C0 hE ffX11_34 mw_824 hP 0 rfl ox_34 dX11_kind_42 ?_
        refine lv_bipush (v := 8) hx hb dX11_kind_45 (by decide) ?_
        refine lv_iload_n hx hb dX11_kind_47 rfl (lv_at hl 1 rfl) ?_
        refine lv_iadd hx hb dX11_kind_48 ?_
        refine lv_topi (fun x25300051 ex25300051 => ?_)
        have hx25300051 : x25300051.toInt = 8 + p1.toInt := ti_add ex25300051 (by decide) rfl (by omega) (by omega)
        refine va_iald hx hb hK hP 3 0 rfl rfl (in_ti rfl (by omega) (by omega)) dX11_kind_49 ?_
        refine lv_topi (fun x25300052 ex25300052 => ?_)
        refine lv_goto (tgt := 88) hx hb dX11_kind_50 (by decide) ?_
        exact J25300043 x25300052 _ _ ls (hP.sub (ws' := [(a, .inr (11, OX z i1 i2 i3 i4 i5 i6 i7 i8 i30 i43 i45 i46 i47 i48 i49 i50 i51 i58 i59 i65 i68 i69 i72 i78 i80 i81 i82 i87 i92 i96 i100 i103 i104)), ((z 31), .inl (T 0, 2, .inl g31)), ((z 33), .inl (T 0, 16, .inl g33)), ((z 34), .inl (T 0, 16, .inl g34)), ((z 35), .inl (T 0, 16, .inl g35)), ((z 36), .inl (T 0, 16, .inl g36))]) [0, 1, 2, 3, 4, 5] rfl) (hD.sub (ws' := [(a, .inr (11, OX z i1 i2 i3 i4 i5 i6 i7 i8 i30 i43 i45 i46 i47 i48 i49 i50 i51 i58 i59 i65 i68 i69 i72 i78 i80 i81 i82 i87 i92 i96 i100 i103 i104)), ((z 31), .inl (T 0, 2, .inl g31)), ((z 33), .inl (T 0, 16, .inl g33)), ((z 34), .inl (T 0, 16, .inl g34)), ((z 35), .inl (T 0, 16, .inl g35)), ((z 36), .inl (T 0, 16, .inl g36))]) [0, 1, 2, 3, 4, 5] (by decide +kernel) rfl) hS (lv_sub hl [0, 1, 2] rfl)
    · skip
      have kc25300030 : p2.toInt = 0 := eq_ti rfl (by decide) c25300030
      refine lv_aload_n hx hb dX11_kind_24 rfl (lv_at hl 0 rfl) ?_
      refine r_get (v := .ref (z 33)) C0 hE ffX11_33 mw_823 hP 0 rfl ox_33 dX11_kind_25 ?_
      refine lv_bipush (v := 8) hx hb dX11_kind_28 (by decide) ?_
      refine lv_iload_n hx hb dX11_kind_30 rfl (lv_at hl 1 rfl) ?_
      refine lv_iadd hx hb dX11_kind_31 ?_
      refine lv_topi (fun x25300053 ex25300053 => ?_)
      have hx25300053 : x25300053.toInt = 8 + p1.toInt := ti_add ex25300053 (by decide) rfl (by omega) (by omega)
      refine va_iald hx hb hK hP 2 0 rfl rfl (in_ti rfl (by omega) (by omega)) dX11_kind_32 ?_
      refine lv_topi (fun x25300054 ex25300054 => ?_)
      refine lv_goto (tgt := 88) hx hb dX11_kind_33 (by decide) ?_
      exact J25300043 x25300054 _ _ ls (hP.sub (ws' := [(a, .inr (11, OX z i1 i2 i3 i4 i5 i6 i7 i8 i30 i43 i45 i46 i47 i48 i49 i50 i51 i58 i59 i65 i68 i69 i72 i78 i80 i81 i82 i87 i92 i96 i100 i103 i104)), ((z 31), .inl (T 0, 2, .inl g31)), ((z 33), .inl (T 0, 16, .inl g33)), ((z 34), .inl (T 0, 16, .inl g34)), ((z 35), .inl (T 0, 16, .inl g35)), ((z 36), .inl (T 0, 16, .inl g36))]) [0, 1, 2, 3, 4, 5] rfl) (hD.sub (ws' := [(a, .inr (11, OX z i1 i2 i3 i4 i5 i6 i7 i8 i30 i43 i45 i46 i47 i48 i49 i50 i51 i58 i59 i65 i68 i69 i72 i78 i80 i81 i82 i87 i92 i96 i100 i103 i104)), ((z 31), .inl (T 0, 2, .inl g31)), ((z 33), .inl (T 0, 16, .inl g33)), ((z 34), .inl (T 0, 16, .inl g34)), ((z 35), .inl (T 0, 16, .inl g35)), ((z 36), .inl (T 0, 16, .inl g36))]) [0, 1, 2, 3, 4, 5] (by decide +kernel) rfl) hS (lv_sub hl [0, 1, 2] rfl)
  · skip
    have kc25300029 : x25300026.toInt = 0 := eq_ti rfl (by decide) c25300029
    refine lv_iconst (v := (-1)) hx hb dX11_kind_18 (by decide) ?_
    exact r_iret () C0 hr hlocks hS (Nat.le_refl _) (Nat.le_refl _) dX11_kind_19 trivial (hP.sub (ws' := [(a, .inr (11, OX z i1 i2 i3 i4 i5 i6 i7 i8 i30 i43 i45 i46 i47 i48 i49 i50 i51 i58 i59 i65 i68 i69 i72 i78 i80 i81 i82 i87 i92 i96 i100 i103 i104)), ((z 31), .inl (T 0, 2, .inl g31)), ((z 33), .inl (T 0, 16, .inl g33)), ((z 34), .inl (T 0, 16, .inl g34)), ((z 35), .inl (T 0, 16, .inl g35)), ((z 36), .inl (T 0, 16, .inl g36))]) [0, 1, 2, 3, 4, 5] rfl) (hD.sub (ws' := [(a, .inr (11, OX z i1 i2 i3 i4 i5 i6 i7 i8 i30 i43 i45 i46 i47 i48 i49 i50 i51 i58 i59 i65 i68 i69 i72 i78 i80 i81 i82 i87 i92 i96 i100 i103 i104)), ((z 31), .inl (T 0, 2, .inl g31)), ((z 33), .inl (T 0, 16, .inl g33)), ((z 34), .inl (T 0, 16, .inl g34)), ((z 35), .inl (T 0, 16, .inl g35)), ((z 36), .inl (T 0, 16, .inl g36))]) [0, 1, 2, 3, 4, 5] (by decide +kernel) rfl)
