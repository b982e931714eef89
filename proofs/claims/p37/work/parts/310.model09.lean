set_option maxHeartbeats 4000000 in
set_option maxRecDepth 100000 in
theorem h_X11_clear_24300001 (l : Launch) (D : va_G) (T : Nat → ClassId) (sq sv sz : Nat) (a : Nat) (z : Nat → Nat) (i1 i2 i3 i4 i5 i6 i7 i8 i30 i43 i45 i46 i47 i48 i49 i50 i51 i58 i59 i65 i68 i69 i72 i78 i80 i81 i82 i87 i92 i96 i100 i103 i104 : Int32) (hi96 : 0 ≤ i96.toInt ∧ i96.toInt ≤ 12) (hi100 : 0 ≤ i100.toInt ∧ i100.toInt ≤ 8) : Met l yX11_clear (.code yX11_clear cX11_clear 2 (some .int) :: TB) { frames := 0, cells := 0, slots := 0, locals := 0 } (PC2 D T sq sv [.ref a] [(a, .inr (11, OX z i1 i2 i3 i4 i5 i6 i7 i8 i30 i43 i45 i46 i47 i48 i49 i50 i51 i58 i59 i65 i68 i69 i72 i78 i80 i81 i82 i87 i92 i96 i100 i103 i104))] sz) (Qi (S := Int32 × Int32) (fun (r : Int32) (u : Int32 × Int32) => match u with | (ui96, ui100) => (0 ≤ ui96.toInt ∧ ui96.toInt ≤ 12) ∧ (0 ≤ ui100.toInt ∧ ui100.toInt ≤ 8) ∧ (r.toInt = i96.toInt ∧ ui96.toInt = 0 ∧ ui100.toInt = 0) ∧ (0 ≤ r.toInt ∧ r.toInt ≤ 12)) (fun (u : Int32 × Int32) => match u with | (ui96, ui100) => [(a, .inr (11, OX z i1 i2 i3 i4 i5 i6 i7 i8 i30 i43 i45 i46 i47 i48 i49 i50 i51 i58 i59 i65 i68 i69 i72 i78 i80 i81 i82 i87 i92 ui96 ui100 i103 i104))]) D (va_A [(a, .inr (11, OX z i1 i2 i3 i4 i5 i6 i7 i8 i30 i43 i45 i46 i47 i48 i49 i50 i51 i58 i59 i65 i68 i69 i72 i78 i80 i81 i82 i87 i92 i96 i100 i103 i104))] sz)) 0 0 (va_A [(a, .inr (11, OX z i1 i2 i3 i4 i5 i6 i7 i8 i30 i43 i45 i46 i47 i48 i49 i50 i51 i58 i59 i65 i68 i69 i72 i78 i80 i81 i82 i87 i92 i96 i100 i103 i104))] sz) := by
  refine ct_begin2 (Qc := Qi (S := Int32 × Int32) (fun (r : Int32) (u : Int32 × Int32) => match u with | (ui96, ui100) => (0 ≤ ui96.toInt ∧ ui96.toInt ≤ 12) ∧ (0 ≤ ui100.toInt ∧ ui100.toInt ≤ 8) ∧ (r.toInt = i96.toInt ∧ ui96.toInt = 0 ∧ ui100.toInt = 0) ∧ (0 ≤ r.toInt ∧ r.toInt ≤ 12)) (fun (u : Int32 × Int32) => match u with | (ui96, ui100) => [(a, .inr (11, OX z i1 i2 i3 i4 i5 i6 i7 i8 i30 i43 i45 i46 i47 i48 i49 i50 i51 i58 i59 i65 i68 i69 i72 i78 i80 i81 i82 i87 i92 ui96 ui100 i103 i104))]) D) (by decide +kernel) (Nat.le_of_ble_eq_true rfl) ?_
  intro p e s m below meth c A ls C0 hr hlocks hnm hE hStr hA hP hD hl
  generalize ([.ref a] : List Value).toArray = args at C0 ⊢
  have hx := C0.1
  have hb := C0.2.1
  have hml := C0.2.2.1
  have hown := C0.2.2.2.1
  have hT := C0.2.2.2.2
  have hK := hE.1
  generalize hH : s.heap = H at hP ⊢
  have hS : va_S A s.heap H [] := by rw [← hH]; exact va_S.rf
  have hP : va_P D vwCl [(a, .inr (11, OX z i1 i2 i3 i4 i5 i6 i7 i8 i30 i43 i45 i46 i47 i48 i49 i50 i51 i58 i59 i65 i68 i69 i72 i78 i80 i81 i82 i87 i92 i96 i100 i103 i104))] H := hP
  have hD : va_D A [(a, .inr (11, OX z i1 i2 i3 i4 i5 i6 i7 i8 i30 i43 i45 i46 i47 i48 i49 i50 i51 i58 i59 i65 i68 i69 i72 i78 i80 i81 i82 i87 i92 i96 i100 i103 i104))] := hD
  have hl : lv_has ls 2 [(0, .ref a)] := hl
  refine lv_aload_n hx hb dX11_clear_0 rfl (lv_at hl 0 rfl) ?_
  refine r_get (v := .int i96) C0 hE ffX11_96 mw_886 hP 0 rfl ox_96 dX11_clear_1 ?_
  refine lv_istore_n (lv' := [(1, .int i96), (0, .ref a)]) hx hb dX11_clear_4 rfl hl (by decide) rfl (fun ls hl => ?_)
  refine lv_aload_n hx hb dX11_clear_5 rfl (lv_at hl 1 rfl) ?_
  refine lv_iconst (v := 0) hx hb dX11_clear_6 (by decide) ?_
  refine r_put (v := .int 0) (ty := .int) (ws1 := [(a, .inr (11, OX z i1 i2 i3 i4 i5 i6 i7 i8 i30 i43 i45 i46 i47 i48 i49 i50 i51 i58 i59 i65 i68 i69 i72 i78 i80 i81 i82 i87 i92 0 i100 i103 i104))]) C0 hE ffX11_96 tyX11 tyX11_ok nmX11 mw_886 pf_1358 hP hD hS 0 rfl rfl rfl ol_96 os_96 rfl dX11_clear_7 (fun H locs hP hD hS => ?_)
  refine lv_aload_n hx hb dX11_clear_10 rfl (lv_at hl 1 rfl) ?_
  refine lv_iconst (v := 0) hx hb dX11_clear_11 (by decide) ?_
  refine r_put (v := .int 0) (ty := .int) (ws1 := [(a, .inr (11, OX z i1 i2 i3 i4 i5 i6 i7 i8 i30 i43 i45 i46 i47 i48 i49 i50 i51 i58 i59 i65 i68 i69 i72 i78 i80 i81 i82 i87 i92 0 0 i103 i104))]) C0 hE ffX11_100 tyX11 tyX11_ok nmX11 mw_890 pf_1358 hP hD hS 0 rfl rfl rfl ol_100 os_100 rfl dX11_clear_12 (fun H locs hP hD hS => ?_)
  refine lv_iload_n hx hb dX11_clear_15 rfl (lv_at hl 0 rfl) ?_
  have hl24300002 : (0 : Int32).toInt = 0 := by decide
  exact r_iret (0, 0) C0 hr hlocks hS (Nat.le_refl _) (Nat.le_refl _) dX11_clear_16 ⟨⟨by decide, by decide⟩, ⟨by decide, by decide⟩, (by omega), ⟨by omega, by omega⟩⟩ (hP.sub (ws' := [(a, .inr (11, OX z i1 i2 i3 i4 i5 i6 i7 i8 i30 i43 i45 i46 i47 i48 i49 i50 i51 i58 i59 i65 i68 i69 i72 i78 i80 i81 i82 i87 i92 0 0 i103 i104))]) [0] rfl) (hD.sub (ws' := [(a, .inr (11, OX z i1 i2 i3 i4 i5 i6 i7 i8 i30 i43 i45 i46 i47 i48 i49 i50 i51 i58 i59 i65 i68 i69 i72 i78 i80 i81 i82 i87 i92 0 0 i103 i104))]) [0] (by decide +kernel) rfl)
set_option maxHeartbeats 4000000 in
set_option maxRecDepth 100000 in
theorem h_X11_holdsForce_24400376 (l : Launch) (D : va_G) (T : Nat → ClassId) (sq sv sz : Nat) (a : Nat) (z : Nat → Nat) (i1 i2 i3 i4 i5 i6 i7 i8 i30 i43 i45 i46 i47 i48 i49 i50 i51 i58 i59 i65 i68 i69 i72 i78 i80 i81 i82 i87 i92 i96 i100 i103 i104 : Int32) (p1 : Int32) (p2 : Int32) (p3 : Int32) (g97 : Nat → Int32) (g98 : Nat → Int32) (g101 : Nat → Int32) (g102 : Nat → Int32) (hi96 : 0 ≤ i96.toInt ∧ i96.toInt ≤ 12) (hp2 : 0 ≤ p2.toInt ∧ p2.toInt ≤ 7) : Met l yX11_holdsForce (.code yX11_holdsForce cX11_holdsForce 8 (some .boolean) :: TB) { frames := 1, cells := 0, slots := 0, locals := 25 } (PC2 D T sq sv [.ref a, .int p1, .int p2, .int p3] [(a, .inr (11, OX z i1 i2 i3 i4 i5 i6 i7 i8 i30 i43 i45 i46 i47 i48 i49 i50 i51 i58 i59 i65 i68 i69 i72 i78 i80 i81 i82 i87 i92 i96 i100 i103 i104)), ((z 97), .inl (T 0, 12, .inl g97)), ((z 98), .inl (T 0, 12, .inl g98)), ((z 101), .inl (T 0, 8, .inl g101)), ((z 102), .inl (T 0, 8, .inl g102))] sz) (Qi (S := Unit) (fun (r : Int32) (_ : Unit) => (0 ≤ r.toInt ∧ r.toInt ≤ 1)) (fun (_ : Unit) => [(a, .inr (11, OX z i1 i2 i3 i4 i5 i6 i7 i8 i30 i43 i45 i46 i47 i48 i49 i50 i51 i58 i59 i65 i68 i69 i72 i78 i80 i81 i82 i87 i92 i96 i100 i103 i104)), ((z 97), .inl (T 0, 12, .inl g97)), ((z 98), .inl (T 0, 12, .inl g98)), ((z 101), .inl (T 0, 8, .inl g101)), ((z 102), .inl (T 0, 8, .inl g102))]) D (va_A [(a, .inr (11, OX z i1 i2 i3 i4 i5 i6 i7 i8 i30 i43 i45 i46 i47 i48 i49 i50 i51 i58 i59 i65 i68 i69 i72 i78 i80 i81 i82 i87 i92 i96 i100 i103 i104)), ((z 97), .inl (T 0, 12, .inl g97)), ((z 98), .inl (T 0, 12, .inl g98)), ((z 101), .inl (T 0, 8, .inl g101)), ((z 102), .inl (T 0, 8, .inl g102))] sz)) 0 0 (va_A [(a, .inr (11, OX z i1 i2 i3 i4 i5 i6 i7 i8 i30 i43 i45 i46 i47 i48 i49 i50 i51 i58 i59 i65 i68 i69 i72 i78 i80 i81 i82 i87 i92 i96 i100 i103 i104)), ((z 97), .inl (T 0, 12, .inl g97)), ((z 98), .inl (T 0, 12, .inl g98)), ((z 101), .inl (T 0, 8, .inl g101)), ((z 102), .inl (T 0, 8, .inl g102))] sz) := by
  refine ct_begin2 (Qc := Qi (S := Unit) (fun (r : Int32) (_ : Unit) => (0 ≤ r.toInt ∧ r.toInt ≤ 1)) (fun (_ : Unit) => [(a, .inr (11, OX z i1 i2 i3 i4 i5 i6 i7 i8 i30 i43 i45 i46 i47 i48 i49 i50 i51 i58 i59 i65 i68 i69 i72 i78 i80 i81 i82 i87 i92 i96 i100 i103 i104)), ((z 97), .inl (T 0, 12, .inl g97)), ((z 98), .inl (T 0, 12, .inl g98)), ((z 101), .inl (T 0, 8, .inl g101)), ((z 102), .inl (T 0, 8, .inl g102))]) D) (by decide +kernel) (Nat.le_of_ble_eq_true rfl) ?_
  intro p e s m below meth c A ls C0 hr hlocks hnm hE hStr hA hP hD hl
  generalize ([.ref a, .int p1, .int p2, .int p3] : List Value).toArray = args at C0 ⊢
  have hx := C0.1
  have hb := C0.2.1
  have hml := C0.2.2.1
  have hown := C0.2.2.2.1
  have hT := C0.2.2.2.2
  have hK := hE.1
  generalize hH : s.heap = H at hP ⊢
  have hS : va_S A s.heap H [] := by rw [← hH]; exact va_S.rf
  have hP : va_P D vwCl [(a, .inr (11, OX z i1 i2 i3 i4 i5 i6 i7 i8 i30 i43 i45 i46 i47 i48 i49 i50 i51 i58 i59 i65 i68 i69 i72 i78 i80 i81 i82 i87 i92 i96 i100 i103 i104)), ((z 97), .inl (T 0, 12, .inl g97)), ((z 98), .inl (T 0, 12, .inl g98)), ((z 101), .inl (T 0, 8, .inl g101)), ((z 102), .inl (T 0, 8, .inl g102))] H := hP
  have hD : va_D A [(a, .inr (11, OX z i1 i2 i3 i4 i5 i6 i7 i8 i30 i43 i45 i46 i47 i48 i49 i50 i51 i58 i59 i65 i68 i69 i72 i78 i80 i81 i82 i87 i92 i96 i100 i103 i104)), ((z 97), .inl (T 0, 12, .inl g97)), ((z 98), .inl (T 0, 12, .inl g98)), ((z 101), .inl (T 0, 8, .inl g101)), ((z 102), .inl (T 0, 8, .inl g102))] := hD
  have hl : lv_has ls 8 [(0, .ref a), (1, .int p1), (2, .int p2), (3, .int p3)] := hl
  refine lv_iconst (v := 0) hx hb dX11_holdsForce_0 (by decide) ?_
  refine lv_istore (lv' := [(4, .int 0), (0, .ref a), (1, .int p1), (2, .int p2), (3, .int p3)]) hx hb dX11_holdsForce_1 hl (by decide) rfl (fun ls hl => ?_)
  refine lv_iconst (v := 0) hx hb dX11_holdsForce_3 (by decide) ?_
  refine lv_istore (lv' := [(5, .int 0), (4, .int 0), (0, .ref a), (1, .int p1), (2, .int p2), (3, .int p3)]) hx hb dX11_holdsForce_4 hl (by decide) rfl (fun ls hl => ?_)
  refine lv_iconst (v := 0) hx hb dX11_holdsForce_6 (by decide) ?_
  refine lv_istore (lv' := [(6, .int 0), (5, .int 0), (4, .int 0), (0, .ref a), (1, .int p1), (2, .int p2), (3, .int p3)]) hx hb dX11_holdsForce_7 hl (by decide) rfl (fun ls hl => ?_)
  have L24400724 : ∀ (n : Nat) (x24400697 : Int32) (x24400698 : Int32) (x24400699 : Int32) (H : Heap) (locs : List Loc) (ls : Array Slot), (0 ≤ x24400697.toInt ∧ x24400697.toInt ≤ 12) → (13 - x24400697.toInt).toNat < n → va_P D vwCl [(a, .inr (11, OX z i1 i2 i3 i4 i5 i6 i7 i8 i30 i43 i45 i46 i47 i48 i49 i50 i51 i58 i59 i65 i68 i69 i72 i78 i80 i81 i82 i87 i92 i96 i100 i103 i104)), ((z 97), .inl (T 0, 12, .inl g97)), ((z 98), .inl (T 0, 12, .inl g98)), ((z 101), .inl (T 0, 8, .inl g101)), ((z 102), .inl (T 0, 8, .inl g102))] H → va_D A [(a, .inr (11, OX z i1 i2 i3 i4 i5 i6 i7 i8 i30 i43 i45 i46 i47 i48 i49 i50 i51 i58 i59 i65 i68 i69 i72 i78 i80 i81 i82 i87 i92 i96 i100 i103 i104)), ((z 97), .inl (T 0, 12, .inl g97)), ((z 98), .inl (T 0, 12, .inl g98)), ((z 101), .inl (T 0, 8, .inl g101)), ((z 102), .inl (T 0, 8, .inl g102))] → va_S A s.heap H locs → lv_has ls 8 [(6, .int x24400697), (5, .int x24400698), (4, .int x24400699), (0, .ref a), (1, .int p1), (2, .int p2), (3, .int p3)] → W p l e { frames := 1, cells := 0, slots := 0, locals := 25 } s m args below meth c H locs 0 0 (MQ below ((Qi (S := Unit) (fun (r : Int32) (_ : Unit) => (0 ≤ r.toInt ∧ r.toInt ≤ 1)) (fun (_ : Unit) => [(a, .inr (11, OX z i1 i2 i3 i4 i5 i6 i7 i8 i30 i43 i45 i46 i47 i48 i49 i50 i51 i58 i59 i65 i68 i69 i72 i78 i80 i81 i82 i87 i92 i96 i100 i103 i104)), ((z 97), .inl (T 0, 12, .inl g97)), ((z 98), .inl (T 0, 12, .inl g98)), ((z 101), .inl (T 0, 8, .inl g101)), ((z 102), .inl (T 0, 8, .inl g102))]) D) A) args s 0 0 A) (F0 m 9 ls []) := by
    intro n
    induction n with
    | zero =>
      intro x24400697 x24400698 x24400699 H locs ls hx24400697 hms hP hD hS hl
      exact absurd hms (Nat.not_lt_zero _)
    | succ n ih24400725 =>
      intro x24400697 x24400698 x24400699 H locs ls hx24400697 hms hP hD hS hl
      refine lv_iload hx hb dX11_holdsForce_9 (lv_at hl 0 rfl) ?_
      refine lv_aload_n hx hb dX11_holdsForce_11 rfl (lv_at hl 3 rfl) ?_
      refine r_get (v := .int i96) C0 hE ffX11_96 mw_886 hP 0 rfl ox_96 dX11_holdsForce_12 ?_
      refine lv_icmp_ge (tgt := 99) hx hb dX11_holdsForce_15 (by decide) (fun c24400726 => ?_) (fun c24400726 => ?_)
      · skip
        have kc24400726 : i96.toInt ≤ x24400697.toInt := le_ti rfl rfl c24400726
        refine lv_iload hx hb dX11_holdsForce_99 (lv_at hl 2 rfl) ?_
        refine lv_iload hx hb dX11_holdsForce_101 (lv_at hl 1 rfl) ?_
        refine lv_isub hx hb dX11_holdsForce_103 ?_
        refine lv_topi (fun x24400750 ex24400750 => ?_)
        refine lv_aload_n hx hb dX11_holdsForce_104 rfl (lv_at hl 3 rfl) ?_
        refine r_get (v := .ref (z 102)) C0 hE ffX11_102 mw_892 hP 0 rfl ox_102 dX11_holdsForce_105 ?_
        refine lv_iload_n hx hb dX11_holdsForce_108 rfl (lv_at hl 5 rfl) ?_
        refine va_iald hx hb hK hP 4 0 rfl rfl (in_ti rfl (by omega) (by omega)) dX11_holdsForce_109 ?_
        refine lv_topi (fun x24400751 ex24400751 => ?_)
        have J24400754 : ∀ (x24400753 : Int32) (H : Heap) (locs : List Loc) (ls : Array Slot), (0 ≤ x24400753.toInt ∧ x24400753.toInt ≤ 1) → va_P D vwCl [(a, .inr (11, OX z i1 i2 i3 i4 i5 i6 i7 i8 i30 i43 i45 i46 i47 i48 i49 i50 i51 i58 i59 i65 i68 i69 i72 i78 i80 i81 i82 i87 i92 i96 i100 i103 i104)), ((z 97), .inl (T 0, 12, .inl g97)), ((z 98), .inl (T 0, 12, .inl g98)), ((z 101), .inl (T 0, 8, .inl g101)), ((z 102), .inl (T 0, 8, .inl g102))] H → va_D A [(a, .inr (11, OX z i1 i2 i3 i4 i5 i6 i7 i8 i30 i43 i45 i46 i47 i48 i49 i50 i51 i58 i59 i65 i68 i69 i72 i78 i80 i81 i82 i87 i92 i96 i100 i103 i104)), ((z 97), .inl (T 0, 12, .inl g97)), ((z 98), .inl (T 0, 12, .inl g98)), ((z 101), .inl (T 0, 8, .inl g101)), ((z 102), .inl (T 0, 8, .inl g102))] → va_S A s.heap H locs → lv_has ls 8 [(6, .int x24400697), (5, .int x24400698), (4, .int x24400699), (0, .ref a), (1, .int p1), (2, .int p2), (3, .int p3)] → W p l e { frames := 1, cells := 0, slots := 0, locals := 25 } s m args below meth c H locs 0 0 (MQ below ((Qi (S := Unit) (fun (r : Int32) (_ : Unit) => (0 ≤ r.toInt ∧ r.toInt ≤ 1)) (fun (_ : Unit) => [(a, .inr (11, OX z i1 i2 i3 i4 i5 i6 i7 i8 i30 i43 i45 i46 i47 i48 i49 i50 i51 i58 i59 i65 i68 i69 i72 i78 i80 i81 i82 i87 i92 i96 i100 i103 i104)), ((z 97), .inl (T 0, 12, .inl g97)), ((z 98), .inl (T 0, 12, .inl g98)), ((z 101), .inl (T 0, 8, .inl g101)), ((z 102), .inl (T 0, 8, .inl g102))]) D) A) args s 0 0 A) (F0 m 118 ls [.int x24400753]) := by
          intro x24400753 H locs ls hx24400753 hP hD hS hl
          exact r_zret () C0 hr (bool_nar ⟨by omega, by omega⟩) hlocks hS (Nat.le_refl _) (Nat.le_refl _) dX11_holdsForce_118 ⟨by omega, by omega⟩ (hP.sub (ws' := [(a, .inr (11, OX z i1 i2 i3 i4 i5 i6 i7 i8 i30 i43 i45 i46 i47 i48 i49 i50 i51 i58 i59 i65 i68 i69 i72 i78 i80 i81 i82 i87 i92 i96 i100 i103 i104)), ((z 97), .inl (T 0, 12, .inl g97)), ((z 98), .inl (T 0, 12, .inl g98)), ((z 101), .inl (T 0, 8, .inl g101)), ((z 102), .inl (T 0, 8, .inl g102))]) [0, 1, 2, 3, 4] rfl) (hD.sub (ws' := [(a, .inr (11, OX z i1 i2 i3 i4 i5 i6 i7 i8 i30 i43 i45 i46 i47 i48 i49 i50 i51 i58 i59 i65 i68 i69 i72 i78 i80 i81 i82 i87 i92 i96 i100 i103 i104)), ((z 97), .inl (T 0, 12, .inl g97)), ((z 98), .inl (T 0, 12, .inl g98)), ((z 101), .inl (T 0, 8, .inl g101)), ((z 102), .inl (T 0, 8, .inl g102))]) [0, 1, 2, 3, 4] (by decide +kernel) rfl)
        refine lv_icmp_lt (tgt := 117) hx hb dX11_holdsForce_110 (by decide) (fun c24400752 => ?_) (fun c24400752 => ?_)
        · skip
          have kc24400752 : x24400750.toInt < x24400751.toInt := lt_ti rfl rfl c24400752
          have rg24400755 := i32_rng x24400751
          have rg24400756 := i32_rng x24400750
          refine lv_iconst (v := 0) hx hb dX11_holdsForce_117 (by decide) ?_
          exact J24400754 0 _ _ ls ⟨by decide, by decide⟩ (hP.sub (ws' := [(a, .inr (11, OX z i1 i2 i3 i4 i5 i6 i7 i8 i30 i43 i45 i46 i47 i48 i49 i50 i51 i58 i59 i65 i68 i69 i72 i78 i80 i81 i82 i87 i92 i96 i100 i103 i104)), ((z 97), .inl (T 0, 12, .inl g97)), ((z 98), .inl (T 0, 12, .inl g98)), ((z 101), .inl (T 0, 8, .inl g101)), ((z 102), .inl (T 0, 8, .inl g102))]) [0, 1, 2, 3, 4] rfl) (hD.sub (ws' := [(a, .inr (11, OX z i1 i2 i3 i4 i5 i6 i7 i8 i30 i43 i45 i46 i47 i48 i49 i50 i51 i58 i59 i65 i68 i69 i72 i78 i80 i81 i82 i87 i92 i96 i100 i103 i104)), ((z 97), .inl (T 0, 12, .inl g97)), ((z 98), .inl (T 0, 12, .inl g98)), ((z 101), .inl (T 0, 8, .inl g101)), ((z 102), .inl (T 0, 8, .inl g102))]) [0, 1, 2, 3, 4] (by decide +kernel) rfl) hS (lv_sub hl [0, 1, 2, 3, 4, 5, 6] rfl)
        · skip
          have kc24400752 : x24400751.toInt ≤ x24400750.toInt := nlt_ti rfl rfl c24400752
          refine lv_iconst (v := 1) hx hb dX11_holdsForce_113 (by decide) ?_
          refine lv_goto (tgt := 118) hx hb dX11_holdsForce_114 (by decide) ?_
          exact J24400754 1 _ _ ls ⟨by decide, by decide⟩ (hP.sub (ws' := [(a, .inr (11, OX z i1 i2 i3 i4 i5 i6 i7 i8 i30 i43 i45 i46 i47 i48 i49 i50 i51 i58 i59 i65 i68 i69 i72 i78 i80 i81 i82 i87 i92 i96 i100 i103 i104)), ((z 97), .inl (T 0, 12, .inl g97)), ((z 98), .inl (T 0, 12, .inl g98)), ((z 101), .inl (T 0, 8, .inl g101)), ((z 102), .inl (T 0, 8, .inl g102))]) [0, 1, 2, 3, 4] rfl) (hD.sub (ws' := [(a, .inr (11, OX z i1 i2 i3 i4 i5 i6 i7 i8 i30 i43 i45 i46 i47 i48 i49 i50 i51 i58 i59 i65 i68 i69 i72 i78 i80 i81 i82 i87 i92 i96 i100 i103 i104)), ((z 97), .inl (T 0, 12, .inl g97)), ((z 98), .inl (T 0, 12, .inl g98)), ((z 101), .inl (T 0, 8, .inl g101)), ((z 102), .inl (T 0, 8, .inl g102))]) [0, 1, 2, 3, 4] (by decide +kernel) rfl) hS (lv_sub hl [0, 1, 2, 3, 4, 5, 6] rfl)
      · skip
        have kc24400726 : x24400697.toInt < i96.toInt := nle_ti rfl rfl c24400726
        refine lv_aload_n hx hb dX11_holdsForce_18 rfl (lv_at hl 3 rfl) ?_
        refine r_get (v := .ref (z 97)) C0 hE ffX11_97 mw_887 hP 0 rfl ox_97 dX11_holdsForce_19 ?_
        refine lv_iload hx hb dX11_holdsForce_22 (lv_at hl 0 rfl) ?_
        refine va_iald hx hb hK hP 1 0 rfl rfl (in_ti rfl (by omega) (by omega)) dX11_holdsForce_24 ?_
        refine lv_topi (fun x24400757 ex24400757 => ?_)
        refine lv_aload_n hx hb dX11_holdsForce_25 rfl (lv_at hl 3 rfl) ?_
        refine r_get (v := .ref (z 101)) C0 hE ffX11_101 mw_891 hP 0 rfl ox_101 dX11_holdsForce_26 ?_
        refine lv_iload_n hx hb dX11_holdsForce_29 rfl (lv_at hl 5 rfl) ?_
        refine va_iald hx hb hK hP 3 0 rfl rfl (in_ti rfl (by omega) (by omega)) dX11_holdsForce_30 ?_
        refine lv_topi (fun x24400758 ex24400758 => ?_)
        refine lv_isub hx hb dX11_holdsForce_31 ?_
        refine lv_topi (fun x24400759 ex24400759 => ?_)
        refine lv_istore (lv' := [(7, .int x24400759), (6, .int x24400697), (5, .int x24400698), (4, .int x24400699), (0, .ref a), (1, .int p1), (2, .int p2), (3, .int p3)]) hx hb dX11_holdsForce_32 hl (by decide) rfl (fun ls hl => ?_)
        refine lv_iload_n hx hb dX11_holdsForce_34 rfl (lv_at hl 5 rfl) ?_
        refine lv_iload hx hb dX11_holdsForce_35 (lv_at hl 1 rfl) ?_
        refine lv_ishr hx hb dX11_holdsForce_37 ?_
        refine lv_topi (fun x24400760 ex24400760 => ?_)
        refine lv_iconst (v := 1) hx hb dX11_holdsForce_38 (by decide) ?_
        refine lv_iand hx hb dX11_holdsForce_39 ?_
        refine lv_topi (fun x24400761 ex24400761 => ?_)
        have hx24400761 : 0 ≤ x24400761.toInt ∧ x24400761.toInt ≤ 1 := and_ti 1 1 (by decide) (by decide) (by decide) ex24400761
        have J24400779 : ∀ (x24400777 : Int32) (x24400778 : Int32) (H : Heap) (locs : List Loc) (ls : Array Slot), va_P D vwCl [(a, .inr (11, OX z i1 i2 i3 i4 i5 i6 i7 i8 i30 i43 i45 i46 i47 i48 i49 i50 i51 i58 i59 i65 i68 i69 i72 i78 i80 i81 i82 i87 i92 i96 i100 i103 i104)), ((z 97), .inl (T 0, 12, .inl g97)), ((z 98), .inl (T 0, 12, .inl g98)), ((z 101), .inl (T 0, 8, .inl g101)), ((z 102), .inl (T 0, 8, .inl g102))] H → va_D A [(a, .inr (11, OX z i1 i2 i3 i4 i5 i6 i7 i8 i30 i43 i45 i46 i47 i48 i49 i50 i51 i58 i59 i65 i68 i69 i72 i78 i80 i81 i82 i87 i92 i96 i100 i103 i104)), ((z 97), .inl (T 0, 12, .inl g97)), ((z 98), .inl (T 0, 12, .inl g98)), ((z 101), .inl (T 0, 8, .inl g101)), ((z 102), .inl (T 0, 8, .inl g102))] → va_S A s.heap H locs → lv_has ls 8 [(7, .int x24400759), (6, .int x24400697), (5, .int x24400777), (4, .int x24400778), (0, .ref a), (1, .int p1), (2, .int p2), (3, .int p3)] → W p l e { frames := 1, cells := 0, slots := 0, locals := 25 } s m args below meth c H locs 0 0 (MQ below ((Qi (S := Unit) (fun (r : Int32) (_ : Unit) => (0 ≤ r.toInt ∧ r.toInt ≤ 1)) (fun (_ : Unit) => [(a, .inr (11, OX z i1 i2 i3 i4 i5 i6 i7 i8 i30 i43 i45 i46 i47 i48 i49 i50 i51 i58 i59 i65 i68 i69 i72 i78 i80 i81 i82 i87 i92 i96 i100 i103 i104)), ((z 97), .inl (T 0, 12, .inl g97)), ((z 98), .inl (T 0, 12, .inl g98)), ((z 101), .inl (T 0, 8, .inl g101)), ((z 102), .inl (T 0, 8, .inl g102))]) D) A) args s 0 0 A) (F0 m 93 ls []) := by
          intro x24400777 x24400778 H locs ls hP hD hS hl
          obtain ⟨x24400780, ex24400780⟩ : ∃ y : Int32, y = x24400697 + 1 := ⟨_, rfl⟩
          have hx24400780 : x24400780.toInt = x24400697.toInt + 1 := ti_add ex24400780 rfl (by decide) (by omega) (by omega)
          refine lv_iinc (v := x24400780) (lv' := [(6, .int x24400780), (7, .int x24400759), (5, .int x24400777), (4, .int x24400778), (0, .ref a), (1, .int p1), (2, .int p2), (3, .int p3)]) hx hb dX11_holdsForce_93 hl (k := 1) rfl (by rw [ex24400780]; rfl) (by decide) rfl (fun ls hl => ?_)
          refine lv_goto (tgt := 9) hx hb dX11_holdsForce_96 (by decide) ?_
          exact ih24400725 x24400780 x24400777 x24400778 _ _ ls ⟨by omega, by omega⟩ (by omega) (hP.sub (ws' := [(a, .inr (11, OX z i1 i2 i3 i4 i5 i6 i7 i8 i30 i43 i45 i46 i47 i48 i49 i50 i51 i58 i59 i65 i68 i69 i72 i78 i80 i81 i82 i87 i92 i96 i100 i103 i104)), ((z 97), .inl (T 0, 12, .inl g97)), ((z 98), .inl (T 0, 12, .inl g98)), ((z 101), .inl (T 0, 8, .inl g101)), ((z 102), .inl (T 0, 8, .inl g102))]) [0, 1, 2, 3, 4] rfl) (hD.sub (ws' := [(a, .inr (11, OX z i1 i2 i3 i4 i5 i6 i7 i8 i30 i43 i45 i46 i47 i48 i49 i50 i51 i58 i59 i65 i68 i69 i72 i78 i80 i81 i82 i87 i92 i96 i100 i103 i104)), ((z 97), .inl (T 0, 12, .inl g97)), ((z 98), .inl (T 0, 12, .inl g98)), ((z 101), .inl (T 0, 8, .inl g101)), ((z 102), .inl (T 0, 8, .inl g102))]) [0, 1, 2, 3, 4] (by decide +kernel) rfl) hS (lv_sub hl [0, 2, 3, 4, 5, 6, 7] rfl)
        refine lv_if_eq (tgt := 93) hx hb dX11_holdsForce_40 (by decide) (fun c24400762 => ?_) (fun c24400762 => ?_)
        · skip
          have kc24400762 : x24400761.toInt = 0 := eq_ti rfl (by decide) c24400762
          exact J24400779 x24400698 x24400699 _ _ ls (hP.sub (ws' := [(a, .inr (11, OX z i1 i2 i3 i4 i5 i6 i7 i8 i30 i43 i45 i46 i47 i48 i49 i50 i51 i58 i59 i65 i68 i69 i72 i78 i80 i81 i82 i87 i92 i96 i100 i103 i104)), ((z 97), .inl (T 0, 12, .inl g97)), ((z 98), .inl (T 0, 12, .inl g98)), ((z 101), .inl (T 0, 8, .inl g101)), ((z 102), .inl (T 0, 8, .inl g102))]) [0, 1, 2, 3, 4] rfl) (hD.sub (ws' := [(a, .inr (11, OX z i1 i2 i3 i4 i5 i6 i7 i8 i30 i43 i45 i46 i47 i48 i49 i50 i51 i58 i59 i65 i68 i69 i72 i78 i80 i81 i82 i87 i92 i96 i100 i103 i104)), ((z 97), .inl (T 0, 12, .inl g97)), ((z 98), .inl (T 0, 12, .inl g98)), ((z 101), .inl (T 0, 8, .inl g101)), ((z 102), .inl (T 0, 8, .inl g102))]) [0, 1, 2, 3, 4] (by decide +kernel) rfl) hS (lv_sub hl [0, 1, 2, 3, 4, 5, 6, 7] rfl)
        · skip
          have kc24400762 : x24400761.toInt ≠ 0 := ne_ti rfl (by decide) c24400762
          have nzx24400761 : ¬ x24400761 = 0 := c24400762
          refine lv_iload hx hb dX11_holdsForce_43 (lv_at hl 0 rfl) ?_
          refine lv_i2l hx hb dX11_holdsForce_45 rfl ?_
          refine lv_topl (fun x24400781 ex24400781 => ?_)
          have hx24400781 : x24400781.toInt = x24400759.toInt := by rw [ex24400781]; exact Int32.toInt_toInt64 _
          refine lv_iload_n hx hb dX11_holdsForce_46 rfl (lv_at hl 7 rfl) ?_
          refine lv_ineg hx hb dX11_holdsForce_47 ?_
          refine lv_topi (fun x24400782 ex24400782 => ?_)
          refine lv_i2l hx hb dX11_holdsForce_48 rfl ?_
          refine lv_topl (fun x24400783 ex24400783 => ?_)
          have hx24400783 : x24400783.toInt = x24400782.toInt := by rw [ex24400783]; exact Int32.toInt_toInt64 _
          refine lv_iload_n hx hb dX11_holdsForce_49 rfl (lv_at hl 7 rfl) ?_
          refine lv_i2l hx hb dX11_holdsForce_50 rfl ?_
          refine lv_topl (fun x24400784 ex24400784 => ?_)
          have hx24400784 : x24400784.toInt = p3.toInt := by rw [ex24400784]; exact Int32.toInt_toInt64 _
          refine r_calli (wr := [(a, .inr (11, OX z i1 i2 i3 i4 i5 i6 i7 i8 i30 i43 i45 i46 i47 i48 i49 i50 i51 i58 i59 i65 i68 i69 i72 i78 i80 i81 i82 i87 i92 i96 i100 i103 i104)), ((z 97), .inl (T 0, 12, .inl g97)), ((z 98), .inl (T 0, 12, .inl g98)), ((z 101), .inl (T 0, 8, .inl g101)), ((z 102), .inl (T 0, 8, .inl g102))]) (r_runS2 (As := [.long x24400781, .long x24400783, .long x24400784]) (rest := []) (wc := []) C0 hE hStr hS (va_free (wc := []) hD hS hA [] rfl) (h_X11_isIn_20000007 l D T sq sv H.size x24400781 x24400783 x24400784) mw_910 mw_911 mw_14 mw_912 dn_1704 rfl rfl ⟨Nat.le_of_ble_eq_true rfl, Nat.le_of_ble_eq_true rfl⟩ (hP.sub (ws' := []) [] rfl) (hD.sub (ws' := []) [] (by decide +kernel) rfl) hl.1 rfl (Nat.le_of_ble_eq_true rfl) dX11_holdsForce_51 ⟨Nat.le_of_ble_eq_true rfl, Nat.le_of_ble_eq_true rfl⟩) hP hD hS hA [] [0, 1, 2, 3, 4] rfl rfl (by decide +kernel) (by decide +kernel) (fun x24400785 u H locs hq hP hD hS => ?_)
          obtain ⟨hp24400786, hx24400785⟩ := hq
          have hp24400786 : (x24400785.toInt = 0 ∧ (x24400781.toInt < x24400783.toInt ∨ x24400784.toInt < x24400781.toInt)) ∨ (x24400785.toInt = 1 ∧ x24400783.toInt ≤ x24400781.toInt ∧ x24400781.toInt ≤ x24400784.toInt) := hp24400786
          have hx24400785 : 0 ≤ x24400785.toInt ∧ x24400785.toInt ≤ 1 := hx24400785
          have hP : va_P D vwCl [(a, .inr (11, OX z i1 i2 i3 i4 i5 i6 i7 i8 i30 i43 i45 i46 i47 i48 i49 i50 i51 i58 i59 i65 i68 i69 i72 i78 i80 i81 i82 i87 i92 i96 i100 i103 i104)), ((z 97), .inl (T 0, 12, .inl g97)), ((z 98), .inl (T 0, 12, .inl g98)), ((z 101), .inl (T 0, 8, .inl g101)), ((z 102), .inl (T 0, 8, .inl g102))] H := hP
          have hD : va_D A [(a, .inr (11, OX z i1 i2 i3 i4 i5 i6 i7 i8 i30 i43 i45 i46 i47 i48 i49 i50 i51 i58 i59 i65 i68 i69 i72 i78 i80 i81 i82 i87 i92 i96 i100 i103 i104)), ((z 97), .inl (T 0, 12, .inl g97)), ((z 98), .inl (T 0, 12, .inl g98)), ((z 101), .inl (T 0, 8, .inl g101)), ((z 102), .inl (T 0, 8, .inl g102))] := hD
          refine W.widen (k := 0) (n := 0) (Nat.le_refl _) (Nat.le_refl _) ?_
          refine lv_if_ne (tgt := 60) hx hb dX11_holdsForce_54 (by decide) (fun c24400787 => ?_) (fun c24400787 => ?_)
          · skip
            have kc24400787 : x24400785.toInt ≠ 0 := ne_ti rfl (by decide) c24400787
            have nzx24400785 : ¬ x24400785 = 0 := c24400787
            refine lv_iload hx hb dX11_holdsForce_60 (lv_at hl 3 rfl) ?_
            refine lv_aload_n hx hb dX11_holdsForce_62 rfl (lv_at hl 4 rfl) ?_
            refine r_get (v := .ref (z 98)) C0 hE ffX11_98 mw_888 hP 0 rfl ox_98 dX11_holdsForce_63 ?_
            refine lv_iload hx hb dX11_holdsForce_66 (lv_at hl 1 rfl) ?_
            refine va_iald hx hb hK hP 2 0 rfl rfl (in_ti rfl (by omega) (by omega)) dX11_holdsForce_68 ?_
            refine lv_topi (fun x24400788 ex24400788 => ?_)
            refine lv_iadd hx hb dX11_holdsForce_69 ?_
            refine lv_topi (fun x24400789 ex24400789 => ?_)
            refine lv_istore (lv' := [(4, .int x24400789), (7, .int x24400759), (6, .int x24400697), (5, .int x24400698), (0, .ref a), (1, .int p1), (2, .int p2), (3, .int p3)]) hx hb dX11_holdsForce_70 hl (by decide) rfl (fun ls hl => ?_)
            refine lv_aload_n hx hb dX11_holdsForce_72 rfl (lv_at hl 4 rfl) ?_
            refine r_get (v := .ref (z 98)) C0 hE ffX11_98 mw_888 hP 0 rfl ox_98 dX11_holdsForce_73 ?_
            refine lv_iload hx hb dX11_holdsForce_76 (lv_at hl 2 rfl) ?_
            refine va_iald hx hb hK hP 2 0 rfl rfl (in_ti rfl (by omega) (by omega)) dX11_holdsForce_78 ?_
            refine lv_topi (fun x24400790 ex24400790 => ?_)
            refine lv_iload hx hb dX11_holdsForce_79 (lv_at hl 3 rfl) ?_
            refine lv_icmp_le (tgt := 93) hx hb dX11_holdsForce_81 (by decide) (fun c24400791 => ?_) (fun c24400791 => ?_)
            · skip
              have kc24400791 : x24400790.toInt ≤ x24400698.toInt := le_ti rfl rfl c24400791
              exact J24400779 x24400698 x24400789 _ _ ls (hP.sub (ws' := [(a, .inr (11, OX z i1 i2 i3 i4 i5 i6 i7 i8 i30 i43 i45 i46 i47 i48 i49 i50 i51 i58 i59 i65 i68 i69 i72 i78 i80 i81 i82 i87 i92 i96 i100 i103 i104)), ((z 97), .inl (T 0, 12, .inl g97)), ((z 98), .inl (T 0, 12, .inl g98)), ((z 101), .inl (T 0, 8, .inl g101)), ((z 102), .inl (T 0, 8, .inl g102))]) [0, 1, 2, 3, 4] rfl) (hD.sub (ws' := [(a, .inr (11, OX z i1 i2 i3 i4 i5 i6 i7 i8 i30 i43 i45 i46 i47 i48 i49 i50 i51 i58 i59 i65 i68 i69 i72 i78 i80 i81 i82 i87 i92 i96 i100 i103 i104)), ((z 97), .inl (T 0, 12, .inl g97)), ((z 98), .inl (T 0, 12, .inl g98)), ((z 101), .inl (T 0, 8, .inl g101)), ((z 102), .inl (T 0, 8, .inl g102))]) [0, 1, 2, 3, 4] (by decide +kernel) rfl) hS (lv_sub hl [1, 2, 3, 0, 4, 5, 6, 7] rfl)
            · skip
              have kc24400791 : x24400698.toInt < x24400790.toInt := nle_ti rfl rfl c24400791
              have rg24400792 := i32_rng x24400790
              have rg24400793 := i32_rng x24400698
              refine lv_aload_n hx hb dX11_holdsForce_84 rfl (lv_at hl 4 rfl) ?_
              refine r_get (v := .ref (z 98)) C0 hE ffX11_98 mw_888 hP 0 rfl ox_98 dX11_holdsForce_85 ?_
              refine lv_iload hx hb dX11_holdsForce_88 (lv_at hl 2 rfl) ?_
              refine va_iald hx hb hK hP 2 0 rfl rfl (in_ti rfl (by omega) (by omega)) dX11_holdsForce_90 ?_
              refine lv_topi (fun x24400794 ex24400794 => ?_)
              refine lv_istore (lv' := [(5, .int x24400794), (4, .int x24400789), (7, .int x24400759), (6, .int x24400697), (0, .ref a), (1, .int p1), (2, .int p2), (3, .int p3)]) hx hb dX11_holdsForce_91 hl (by decide) rfl (fun ls hl => ?_)
              exact J24400779 x24400794 x24400789 _ _ ls (hP.sub (ws' := [(a, .inr (11, OX z i1 i2 i3 i4 i5 i6 i7 i8 i30 i43 i45 i46 i47 i48 i49 i50 i51 i58 i59 i65 i68 i69 i72 i78 i80 i81 i82 i87 i92 i96 i100 i103 i104)), ((z 97), .inl (T 0, 12, .inl g97)), ((z 98), .inl (T 0, 12, .inl g98)), ((z 101), .inl (T 0, 8, .inl g101)), ((z 102), .inl (T 0, 8, .inl g102))]) [0, 1, 2, 3, 4] rfl) (hD.sub (ws' := [(a, .inr (11, OX z i1 i2 i3 i4 i5 i6 i7 i8 i30 i43 i45 i46 i47 i48 i49 i50 i51 i58 i59 i65 i68 i69 i72 i78 i80 i81 i82 i87 i92 i96 i100 i103 i104)), ((z 97), .inl (T 0, 12, .inl g97)), ((z 98), .inl (T 0, 12, .inl g98)), ((z 101), .inl (T 0, 8, .inl g101)), ((z 102), .inl (T 0, 8, .inl g102))]) [0, 1, 2, 3, 4] (by decide +kernel) rfl) hS (lv_sub hl [2, 3, 0, 1, 4, 5, 6, 7] rfl)
          · skip
            have kc24400787 : x24400785.toInt = 0 := eq_ti rfl (by decide) c24400787
            refine lv_goto (tgt := 93) hx hb dX11_holdsForce_57 (by decide) ?_
            exact J24400779 x24400698 x24400699 _ _ ls (hP.sub (ws' := [(a, .inr (11, OX z i1 i2 i3 i4 i5 i6 i7 i8 i30 i43 i45 i46 i47 i48 i49 i50 i51 i58 i59 i65 i68 i69 i72 i78 i80 i81 i82 i87 i92 i96 i100 i103 i104)), ((z 97), .inl (T 0, 12, .inl g97)), ((z 98), .inl (T 0, 12, .inl g98)), ((z 101), .inl (T 0, 8, .inl g101)), ((z 102), .inl (T 0, 8, .inl g102))]) [0, 1, 2, 3, 4] rfl) (hD.sub (ws' := [(a, .inr (11, OX z i1 i2 i3 i4 i5 i6 i7 i8 i30 i43 i45 i46 i47 i48 i49 i50 i51 i58 i59 i65 i68 i69 i72 i78 i80 i81 i82 i87 i92 i96 i100 i103 i104)), ((z 97), .inl (T 0, 12, .inl g97)), ((z 98), .inl (T 0, 12, .inl g98)), ((z 101), .inl (T 0, 8, .inl g101)), ((z 102), .inl (T 0, 8, .inl g102))]) [0, 1, 2, 3, 4] (by decide +kernel) rfl) hS (lv_sub hl [0, 1, 2, 3, 4, 5, 6, 7] rfl)
  exact L24400724 _ 0 0 0 _ _ ls ⟨by decide, by decide⟩ (Nat.lt_succ_self _) (hP.sub (ws' := [(a, .inr (11, OX z i1 i2 i3 i4 i5 i6 i7 i8 i30 i43 i45 i46 i47 i48 i49 i50 i51 i58 i59 i65 i68 i69 i72 i78 i80 i81 i82 i87 i92 i96 i100 i103 i104)), ((z 97), .inl (T 0, 12, .inl g97)), ((z 98), .inl (T 0, 12, .inl g98)), ((z 101), .inl (T 0, 8, .inl g101)), ((z 102), .inl (T 0, 8, .inl g102))]) [0, 1, 2, 3, 4] rfl) (hD.sub (ws' := [(a, .inr (11, OX z i1 i2 i3 i4 i5 i6 i7 i8 i30 i43 i45 i46 i47 i48 i49 i50 i51 i58 i59 i65 i68 i69 i72 i78 i80 i81 i82 i87 i92 i96 i100 i103 i104)), ((z 97), .inl (T 0, 12, .inl g97)), ((z 98), .inl (T 0, 12, .inl g98)), ((z 101), .inl (T 0, 8, .inl g101)), ((z 102), .inl (T 0, 8, .inl g102))]) [0, 1, 2, 3, 4] (by decide +kernel) rfl) hS (lv_sub hl [0, 1, 2, 3, 4, 5, 6] rfl)
set_option maxHeartbeats 4000000 in
set_option maxRecDepth 100000 in
theorem h_X11_isFirst_24500008 (l : Launch) (D : va_G) (T : Nat → ClassId) (sq sv sz : Nat) (p0 : Int32) (p1 : Int32) : Met l yX11_isFirst (.code yX11_isFirst cX11_isFirst 3 (some .boolean) :: TB) { frames := 0, cells := 0, slots := 0, locals := 0 } (PC2 D T sq sv [.int p0, .int p1] ([] : va_W) sz) (Qi (S := Unit) (fun (r : Int32) (_ : Unit) => (0 ≤ r.toInt ∧ r.toInt ≤ 1)) (fun (_ : Unit) => ([] : va_W)) D (va_A ([] : va_W) sz)) 0 0 (va_A ([] : va_W) sz) := by
  refine ct_begin2 (Qc := Qi (S := Unit) (fun (r : Int32) (_ : Unit) => (0 ≤ r.toInt ∧ r.toInt ≤ 1)) (fun (_ : Unit) => ([] : va_W)) D) (by decide +kernel) (Nat.le_of_ble_eq_true rfl) ?_
  intro p e s m below meth c A ls C0 hr hlocks hnm hE hStr hA hP hD hl
  generalize ([.int p0, .int p1] : List Value).toArray = args at C0 ⊢
  have hx := C0.1
  have hb := C0.2.1
  have hml := C0.2.2.1
  have hown := C0.2.2.2.1
  have hT := C0.2.2.2.2
  have hK := hE.1
  generalize hH : s.heap = H at hP ⊢
  have hS : va_S A s.heap H [] := by rw [← hH]; exact va_S.rf
  have hP : va_P D vwCl ([] : va_W) H := hP
  have hD : va_D A ([] : va_W) := hD
  have hl : lv_has ls 3 [(0, .int p0), (1, .int p1)] := hl
  refine lv_iload_n hx hb dX11_isFirst_0 rfl (lv_at hl 0 rfl) ?_
  refine lv_iload_n hx hb dX11_isFirst_1 rfl (lv_at hl 1 rfl) ?_
  refine lv_ixor hx hb dX11_isFirst_2 ?_
  refine lv_topi (fun x24500009 ex24500009 => ?_)
  refine lv_istore_n (lv' := [(2, .int x24500009), (0, .int p0), (1, .int p1)]) hx hb dX11_isFirst_3 rfl hl (by decide) rfl (fun ls hl => ?_)
  refine lv_iload_n hx hb dX11_isFirst_4 rfl (lv_at hl 0 rfl) ?_
  have J24500016 : ∀ (x24500015 : Int32) (H : Heap) (locs : List Loc) (ls : Array Slot), (0 ≤ x24500015.toInt ∧ x24500015.toInt ≤ 1) → va_P D vwCl [] H → va_D A [] → va_S A s.heap H locs → lv_has ls 3 [(2, .int x24500009), (0, .int p0), (1, .int p1)] → W p l e { frames := 0, cells := 0, slots := 0, locals := 0 } s m args below meth c H locs 0 0 (MQ below ((Qi (S := Unit) (fun (r : Int32) (_ : Unit) => (0 ≤ r.toInt ∧ r.toInt ≤ 1)) (fun (_ : Unit) => ([] : va_W)) D) A) args s 0 0 A) (F0 m 22 ls [.int x24500015]) := by
    intro x24500015 H locs ls hx24500015 hP hD hS hl
    exact r_zret () C0 hr (bool_nar ⟨by omega, by omega⟩) hlocks hS (Nat.le_refl _) (Nat.le_refl _) dX11_isFirst_22 ⟨by omega, by omega⟩ (hP.sub (ws' := []) [] rfl) (hD.sub (ws' := []) [] (by decide +kernel) rfl)
  refine lv_if_eq (tgt := 21) hx hb dX11_isFirst_5 (by decide) (fun c24500010 => ?_) (fun c24500010 => ?_)
  · skip
    have kc24500010 : x24500009.toInt = 0 := eq_ti rfl (by decide) c24500010
    refine lv_iconst (v := 0) hx hb dX11_isFirst_21 (by decide) ?_
    exact J24500016 0 _ _ ls ⟨by decide, by decide⟩ (hP.sub (ws' := []) [] rfl) (hD.sub (ws' := []) [] (by decide +kernel) rfl) hS (lv_sub hl [0, 1, 2] rfl)
  · skip
    have kc24500010 : x24500009.toInt ≠ 0 := ne_ti rfl (by decide) c24500010
    have nzx24500009 : ¬ x24500009 = 0 := c24500010
    refine lv_iload_n hx hb dX11_isFirst_8 rfl (lv_at hl 1 rfl) ?_
    refine lv_iload_n hx hb dX11_isFirst_9 rfl (lv_at hl 0 rfl) ?_
    refine lv_iand hx hb dX11_isFirst_10 ?_
    refine lv_topi (fun x24500017 ex24500017 => ?_)
    refine lv_iload_n hx hb dX11_isFirst_11 rfl (lv_at hl 0 rfl) ?_
    refine lv_ineg hx hb dX11_isFirst_12 ?_
    refine lv_topi (fun x24500018 ex24500018 => ?_)
    refine lv_iand hx hb dX11_isFirst_13 ?_
    refine lv_topi (fun x24500019 ex24500019 => ?_)
    refine lv_if_eq (tgt := 21) hx hb dX11_isFirst_14 (by decide) (fun c24500020 => ?_) (fun c24500020 => ?_)
    · skip
      have kc24500020 : x24500019.toInt = 0 := eq_ti rfl (by decide) c24500020
      refine lv_iconst (v := 0) hx hb dX11_isFirst_21 (by decide) ?_
      exact J24500016 0 _ _ ls ⟨by decide, by decide⟩ (hP.sub (ws' := []) [] rfl) (hD.sub (ws' := []) [] (by decide +kernel) rfl) hS (lv_sub hl [0, 1, 2] rfl)
    · skip
      have kc24500020 : x24500019.toInt ≠ 0 := ne_ti rfl (by decide) c24500020
      have nzx24500019 : ¬ x24500019 = 0 := c24500020
      refine lv_iconst (v := 1) hx hb dX11_isFirst_17 (by decide) ?_
      refine lv_goto (tgt := 22) hx hb dX11_isFirst_18 (by decide) ?_
      exact J24500016 1 _ _ ls ⟨by decide, by decide⟩ (hP.sub (ws' := []) [] rfl) (hD.sub (ws' := []) [] (by decide +kernel) rfl) hS (lv_sub hl [0, 1, 2] rfl)
set_option maxHeartbeats 4000000 in
set_option maxRecDepth 100000 in
theorem h_X11_bitsOf_24600401 (l : Launch) (D : va_G) (T : Nat → ClassId) (sq sv sz : Nat) (p0 : Int32) : Met l yX11_bitsOf (.code yX11_bitsOf cX11_bitsOf 3 (some .int) :: TB) { frames := 0, cells := 0, slots := 0, locals := 0 } (PC2 D T sq sv [.int p0] ([] : va_W) sz) (Qi (S := Unit) (fun (r : Int32) (_ : Unit) => True) (fun (_ : Unit) => ([] : va_W)) D (va_A ([] : va_W) sz)) 0 0 (va_A ([] : va_W) sz) := by
  refine ct_begin2 (Qc := Qi (S := Unit) (fun (r : Int32) (_ : Unit) => True) (fun (_ : Unit) => ([] : va_W)) D) (by decide +kernel) (Nat.le_of_ble_eq_true rfl) ?_
  intro p e s m below meth c A ls C0 hr hlocks hnm hE hStr hA hP hD hl
  generalize ([.int p0] : List Value).toArray = args at C0 ⊢
  have hx := C0.1
  have hb := C0.2.1
  have hml := C0.2.2.1
  have hown := C0.2.2.2.1
  have hT := C0.2.2.2.2
  have hK := hE.1
  generalize hH : s.heap = H at hP ⊢
  have hS : va_S A s.heap H [] := by rw [← hH]; exact va_S.rf
  have hP : va_P D vwCl ([] : va_W) H := hP
  have hD : va_D A ([] : va_W) := hD
  have hl : lv_has ls 3 [(0, .int p0)] := hl
  refine lv_iconst (v := 0) hx hb dX11_bitsOf_0 (by decide) ?_
  refine lv_istore_n (lv' := [(1, .int 0), (0, .int p0)]) hx hb dX11_bitsOf_1 rfl hl (by decide) rfl (fun ls hl => ?_)
  refine lv_iconst (v := 0) hx hb dX11_bitsOf_2 (by decide) ?_
  refine lv_istore_n (lv' := [(2, .int 0), (1, .int 0), (0, .int p0)]) hx hb dX11_bitsOf_3 rfl hl (by decide) rfl (fun ls hl => ?_)
  have L24600797 : ∀ (n : Nat) (x24600790 : Int32) (x24600791 : Int32) (H : Heap) (locs : List Loc) (ls : Array Slot), (0 ≤ x24600790.toInt ∧ x24600790.toInt ≤ 12) → (13 - x24600790.toInt).toNat < n → va_P D vwCl [] H → va_D A [] → va_S A s.heap H locs → lv_has ls 3 [(2, .int x24600790), (1, .int x24600791), (0, .int p0)] → W p l e { frames := 0, cells := 0, slots := 0, locals := 0 } s m args below meth c H locs 0 0 (MQ below ((Qi (S := Unit) (fun (r : Int32) (_ : Unit) => True) (fun (_ : Unit) => ([] : va_W)) D) A) args s 0 0 A) (F0 m 4 ls []) := by
    intro n
    induction n with
    | zero =>
      intro x24600790 x24600791 H locs ls hx24600790 hms hP hD hS hl
      exact absurd hms (Nat.not_lt_zero _)
    | succ n ih24600798 =>
      intro x24600790 x24600791 H locs ls hx24600790 hms hP hD hS hl
      refine lv_iload_n hx hb dX11_bitsOf_4 rfl (lv_at hl 0 rfl) ?_
      refine lv_bipush (v := 12) hx hb dX11_bitsOf_5 (by decide) ?_
      refine lv_icmp_ge (tgt := 24) hx hb dX11_bitsOf_7 (by decide) (fun c24600799 => ?_) (fun c24600799 => ?_)
      · skip
        have kc24600799 : 12 ≤ x24600790.toInt := le_ti (by decide) rfl c24600799
        refine lv_iload_n hx hb dX11_bitsOf_24 rfl (lv_at hl 1 rfl) ?_
        exact r_iret () C0 hr hlocks hS (Nat.le_refl _) (Nat.le_refl _) dX11_bitsOf_25 trivial (hP.sub (ws' := []) [] rfl) (hD.sub (ws' := []) [] (by decide +kernel) rfl)
      · skip
        have kc24600799 : x24600790.toInt < 12 := nle_ti (by decide) rfl c24600799
        refine lv_iload_n hx hb dX11_bitsOf_10 rfl (lv_at hl 1 rfl) ?_
        refine lv_iload_n hx hb dX11_bitsOf_11 rfl (lv_at hl 2 rfl) ?_
        refine lv_iload_n hx hb dX11_bitsOf_12 rfl (lv_at hl 0 rfl) ?_
        refine lv_ishr hx hb dX11_bitsOf_13 ?_
        refine lv_topi (fun x24600804 ex24600804 => ?_)
        refine lv_iconst (v := 1) hx hb dX11_bitsOf_14 (by decide) ?_
        refine lv_iand hx hb dX11_bitsOf_15 ?_
        refine lv_topi (fun x24600805 ex24600805 => ?_)
        have hx24600805 : 0 ≤ x24600805.toInt ∧ x24600805.toInt ≤ 1 := and_ti 1 1 (by decide) (by decide) (by decide) ex24600805
        refine lv_iadd hx hb dX11_bitsOf_16 ?_
        refine lv_topi (fun x24600806 ex24600806 => ?_)
        refine lv_istore_n (lv' := [(1, .int x24600806), (2, .int x24600790), (0, .int p0)]) hx hb dX11_bitsOf_17 rfl hl (by decide) rfl (fun ls hl => ?_)
        obtain ⟨x24600807, ex24600807⟩ : ∃ y : Int32, y = x24600790 + 1 := ⟨_, rfl⟩
        have hx24600807 : x24600807.toInt = x24600790.toInt + 1 := ti_add ex24600807 rfl (by decide) (by omega) (by omega)
        refine lv_iinc (v := x24600807) (lv' := [(2, .int x24600807), (1, .int x24600806), (0, .int p0)]) hx hb dX11_bitsOf_18 hl (k := 1) rfl (by rw [ex24600807]; rfl) (by decide) rfl (fun ls hl => ?_)
        refine lv_goto (tgt := 4) hx hb dX11_bitsOf_21 (by decide) ?_
        exact ih24600798 x24600807 x24600806 _ _ ls ⟨by omega, by omega⟩ (by omega) (hP.sub (ws' := []) [] rfl) (hD.sub (ws' := []) [] (by decide +kernel) rfl) hS (lv_sub hl [0, 1, 2] rfl)
  exact L24600797 _ 0 0 _ _ ls ⟨by decide, by decide⟩ (Nat.lt_succ_self _) (hP.sub (ws' := []) [] rfl) (hD.sub (ws' := []) [] (by decide +kernel) rfl) hS (lv_sub hl [0, 1, 2] rfl)
set_option maxHeartbeats 4000000 in
set_option maxRecDepth 100000 in
theorem h_X11_choose_24716631 (l : Launch) (D : va_G) (T : Nat → ClassId) (sq sv sz : Nat) (a : Nat) (z : Nat → Nat) (i1 i2 i3 i4 i5 i6 i7 i8 i30 i43 i45 i46 i47 i48 i49 i50 i51 i58 i59 i65 i68 i69 i72 i78 i80 i81 i82 i87 i92 i96 i100 i103 i104 : Int32) (p1 : Int32) (p2 : Int32) (g97 : Nat → Int32) (g98 : Nat → Int32) (g99 : Nat → Int32) (g101 : Nat → Int32) (g102 : Nat → Int32) (hi96 : 0 ≤ i96.toInt ∧ i96.toInt ≤ 12) (hi100 : 0 ≤ i100.toInt ∧ i100.toInt ≤ 8) : Met l yX11_choose (.code yX11_choose cX11_choose 10 (some .int) :: TB) { frames := 2, cells := 0, slots := 0, locals := 52 } (PC2 D T sq sv [.ref a, .int p1, .int p2] [(a, .inr (11, OX z i1 i2 i3 i4 i5 i6 i7 i8 i30 i43 i45 i46 i47 i48 i49 i50 i51 i58 i59 i65 i68 i69 i72 i78 i80 i81 i82 i87 i92 i96 i100 i103 i104)), ((z 97), .inl (T 0, 12, .inl g97)), ((z 98), .inl (T 0, 12, .inl g98)), ((z 99), .inl (T 0, 12, .inl g99)), ((z 101), .inl (T 0, 8, .inl g101)), ((z 102), .inl (T 0, 8, .inl g102))] sz) (Qi (S := Int32 × Int32) (fun (r : Int32) (u : Int32 × Int32) => match u with | (ui103, ui104) => True) (fun (u : Int32 × Int32) => match u with | (ui103, ui104) => [(a, .inr (11, OX z i1 i2 i3 i4 i5 i6 i7 i8 i30 i43 i45 i46 i47 i48 i49 i50 i51 i58 i59 i65 i68 i69 i72 i78 i80 i81 i82 i87 i92 i96 i100 ui103 ui104)), ((z 97), .inl (T 0, 12, .inl g97)), ((z 98), .inl (T 0, 12, .inl g98)), ((z 99), .inl (T 0, 12, .inl g99)), ((z 101), .inl (T 0, 8, .inl g101)), ((z 102), .inl (T 0, 8, .inl g102))]) D (va_A [(a, .inr (11, OX z i1 i2 i3 i4 i5 i6 i7 i8 i30 i43 i45 i46 i47 i48 i49 i50 i51 i58 i59 i65 i68 i69 i72 i78 i80 i81 i82 i87 i92 i96 i100 i103 i104)), ((z 97), .inl (T 0, 12, .inl g97)), ((z 98), .inl (T 0, 12, .inl g98)), ((z 99), .inl (T 0, 12, .inl g99)), ((z 101), .inl (T 0, 8, .inl g101)), ((z 102), .inl (T 0, 8, .inl g102))] sz)) 0 0 (va_A [(a, .inr (11, OX z i1 i2 i3 i4 i5 i6 i7 i8 i30 i43 i45 i46 i47 i48 i49 i50 i51 i58 i59 i65 i68 i69 i72 i78 i80 i81 i82 i87 i92 i96 i100 i103 i104)), ((z 97), .inl (T 0, 12, .inl g97)), ((z 98), .inl (T 0, 12, .inl g98)), ((z 99), .inl (T 0, 12, .inl g99)), ((z 101), .inl (T 0, 8, .inl g101)), ((z 102), .inl (T 0, 8, .inl g102))] sz) := by
  refine ct_begin2 (Qc := Qi (S := Int32 × Int32) (fun (r : Int32) (u : Int32 × Int32) => match u with | (ui103, ui104) => True) (fun (u : Int32 × Int32) => match u with | (ui103, ui104) => [(a, .inr (11, OX z i1 i2 i3 i4 i5 i6 i7 i8 i30 i43 i45 i46 i47 i48 i49 i50 i51 i58 i59 i65 i68 i69 i72 i78 i80 i81 i82 i87 i92 i96 i100 ui103 ui104)), ((z 97), .inl (T 0, 12, .inl g97)), ((z 98), .inl (T 0, 12, .inl g98)), ((z 99), .inl (T 0, 12, .inl g99)), ((z 101), .inl (T 0, 8, .inl g101)), ((z 102), .inl (T 0, 8, .inl g102))]) D) (by decide +kernel) (Nat.le_of_ble_eq_true rfl) ?_
  intro p e s m below meth c A ls C0 hr hlocks hnm hE hStr hA hP hD hl
  generalize ([.ref a, .int p1, .int p2] : List Value).toArray = args at C0 ⊢
  have hx := C0.1
  have hb := C0.2.1
  have hml := C0.2.2.1
  have hown := C0.2.2.2.1
  have hT := C0.2.2.2.2
  have hK := hE.1
  generalize hH : s.heap = H at hP ⊢
  have hS : va_S A s.heap H [] := by rw [← hH]; exact va_S.rf
  have hP : va_P D vwCl [(a, .inr (11, OX z i1 i2 i3 i4 i5 i6 i7 i8 i30 i43 i45 i46 i47 i48 i49 i50 i51 i58 i59 i65 i68 i69 i72 i78 i80 i81 i82 i87 i92 i96 i100 i103 i104)), ((z 97), .inl (T 0, 12, .inl g97)), ((z 98), .inl (T 0, 12, .inl g98)), ((z 99), .inl (T 0, 12, .inl g99)), ((z 101), .inl (T 0, 8, .inl g101)), ((z 102), .inl (T 0, 8, .inl g102))] H := hP
  have hD : va_D A [(a, .inr (11, OX z i1 i2 i3 i4 i5 i6 i7 i8 i30 i43 i45 i46 i47 i48 i49 i50 i51 i58 i59 i65 i68 i69 i72 i78 i80 i81 i82 i87 i92 i96 i100 i103 i104)), ((z 97), .inl (T 0, 12, .inl g97)), ((z 98), .inl (T 0, 12, .inl g98)), ((z 99), .inl (T 0, 12, .inl g99)), ((z 101), .inl (T 0, 8, .inl g101)), ((z 102), .inl (T 0, 8, .inl g102))] := hD
  have hl : lv_has ls 10 [(0, .ref a), (1, .int p1), (2, .int p2)] := hl
  refine lv_iload_n hx hb dX11_choose_0 rfl (lv_at hl 1 rfl) ?_
  refine lv_i2l hx hb dX11_choose_1 rfl ?_
  refine lv_topl (fun x24716632 ex24716632 => ?_)
  have hx24716632 : x24716632.toInt = p1.toInt := by rw [ex24716632]; exact Int32.toInt_toInt64 _
  refine lv_lconst (v := 0) hx hb dX11_choose_2 (by decide) ?_
  refine lv_ldc2 hx hb hown (hT _ mw_1029) dX11_choose_3 ?_
  refine r_calli (wr := [(a, .inr (11, OX z i1 i2 i3 i4 i5 i6 i7 i8 i30 i43 i45 i46 i47 i48 i49 i50 i51 i58 i59 i65 i68 i69 i72 i78 i80 i81 i82 i87 i92 i96 i100 i103 i104)), ((z 97), .inl (T 0, 12, .inl g97)), ((z 98), .inl (T 0, 12, .inl g98)), ((z 99), .inl (T 0, 12, .inl g99)), ((z 101), .inl (T 0, 8, .inl g101)), ((z 102), .inl (T 0, 8, .inl g102))]) (r_runS2 (As := [.long x24716632, .long 0, .long 99]) (rest := []) (wc := []) C0 hE hStr hS (va_free (wc := []) hD hS hA [] rfl) (h_X11_isIn_20000007 l D T sq sv H.size x24716632 0 99) mw_910 mw_911 mw_14 mw_912 dn_1704 rfl rfl ⟨Nat.le_of_ble_eq_true rfl, Nat.le_of_ble_eq_true rfl⟩ (hP.sub (ws' := []) [] rfl) (hD.sub (ws' := []) [] (by decide +kernel) rfl) hl.1 rfl (Nat.le_of_ble_eq_true rfl) dX11_choose_6 ⟨Nat.le_of_ble_eq_true rfl, Nat.le_of_ble_eq_true rfl⟩) hP hD hS hA [] [0, 1, 2, 3, 4, 5] rfl rfl (by decide +kernel) (by decide +kernel) (fun x24716633 u H locs hq hP hD hS => ?_)
  obtain ⟨hp24716634, hx24716633⟩ := hq
  have hp24716634 : (x24716633.toInt = 0 ∧ (x24716632.toInt < 0 ∨ 99 < x24716632.toInt)) ∨ (x24716633.toInt = 1 ∧ 0 ≤ x24716632.toInt ∧ x24716632.toInt ≤ 99) := hp24716634
  have hx24716633 : 0 ≤ x24716633.toInt ∧ x24716633.toInt ≤ 1 := hx24716633
  have hl24716635 : (0 : Int64).toInt = 0 := by decide
  have hl24716636 : (99 : Int64).toInt = 99 := by decide
  have hP : va_P D vwCl [(a, .inr (11, OX z i1 i2 i3 i4 i5 i6 i7 i8 i30 i43 i45 i46 i47 i48 i49 i50 i51 i58 i59 i65 i68 i69 i72 i78 i80 i81 i82 i87 i92 i96 i100 i103 i104)), ((z 97), .inl (T 0, 12, .inl g97)), ((z 98), .inl (T 0, 12, .inl g98)), ((z 99), .inl (T 0, 12, .inl g99)), ((z 101), .inl (T 0, 8, .inl g101)), ((z 102), .inl (T 0, 8, .inl g102))] H := hP
  have hD : va_D A [(a, .inr (11, OX z i1 i2 i3 i4 i5 i6 i7 i8 i30 i43 i45 i46 i47 i48 i49 i50 i51 i58 i59 i65 i68 i69 i72 i78 i80 i81 i82 i87 i92 i96 i100 i103 i104)), ((z 97), .inl (T 0, 12, .inl g97)), ((z 98), .inl (T 0, 12, .inl g98)), ((z 99), .inl (T 0, 12, .inl g99)), ((z 101), .inl (T 0, 8, .inl g101)), ((z 102), .inl (T 0, 8, .inl g102))] := hD
  refine W.widen (k := 0) (n := 0) (Nat.le_refl _) (Nat.le_refl _) ?_
  refine lv_if_eq (tgt := 24) hx hb dX11_choose_9 (by decide) (fun c24716637 => ?_) (fun c24716637 => ?_)
  · skip
    have kc24716637 : x24716633.toInt = 0 := eq_ti rfl (by decide) c24716637
    refine lv_iconst (v := (-1)) hx hb dX11_choose_24 (by decide) ?_
    exact r_iret (i103, i104) C0 hr hlocks hS (Nat.le_refl _) (Nat.le_refl _) dX11_choose_25 trivial (hP.sub (ws' := [(a, .inr (11, OX z i1 i2 i3 i4 i5 i6 i7 i8 i30 i43 i45 i46 i47 i48 i49 i50 i51 i58 i59 i65 i68 i69 i72 i78 i80 i81 i82 i87 i92 i96 i100 i103 i104)), ((z 97), .inl (T 0, 12, .inl g97)), ((z 98), .inl (T 0, 12, .inl g98)), ((z 99), .inl (T 0, 12, .inl g99)), ((z 101), .inl (T 0, 8, .inl g101)), ((z 102), .inl (T 0, 8, .inl g102))]) [0, 1, 2, 3, 4, 5] rfl) (hD.sub (ws' := [(a, .inr (11, OX z i1 i2 i3 i4 i5 i6 i7 i8 i30 i43 i45 i46 i47 i48 i49 i50 i51 i58 i59 i65 i68 i69 i72 i78 i80 i81 i82 i87 i92 i96 i100 i103 i104)), ((z 97), .inl (T 0, 12, .inl g97)), ((z 98), .inl (T 0, 12, .inl g98)), ((z 99), .inl (T 0, 12, .inl g99)), ((z 101), .inl (T 0, 8, .inl g101)), ((z 102), .inl (T 0, 8, .inl g102))]) [0, 1, 2, 3, 4, 5] (by decide +kernel) rfl)
  · skip
    have kc24716637 : x24716633.toInt ≠ 0 := ne_ti rfl (by decide) c24716637
    have nzx24716633 : ¬ x24716633 = 0 := c24716637
    refine lv_iload_n hx hb dX11_choose_12 rfl (lv_at hl 2 rfl) ?_
    refine lv_i2l hx hb dX11_choose_13 rfl ?_
    refine lv_topl (fun x24716638 ex24716638 => ?_)
    have hx24716638 : x24716638.toInt = p2.toInt := by rw [ex24716638]; exact Int32.toInt_toInt64 _
    refine lv_lconst (v := 0) hx hb dX11_choose_14 (by decide) ?_
    refine lv_ldc2 hx hb hown (hT _ mw_1223) dX11_choose_15 ?_
    refine r_calli (wr := [(a, .inr (11, OX z i1 i2 i3 i4 i5 i6 i7 i8 i30 i43 i45 i46 i47 i48 i49 i50 i51 i58 i59 i65 i68 i69 i72 i78 i80 i81 i82 i87 i92 i96 i100 i103 i104)), ((z 97), .inl (T 0, 12, .inl g97)), ((z 98), .inl (T 0, 12, .inl g98)), ((z 99), .inl (T 0, 12, .inl g99)), ((z 101), .inl (T 0, 8, .inl g101)), ((z 102), .inl (T 0, 8, .inl g102))]) (r_runS2 (As := [.long x24716638, .long 0, .long 20000]) (rest := []) (wc := []) C0 hE hStr hS (va_free (wc := []) hD hS hA [] rfl) (h_X11_isIn_20000007 l D T sq sv H.size x24716638 0 20000) mw_910 mw_911 mw_14 mw_912 dn_1704 rfl rfl ⟨Nat.le_of_ble_eq_true rfl, Nat.le_of_ble_eq_true rfl⟩ (hP.sub (ws' := []) [] rfl) (hD.sub (ws' := []) [] (by decide +kernel) rfl) hl.1 rfl (Nat.le_of_ble_eq_true rfl) dX11_choose_18 ⟨Nat.le_of_ble_eq_true rfl, Nat.le_of_ble_eq_true rfl⟩) hP hD hS hA [] [0, 1, 2, 3, 4, 5] rfl rfl (by decide +kernel) (by decide +kernel) (fun x24716639 u H locs hq hP hD hS => ?_)
    obtain ⟨hp24716640, hx24716639⟩ := hq
    have hp24716640 : (x24716639.toInt = 0 ∧ (x24716638.toInt < 0 ∨ 20000 < x24716638.toInt)) ∨ (x24716639.toInt = 1 ∧ 0 ≤ x24716638.toInt ∧ x24716638.toInt ≤ 20000) := hp24716640
    have hx24716639 : 0 ≤ x24716639.toInt ∧ x24716639.toInt ≤ 1 := hx24716639
    have hl24716641 : (0 : Int64).toInt = 0 := by decide
    have hl24716642 : (20000 : Int64).toInt = 20000 := by decide
    have hP : va_P D vwCl [(a, .inr (11, OX z i1 i2 i3 i4 i5 i6 i7 i8 i30 i43 i45 i46 i47 i48 i49 i50 i51 i58 i59 i65 i68 i69 i72 i78 i80 i81 i82 i87 i92 i96 i100 i103 i104)), ((z 97), .inl (T 0, 12, .inl g97)), ((z 98), .inl (T 0, 12, .inl g98)), ((z 99), .inl (T 0, 12, .inl g99)), ((z 101), .inl (T 0, 8, .inl g101)), ((z 102), .inl (T 0, 8, .inl g102))] H := hP
    have hD : va_D A [(a, .inr (11, OX z i1 i2 i3 i4 i5 i6 i7 i8 i30 i43 i45 i46 i47 i48 i49 i50 i51 i58 i59 i65 i68 i69 i72 i78 i80 i81 i82 i87 i92 i96 i100 i103 i104)), ((z 97), .inl (T 0, 12, .inl g97)), ((z 98), .inl (T 0, 12, .inl g98)), ((z 99), .inl (T 0, 12, .inl g99)), ((z 101), .inl (T 0, 8, .inl g101)), ((z 102), .inl (T 0, 8, .inl g102))] := hD
    refine W.widen (k := 0) (n := 0) (Nat.le_refl _) (Nat.le_refl _) ?_
    refine lv_if_ne (tgt := 26) hx hb dX11_choose_21 (by decide) (fun c24716643 => ?_) (fun c24716643 => ?_)
    · skip
      have kc24716643 : x24716639.toInt ≠ 0 := ne_ti rfl (by decide) c24716643
      have nzx24716639 : ¬ x24716639 = 0 := c24716643
      refine lv_iconst (v := (-1)) hx hb dX11_choose_26 (by decide) ?_
      refine lv_istore_n (lv' := [(3, .int (-1)), (0, .ref a), (1, .int p1), (2, .int p2)]) hx hb dX11_choose_27 rfl hl (by decide) rfl (fun ls hl => ?_)
      refine lv_iconst (v := 0) hx hb dX11_choose_28 (by decide) ?_
      refine lv_istore (lv' := [(4, .int 0), (3, .int (-1)), (0, .ref a), (1, .int p1), (2, .int p2)]) hx hb dX11_choose_29 hl (by decide) rfl (fun ls hl => ?_)
      refine lv_iconst (v := 0) hx hb dX11_choose_31 (by decide) ?_
      refine lv_istore (lv' := [(5, .int 0), (4, .int 0), (3, .int (-1)), (0, .ref a), (1, .int p1), (2, .int p2)]) hx hb dX11_choose_32 hl (by decide) rfl (fun ls hl => ?_)
      have L24732982 : ∀ (n : Nat) (x24732695 : Int32) (x24732696 : Int32) (x24732697 : Int32) (H : Heap) (locs : List Loc) (ls : Array Slot), (0 ≤ x24732695.toInt ∧ x24732695.toInt ≤ 2147483647) → (-1 ≤ x24732697.toInt ∧ x24732697.toInt ≤ 2147483647) → (2147483648 - x24732695.toInt).toNat < n → va_P D vwCl [(a, .inr (11, OX z i1 i2 i3 i4 i5 i6 i7 i8 i30 i43 i45 i46 i47 i48 i49 i50 i51 i58 i59 i65 i68 i69 i72 i78 i80 i81 i82 i87 i92 i96 i100 i103 i104)), ((z 97), .inl (T 0, 12, .inl g97)), ((z 98), .inl (T 0, 12, .inl g98)), ((z 99), .inl (T 0, 12, .inl g99)), ((z 101), .inl (T 0, 8, .inl g101)), ((z 102), .inl (T 0, 8, .inl g102))] H → va_D A [(a, .inr (11, OX z i1 i2 i3 i4 i5 i6 i7 i8 i30 i43 i45 i46 i47 i48 i49 i50 i51 i58 i59 i65 i68 i69 i72 i78 i80 i81 i82 i87 i92 i96 i100 i103 i104)), ((z 97), .inl (T 0, 12, .inl g97)), ((z 98), .inl (T 0, 12, .inl g98)), ((z 99), .inl (T 0, 12, .inl g99)), ((z 101), .inl (T 0, 8, .inl g101)), ((z 102), .inl (T 0, 8, .inl g102))] → va_S A s.heap H locs → lv_has ls 10 [(5, .int x24732695), (4, .int x24732696), (3, .int x24732697), (0, .ref a), (1, .int p1), (2, .int p2)] → W p l e { frames := 2, cells := 0, slots := 0, locals := 52 } s m args below meth c H locs 0 0 (MQ below ((Qi (S := Int32 × Int32) (fun (r : Int32) (u : Int32 × Int32) => match u with | (ui103, ui104) => True) (fun (u : Int32 × Int32) => match u with | (ui103, ui104) => [(a, .inr (11, OX z i1 i2 i3 i4 i5 i6 i7 i8 i30 i43 i45 i46 i47 i48 i49 i50 i51 i58 i59 i65 i68 i69 i72 i78 i80 i81 i82 i87 i92 i96 i100 ui103 ui104)), ((z 97), .inl (T 0, 12, .inl g97)), ((z 98), .inl (T 0, 12, .inl g98)), ((z 99), .inl (T 0, 12, .inl g99)), ((z 101), .inl (T 0, 8, .inl g101)), ((z 102), .inl (T 0, 8, .inl g102))]) D) A) args s 0 0 A) (F0 m 34 ls []) := by
        intro n
        induction n with
        | zero =>
          intro x24732695 x24732696 x24732697 H locs ls hx24732695 hx24732697 hms hP hD hS hl
          exact absurd hms (Nat.not_lt_zero _)
        | succ n ih24732983 =>
          intro x24732695 x24732696 x24732697 H locs ls hx24732695 hx24732697 hms hP hD hS hl
          refine lv_iload hx hb dX11_choose_34 (lv_at hl 0 rfl) ?_
          refine lv_iconst (v := 1) hx hb dX11_choose_36 (by decide) ?_
          refine lv_aload_n hx hb dX11_choose_37 rfl (lv_at hl 3 rfl) ?_
          refine r_get (v := .int i96) C0 hE ffX11_96 mw_886 hP 0 rfl ox_96 dX11_choose_38 ?_
          refine lv_ishl hx hb dX11_choose_41 ?_
          refine lv_topi (fun x24732984 ex24732984 => ?_)
          refine lv_icmp_ge (tgt := 232) hx hb dX11_choose_42 (by decide) (fun c24732985 => ?_) (fun c24732985 => ?_)
          · skip
            have kc24732985 : x24732984.toInt ≤ x24732695.toInt := le_ti rfl rfl c24732985
            refine lv_iload_n hx hb dX11_choose_232 rfl (lv_at hl 2 rfl) ?_
            refine lv_iconst (v := (-1)) hx hb dX11_choose_233 (by decide) ?_
            refine lv_icmp_ne (tgt := 239) hx hb dX11_choose_234 (by decide) (fun c24733267 => ?_) (fun c24733267 => ?_)
            · skip
              have kc24733267 : x24732697.toInt ≠ (-1) := ne_ti rfl (by decide) c24733267
              refine lv_aload_n hx hb dX11_choose_239 rfl (lv_at hl 3 rfl) ?_
              refine lv_iload_n hx hb dX11_choose_240 rfl (lv_at hl 2 rfl) ?_
              refine r_put (v := .int x24732697) (ty := .int) (ws1 := [(a, .inr (11, OX z i1 i2 i3 i4 i5 i6 i7 i8 i30 i43 i45 i46 i47 i48 i49 i50 i51 i58 i59 i65 i68 i69 i72 i78 i80 i81 i82 i87 i92 i96 i100 x24732697 i104)), ((z 97), .inl (T 0, 12, .inl g97)), ((z 98), .inl (T 0, 12, .inl g98)), ((z 99), .inl (T 0, 12, .inl g99)), ((z 101), .inl (T 0, 8, .inl g101)), ((z 102), .inl (T 0, 8, .inl g102))]) C0 hE ffX11_103 tyX11 tyX11_ok nmX11 mw_893 pf_1358 hP hD hS 0 rfl rfl rfl ol_103 os_103 rfl dX11_choose_241 (fun H locs hP hD hS => ?_)
              refine lv_aload_n hx hb dX11_choose_244 rfl (lv_at hl 3 rfl) ?_
              refine lv_aload_n hx hb dX11_choose_245 rfl (lv_at hl 3 rfl) ?_
              refine r_get (v := .int i96) C0 hE ffX11_96 mw_886 hP 0 rfl ox_96 dX11_choose_246 ?_
              refine r_put (v := .int i96) (ty := .int) (ws1 := [(a, .inr (11, OX z i1 i2 i3 i4 i5 i6 i7 i8 i30 i43 i45 i46 i47 i48 i49 i50 i51 i58 i59 i65 i68 i69 i72 i78 i80 i81 i82 i87 i92 i96 i100 x24732697 i96)), ((z 97), .inl (T 0, 12, .inl g97)), ((z 98), .inl (T 0, 12, .inl g98)), ((z 99), .inl (T 0, 12, .inl g99)), ((z 101), .inl (T 0, 8, .inl g101)), ((z 102), .inl (T 0, 8, .inl g102))]) C0 hE ffX11_104 tyX11 tyX11_ok nmX11 mw_894 pf_1358 hP hD hS 0 rfl rfl rfl ol_104 os_104 rfl dX11_choose_249 (fun H locs hP hD hS => ?_)
              refine lv_iload hx hb dX11_choose_252 (lv_at hl 1 rfl) ?_
              exact r_iret (x24732697, i96) C0 hr hlocks hS (Nat.le_refl _) (Nat.le_refl _) dX11_choose_254 trivial (hP.sub (ws' := [(a, .inr (11, OX z i1 i2 i3 i4 i5 i6 i7 i8 i30 i43 i45 i46 i47 i48 i49 i50 i51 i58 i59 i65 i68 i69 i72 i78 i80 i81 i82 i87 i92 i96 i100 x24732697 i96)), ((z 97), .inl (T 0, 12, .inl g97)), ((z 98), .inl (T 0, 12, .inl g98)), ((z 99), .inl (T 0, 12, .inl g99)), ((z 101), .inl (T 0, 8, .inl g101)), ((z 102), .inl (T 0, 8, .inl g102))]) [0, 1, 2, 3, 4, 5] rfl) (hD.sub (ws' := [(a, .inr (11, OX z i1 i2 i3 i4 i5 i6 i7 i8 i30 i43 i45 i46 i47 i48 i49 i50 i51 i58 i59 i65 i68 i69 i72 i78 i80 i81 i82 i87 i92 i96 i100 x24732697 i96)), ((z 97), .inl (T 0, 12, .inl g97)), ((z 98), .inl (T 0, 12, .inl g98)), ((z 99), .inl (T 0, 12, .inl g99)), ((z 101), .inl (T 0, 8, .inl g101)), ((z 102), .inl (T 0, 8, .inl g102))]) [0, 1, 2, 3, 4, 5] (by decide +kernel) rfl)
            · skip
              have kc24733267 : x24732697.toInt = (-1) := eq_ti rfl (by decide) c24733267
              refine lv_iconst (v := (-1)) hx hb dX11_choose_237 (by decide) ?_
              exact r_iret (i103, i104) C0 hr hlocks hS (Nat.le_refl _) (Nat.le_refl _) dX11_choose_238 trivial (hP.sub (ws' := [(a, .inr (11, OX z i1 i2 i3 i4 i5 i6 i7 i8 i30 i43 i45 i46 i47 i48 i49 i50 i51 i58 i59 i65 i68 i69 i72 i78 i80 i81 i82 i87 i92 i96 i100 i103 i104)), ((z 97), .inl (T 0, 12, .inl g97)), ((z 98), .inl (T 0, 12, .inl g98)), ((z 99), .inl (T 0, 12, .inl g99)), ((z 101), .inl (T 0, 8, .inl g101)), ((z 102), .inl (T 0, 8, .inl g102))]) [0, 1, 2, 3, 4, 5] rfl) (hD.sub (ws' := [(a, .inr (11, OX z i1 i2 i3 i4 i5 i6 i7 i8 i30 i43 i45 i46 i47 i48 i49 i50 i51 i58 i59 i65 i68 i69 i72 i78 i80 i81 i82 i87 i92 i96 i100 i103 i104)), ((z 97), .inl (T 0, 12, .inl g97)), ((z 98), .inl (T 0, 12, .inl g98)), ((z 99), .inl (T 0, 12, .inl g99)), ((z 101), .inl (T 0, 8, .inl g101)), ((z 102), .inl (T 0, 8, .inl g102))]) [0, 1, 2, 3, 4, 5] (by decide +kernel) rfl)
          · skip
            have kc24732985 : x24732695.toInt < x24732984.toInt := nle_ti rfl rfl c24732985
            have rg24733268 := i32_rng x24732984
            refine lv_iconst (v := 0) hx hb dX11_choose_45 (by decide) ?_
            refine lv_istore (lv' := [(6, .int 0), (5, .int x24732695), (4, .int x24732696), (3, .int x24732697), (0, .ref a), (1, .int p1), (2, .int p2)]) hx hb dX11_choose_46 hl (by decide) rfl (fun ls hl => ?_)
            refine lv_iconst (v := 0) hx hb dX11_choose_48 (by decide) ?_
            refine lv_istore (lv' := [(7, .int 0), (6, .int 0), (5, .int x24732695), (4, .int x24732696), (3, .int x24732697), (0, .ref a), (1, .int p1), (2, .int p2)]) hx hb dX11_choose_49 hl (by decide) rfl (fun ls hl => ?_)
            refine lv_iconst (v := 0) hx hb dX11_choose_51 (by decide) ?_
            refine lv_istore (lv' := [(8, .int 0), (7, .int 0), (6, .int 0), (5, .int x24732695), (4, .int x24732696), (3, .int x24732697), (0, .ref a), (1, .int p1), (2, .int p2)]) hx hb dX11_choose_52 hl (by decide) rfl (fun ls hl => ?_)
            have L24733462 : ∀ (n : Nat) (x24733447 : Int32) (x24733448 : Int32) (x24733449 : Int32) (H : Heap) (locs : List Loc) (ls : Array Slot), (0 ≤ x24733447.toInt ∧ x24733447.toInt ≤ 12) → (13 - x24733447.toInt).toNat < n → va_P D vwCl [(a, .inr (11, OX z i1 i2 i3 i4 i5 i6 i7 i8 i30 i43 i45 i46 i47 i48 i49 i50 i51 i58 i59 i65 i68 i69 i72 i78 i80 i81 i82 i87 i92 i96 i100 i103 i104)), ((z 97), .inl (T 0, 12, .inl g97)), ((z 98), .inl (T 0, 12, .inl g98)), ((z 99), .inl (T 0, 12, .inl g99)), ((z 101), .inl (T 0, 8, .inl g101)), ((z 102), .inl (T 0, 8, .inl g102))] H → va_D A [(a, .inr (11, OX z i1 i2 i3 i4 i5 i6 i7 i8 i30 i43 i45 i46 i47 i48 i49 i50 i51 i58 i59 i65 i68 i69 i72 i78 i80 i81 i82 i87 i92 i96 i100 i103 i104)), ((z 97), .inl (T 0, 12, .inl g97)), ((z 98), .inl (T 0, 12, .inl g98)), ((z 99), .inl (T 0, 12, .inl g99)), ((z 101), .inl (T 0, 8, .inl g101)), ((z 102), .inl (T 0, 8, .inl g102))] → va_S A s.heap H locs → lv_has ls 10 [(8, .int x24733447), (7, .int x24733448), (6, .int x24733449), (5, .int x24732695), (4, .int x24732696), (3, .int x24732697), (0, .ref a), (1, .int p1), (2, .int p2)] → W p l e { frames := 2, cells := 0, slots := 0, locals := 52 } s m args below meth c H locs 0 0 (MQ below ((Qi (S := Int32 × Int32) (fun (r : Int32) (u : Int32 × Int32) => match u with | (ui103, ui104) => True) (fun (u : Int32 × Int32) => match u with | (ui103, ui104) => [(a, .inr (11, OX z i1 i2 i3 i4 i5 i6 i7 i8 i30 i43 i45 i46 i47 i48 i49 i50 i51 i58 i59 i65 i68 i69 i72 i78 i80 i81 i82 i87 i92 i96 i100 ui103 ui104)), ((z 97), .inl (T 0, 12, .inl g97)), ((z 98), .inl (T 0, 12, .inl g98)), ((z 99), .inl (T 0, 12, .inl g99)), ((z 101), .inl (T 0, 8, .inl g101)), ((z 102), .inl (T 0, 8, .inl g102))]) D) A) args s 0 0 A) (F0 m 54 ls []) := by
              intro n
              induction n with
              | zero =>
                intro x24733447 x24733448 x24733449 H locs ls hx24733447 hms hP hD hS hl
                exact absurd hms (Nat.not_lt_zero _)
              | succ n ih24733463 =>
                intro x24733447 x24733448 x24733449 H locs ls hx24733447 hms hP hD hS hl
                refine lv_iload hx hb dX11_choose_54 (lv_at hl 0 rfl) ?_
                refine lv_aload_n hx hb dX11_choose_56 rfl (lv_at hl 6 rfl) ?_
                refine r_get (v := .int i96) C0 hE ffX11_96 mw_886 hP 0 rfl ox_96 dX11_choose_57 ?_
                refine lv_icmp_ge (tgt := 109) hx hb dX11_choose_60 (by decide) (fun c24733464 => ?_) (fun c24733464 => ?_)
                · skip
                  have kc24733464 : i96.toInt ≤ x24733447.toInt := le_ti rfl rfl c24733464
                  refine lv_iload hx hb dX11_choose_109 (lv_at hl 1 rfl) ?_
                  refine lv_iload_n hx hb dX11_choose_111 rfl (lv_at hl 8 rfl) ?_
                  have J24733478 : ∀ (x24733477 : Int32) (H : Heap) (locs : List Loc) (ls : Array Slot), (0 ≤ x24733477.toInt ∧ x24733477.toInt ≤ 1) → va_P D vwCl [(a, .inr (11, OX z i1 i2 i3 i4 i5 i6 i7 i8 i30 i43 i45 i46 i47 i48 i49 i50 i51 i58 i59 i65 i68 i69 i72 i78 i80 i81 i82 i87 i92 i96 i100 i103 i104)), ((z 97), .inl (T 0, 12, .inl g97)), ((z 98), .inl (T 0, 12, .inl g98)), ((z 99), .inl (T 0, 12, .inl g99)), ((z 101), .inl (T 0, 8, .inl g101)), ((z 102), .inl (T 0, 8, .inl g102))] H → va_D A [(a, .inr (11, OX z i1 i2 i3 i4 i5 i6 i7 i8 i30 i43 i45 i46 i47 i48 i49 i50 i51 i58 i59 i65 i68 i69 i72 i78 i80 i81 i82 i87 i92 i96 i100 i103 i104)), ((z 97), .inl (T 0, 12, .inl g97)), ((z 98), .inl (T 0, 12, .inl g98)), ((z 99), .inl (T 0, 12, .inl g99)), ((z 101), .inl (T 0, 8, .inl g101)), ((z 102), .inl (T 0, 8, .inl g102))] → va_S A s.heap H locs → lv_has ls 10 [(8, .int x24733447), (7, .int x24733448), (6, .int x24733449), (5, .int x24732695), (4, .int x24732696), (3, .int x24732697), (0, .ref a), (1, .int p1), (2, .int p2)] → W p l e { frames := 2, cells := 0, slots := 0, locals := 52 } s m args below meth c H locs 0 0 (MQ below ((Qi (S := Int32 × Int32) (fun (r : Int32) (u : Int32 × Int32) => match u with | (ui103, ui104) => True) (fun (u : Int32 × Int32) => match u with | (ui103, ui104) => [(a, .inr (11, OX z i1 i2 i3 i4 i5 i6 i7 i8 i30 i43 i45 i46 i47 i48 i49 i50 i51 i58 i59 i65 i68 i69 i72 i78 i80 i81 i82 i87 i92 i96 i100 ui103 ui104)), ((z 97), .inl (T 0, 12, .inl g97)), ((z 98), .inl (T 0, 12, .inl g98)), ((z 99), .inl (T 0, 12, .inl g99)), ((z 101), .inl (T 0, 8, .inl g101)), ((z 102), .inl (T 0, 8, .inl g102))]) D) A) args s 0 0 A) (F0 m 120 ls [.int x24733477]) := by
                    intro x24733477 H locs ls hx24733477 hP hD hS hl
                    refine lv_istore (lv' := [(8, .int x24733477), (7, .int x24733448), (6, .int x24733449), (5, .int x24732695), (4, .int x24732696), (3, .int x24732697), (0, .ref a), (1, .int p1), (2, .int p2)]) hx hb dX11_choose_120 hl (by decide) rfl (fun ls hl => ?_)
                    refine lv_iconst (v := 0) hx hb dX11_choose_122 (by decide) ?_
                    refine lv_istore (lv' := [(9, .int 0), (8, .int x24733477), (7, .int x24733448), (6, .int x24733449), (5, .int x24732695), (4, .int x24732696), (3, .int x24732697), (0, .ref a), (1, .int p1), (2, .int p2)]) hx hb dX11_choose_123 hl (by decide) rfl (fun ls hl => ?_)
                    have J24733532 : ∀ (x24733530 : Int32) (x24733531 : Int32) (H : Heap) (locs : List Loc) (ls : Array Slot), (0 ≤ x24733530.toInt ∧ x24733530.toInt ≤ 8) → (0 ≤ x24733531.toInt ∧ x24733531.toInt ≤ 1) → va_P D vwCl [(a, .inr (11, OX z i1 i2 i3 i4 i5 i6 i7 i8 i30 i43 i45 i46 i47 i48 i49 i50 i51 i58 i59 i65 i68 i69 i72 i78 i80 i81 i82 i87 i92 i96 i100 i103 i104)), ((z 97), .inl (T 0, 12, .inl g97)), ((z 98), .inl (T 0, 12, .inl g98)), ((z 99), .inl (T 0, 12, .inl g99)), ((z 101), .inl (T 0, 8, .inl g101)), ((z 102), .inl (T 0, 8, .inl g102))] H → va_D A [(a, .inr (11, OX z i1 i2 i3 i4 i5 i6 i7 i8 i30 i43 i45 i46 i47 i48 i49 i50 i51 i58 i59 i65 i68 i69 i72 i78 i80 i81 i82 i87 i92 i96 i100 i103 i104)), ((z 97), .inl (T 0, 12, .inl g97)), ((z 98), .inl (T 0, 12, .inl g98)), ((z 99), .inl (T 0, 12, .inl g99)), ((z 101), .inl (T 0, 8, .inl g101)), ((z 102), .inl (T 0, 8, .inl g102))] → va_S A s.heap H locs → lv_has ls 10 [(9, .int x24733530), (8, .int x24733531), (7, .int x24733448), (6, .int x24733449), (5, .int x24732695), (4, .int x24732696), (3, .int x24732697), (0, .ref a), (1, .int p1), (2, .int p2)] → W p l e { frames := 2, cells := 0, slots := 0, locals := 52 } s m args below meth c H locs 0 0 (MQ below ((Qi (S := Int32 × Int32) (fun (r : Int32) (u : Int32 × Int32) => match u with | (ui103, ui104) => True) (fun (u : Int32 × Int32) => match u with | (ui103, ui104) => [(a, .inr (11, OX z i1 i2 i3 i4 i5 i6 i7 i8 i30 i43 i45 i46 i47 i48 i49 i50 i51 i58 i59 i65 i68 i69 i72 i78 i80 i81 i82 i87 i92 i96 i100 ui103 ui104)), ((z 97), .inl (T 0, 12, .inl g97)), ((z 98), .inl (T 0, 12, .inl g98)), ((z 99), .inl (T 0, 12, .inl g99)), ((z 101), .inl (T 0, 8, .inl g101)), ((z 102), .inl (T 0, 8, .inl g102))]) D) A) args s 0 0 A) (F0 m 156 ls []) := by
                      intro x24733530 x24733531 H locs ls hx24733530 hx24733531 hP hD hS hl
                      refine lv_iload hx hb dX11_choose_156 (lv_at hl 1 rfl) ?_
                      have J24733551 : ∀ (x24733549 : Int32) (x24733550 : Int32) (H : Heap) (locs : List Loc) (ls : Array Slot), (-1 ≤ x24733550.toInt ∧ x24733550.toInt ≤ 2147483647) → va_P D vwCl [(a, .inr (11, OX z i1 i2 i3 i4 i5 i6 i7 i8 i30 i43 i45 i46 i47 i48 i49 i50 i51 i58 i59 i65 i68 i69 i72 i78 i80 i81 i82 i87 i92 i96 i100 i103 i104)), ((z 97), .inl (T 0, 12, .inl g97)), ((z 98), .inl (T 0, 12, .inl g98)), ((z 99), .inl (T 0, 12, .inl g99)), ((z 101), .inl (T 0, 8, .inl g101)), ((z 102), .inl (T 0, 8, .inl g102))] H → va_D A [(a, .inr (11, OX z i1 i2 i3 i4 i5 i6 i7 i8 i30 i43 i45 i46 i47 i48 i49 i50 i51 i58 i59 i65 i68 i69 i72 i78 i80 i81 i82 i87 i92 i96 i100 i103 i104)), ((z 97), .inl (T 0, 12, .inl g97)), ((z 98), .inl (T 0, 12, .inl g98)), ((z 99), .inl (T 0, 12, .inl g99)), ((z 101), .inl (T 0, 8, .inl g101)), ((z 102), .inl (T 0, 8, .inl g102))] → va_S A s.heap H locs → lv_has ls 10 [(4, .int x24733549), (3, .int x24733550), (9, .int x24733530), (8, .int x24733531), (7, .int x24733448), (6, .int x24733449), (5, .int x24732695), (0, .ref a), (1, .int p1), (2, .int p2)] → W p l e { frames := 2, cells := 0, slots := 0, locals := 52 } s m args below meth c H locs 0 0 (MQ below ((Qi (S := Int32 × Int32) (fun (r : Int32) (u : Int32 × Int32) => match u with | (ui103, ui104) => True) (fun (u : Int32 × Int32) => match u with | (ui103, ui104) => [(a, .inr (11, OX z i1 i2 i3 i4 i5 i6 i7 i8 i30 i43 i45 i46 i47 i48 i49 i50 i51 i58 i59 i65 i68 i69 i72 i78 i80 i81 i82 i87 i92 i96 i100 ui103 ui104)), ((z 97), .inl (T 0, 12, .inl g97)), ((z 98), .inl (T 0, 12, .inl g98)), ((z 99), .inl (T 0, 12, .inl g99)), ((z 101), .inl (T 0, 8, .inl g101)), ((z 102), .inl (T 0, 8, .inl g102))]) D) A) args s 0 0 A) (F0 m 226 ls []) := by
                        intro x24733549 x24733550 H locs ls hx24733550 hP hD hS hl
                        obtain ⟨x24733552, ex24733552⟩ : ∃ y : Int32, y = x24732695 + 1 := ⟨_, rfl⟩
                        have hx24733552 : x24733552.toInt = x24732695.toInt + 1 := ti_add ex24733552 rfl (by decide) (by omega) (by omega)
                        refine lv_iinc (v := x24733552) (lv' := [(5, .int x24733552), (4, .int x24733549), (3, .int x24733550), (9, .int x24733530), (8, .int x24733531), (7, .int x24733448), (6, .int x24733449), (0, .ref a), (1, .int p1), (2, .int p2)]) hx hb dX11_choose_226 hl (k := 6) rfl (by rw [ex24733552]; rfl) (by decide) rfl (fun ls hl => ?_)
                        refine lv_goto (tgt := 34) hx hb dX11_choose_229 (by decide) ?_
                        exact ih24732983 x24733552 x24733549 x24733550 _ _ ls ⟨by omega, (i32_rng _).2⟩ ⟨by omega, (i32_rng _).2⟩ (by omega) (hP.sub (ws' := [(a, .inr (11, OX z i1 i2 i3 i4 i5 i6 i7 i8 i30 i43 i45 i46 i47 i48 i49 i50 i51 i58 i59 i65 i68 i69 i72 i78 i80 i81 i82 i87 i92 i96 i100 i103 i104)), ((z 97), .inl (T 0, 12, .inl g97)), ((z 98), .inl (T 0, 12, .inl g98)), ((z 99), .inl (T 0, 12, .inl g99)), ((z 101), .inl (T 0, 8, .inl g101)), ((z 102), .inl (T 0, 8, .inl g102))]) [0, 1, 2, 3, 4, 5] rfl) (hD.sub (ws' := [(a, .inr (11, OX z i1 i2 i3 i4 i5 i6 i7 i8 i30 i43 i45 i46 i47 i48 i49 i50 i51 i58 i59 i65 i68 i69 i72 i78 i80 i81 i82 i87 i92 i96 i100 i103 i104)), ((z 97), .inl (T 0, 12, .inl g97)), ((z 98), .inl (T 0, 12, .inl g98)), ((z 99), .inl (T 0, 12, .inl g99)), ((z 101), .inl (T 0, 8, .inl g101)), ((z 102), .inl (T 0, 8, .inl g102))]) [0, 1, 2, 3, 4, 5] (by decide +kernel) rfl) hS (lv_sub hl [0, 1, 2, 7, 8, 9] rfl)
                      refine lv_if_ne (tgt := 164) hx hb dX11_choose_158 (by decide) (fun c24733533 => ?_) (fun c24733533 => ?_)
                      · skip
                        have kc24733533 : x24733531.toInt ≠ 0 := ne_ti rfl (by decide) c24733533
                        have nzx24733531 : ¬ x24733531 = 0 := c24733533
                        refine lv_iload_n hx hb dX11_choose_164 rfl (lv_at hl 6 rfl) ?_
                        refine lv_iconst (v := (-1)) hx hb dX11_choose_165 (by decide) ?_
                        refine lv_icmp_eq (tgt := 219) hx hb dX11_choose_166 (by decide) (fun c24733553 => ?_) (fun c24733553 => ?_)
                        · skip
                          have kc24733553 : x24732697.toInt = (-1) := eq_ti rfl (by decide) c24733553
                          refine lv_iload hx hb dX11_choose_219 (lv_at hl 4 rfl) ?_
                          refine lv_istore_n (lv' := [(3, .int x24732695), (9, .int x24733530), (8, .int x24733531), (7, .int x24733448), (6, .int x24733449), (5, .int x24732695), (4, .int x24732696), (0, .ref a), (1, .int p1), (2, .int p2)]) hx hb dX11_choose_221 rfl hl (by decide) rfl (fun ls hl => ?_)
                          refine lv_iload hx hb dX11_choose_222 (lv_at hl 4 rfl) ?_
                          refine lv_istore (lv' := [(4, .int x24733449), (3, .int x24732695), (9, .int x24733530), (8, .int x24733531), (7, .int x24733448), (6, .int x24733449), (5, .int x24732695), (0, .ref a), (1, .int p1), (2, .int p2)]) hx hb dX11_choose_224 hl (by decide) rfl (fun ls hl => ?_)
                          exact J24733551 x24733449 x24732695 _ _ ls ⟨by omega, (i32_rng _).2⟩ (hP.sub (ws' := [(a, .inr (11, OX z i1 i2 i3 i4 i5 i6 i7 i8 i30 i43 i45 i46 i47 i48 i49 i50 i51 i58 i59 i65 i68 i69 i72 i78 i80 i81 i82 i87 i92 i96 i100 i103 i104)), ((z 97), .inl (T 0, 12, .inl g97)), ((z 98), .inl (T 0, 12, .inl g98)), ((z 99), .inl (T 0, 12, .inl g99)), ((z 101), .inl (T 0, 8, .inl g101)), ((z 102), .inl (T 0, 8, .inl g102))]) [0, 1, 2, 3, 4, 5] rfl) (hD.sub (ws' := [(a, .inr (11, OX z i1 i2 i3 i4 i5 i6 i7 i8 i30 i43 i45 i46 i47 i48 i49 i50 i51 i58 i59 i65 i68 i69 i72 i78 i80 i81 i82 i87 i92 i96 i100 i103 i104)), ((z 97), .inl (T 0, 12, .inl g97)), ((z 98), .inl (T 0, 12, .inl g98)), ((z 99), .inl (T 0, 12, .inl g99)), ((z 101), .inl (T 0, 8, .inl g101)), ((z 102), .inl (T 0, 8, .inl g102))]) [0, 1, 2, 3, 4, 5] (by decide +kernel) rfl) hS (lv_sub hl [0, 1, 2, 3, 4, 5, 6, 7, 8, 9] rfl)
                        · skip
                          have kc24733553 : x24732697.toInt ≠ (-1) := ne_ti rfl (by decide) c24733553
                          refine lv_iload hx hb dX11_choose_169 (lv_at hl 3 rfl) ?_
                          refine lv_iload hx hb dX11_choose_171 (lv_at hl 5 rfl) ?_
                          refine lv_icmp_gt (tgt := 226) hx hb dX11_choose_173 (by decide) (fun c24733554 => ?_) (fun c24733554 => ?_)
                          · skip
                            have kc24733554 : x24732696.toInt < x24733449.toInt := lt_ti rfl rfl c24733554
                            have rg24733555 := i32_rng x24733449
                            have rg24733556 := i32_rng x24732696
                            exact J24733551 x24732696 x24732697 _ _ ls ⟨by omega, (i32_rng _).2⟩ (hP.sub (ws' := [(a, .inr (11, OX z i1 i2 i3 i4 i5 i6 i7 i8 i30 i43 i45 i46 i47 i48 i49 i50 i51 i58 i59 i65 i68 i69 i72 i78 i80 i81 i82 i87 i92 i96 i100 i103 i104)), ((z 97), .inl (T 0, 12, .inl g97)), ((z 98), .inl (T 0, 12, .inl g98)), ((z 99), .inl (T 0, 12, .inl g99)), ((z 101), .inl (T 0, 8, .inl g101)), ((z 102), .inl (T 0, 8, .inl g102))]) [0, 1, 2, 3, 4, 5] rfl) (hD.sub (ws' := [(a, .inr (11, OX z i1 i2 i3 i4 i5 i6 i7 i8 i30 i43 i45 i46 i47 i48 i49 i50 i51 i58 i59 i65 i68 i69 i72 i78 i80 i81 i82 i87 i92 i96 i100 i103 i104)), ((z 97), .inl (T 0, 12, .inl g97)), ((z 98), .inl (T 0, 12, .inl g98)), ((z 99), .inl (T 0, 12, .inl g99)), ((z 101), .inl (T 0, 8, .inl g101)), ((z 102), .inl (T 0, 8, .inl g102))]) [0, 1, 2, 3, 4, 5] (by decide +kernel) rfl) hS (lv_sub hl [5, 6, 0, 1, 2, 3, 4, 7, 8, 9] rfl)
                          · skip
                            have kc24733554 : x24733449.toInt ≤ x24732696.toInt := nlt_ti rfl rfl c24733554
                            refine lv_iload hx hb dX11_choose_176 (lv_at hl 3 rfl) ?_
                            refine lv_iload hx hb dX11_choose_178 (lv_at hl 5 rfl) ?_
                            refine lv_icmp_ne (tgt := 219) hx hb dX11_choose_180 (by decide) (fun c24733557 => ?_) (fun c24733557 => ?_)
                            · skip
                              have kc24733557 : x24733449.toInt ≠ x24732696.toInt := ne_ti rfl rfl c24733557
                              refine lv_iload hx hb dX11_choose_219 (lv_at hl 4 rfl) ?_
                              refine lv_istore_n (lv' := [(3, .int x24732695), (9, .int x24733530), (8, .int x24733531), (7, .int x24733448), (6, .int x24733449), (5, .int x24732695), (4, .int x24732696), (0, .ref a), (1, .int p1), (2, .int p2)]) hx hb dX11_choose_221 rfl hl (by decide) rfl (fun ls hl => ?_)
                              refine lv_iload hx hb dX11_choose_222 (lv_at hl 4 rfl) ?_
                              refine lv_istore (lv' := [(4, .int x24733449), (3, .int x24732695), (9, .int x24733530), (8, .int x24733531), (7, .int x24733448), (6, .int x24733449), (5, .int x24732695), (0, .ref a), (1, .int p1), (2, .int p2)]) hx hb dX11_choose_224 hl (by decide) rfl (fun ls hl => ?_)
                              exact J24733551 x24733449 x24732695 _ _ ls ⟨by omega, (i32_rng _).2⟩ (hP.sub (ws' := [(a, .inr (11, OX z i1 i2 i3 i4 i5 i6 i7 i8 i30 i43 i45 i46 i47 i48 i49 i50 i51 i58 i59 i65 i68 i69 i72 i78 i80 i81 i82 i87 i92 i96 i100 i103 i104)), ((z 97), .inl (T 0, 12, .inl g97)), ((z 98), .inl (T 0, 12, .inl g98)), ((z 99), .inl (T 0, 12, .inl g99)), ((z 101), .inl (T 0, 8, .inl g101)), ((z 102), .inl (T 0, 8, .inl g102))]) [0, 1, 2, 3, 4, 5] rfl) (hD.sub (ws' := [(a, .inr (11, OX z i1 i2 i3 i4 i5 i6 i7 i8 i30 i43 i45 i46 i47 i48 i49 i50 i51 i58 i59 i65 i68 i69 i72 i78 i80 i81 i82 i87 i92 i96 i100 i103 i104)), ((z 97), .inl (T 0, 12, .inl g97)), ((z 98), .inl (T 0, 12, .inl g98)), ((z 99), .inl (T 0, 12, .inl g99)), ((z 101), .inl (T 0, 8, .inl g101)), ((z 102), .inl (T 0, 8, .inl g102))]) [0, 1, 2, 3, 4, 5] (by decide +kernel) rfl) hS (lv_sub hl [0, 1, 2, 3, 4, 5, 6, 7, 8, 9] rfl)
                            · skip
                              have kc24733557 : x24733449.toInt = x24732696.toInt := eq_ti rfl rfl c24733557
                              refine lv_iload hx hb dX11_choose_183 (lv_at hl 4 rfl) ?_
                              refine r_calli (wr := [(a, .inr (11, OX z i1 i2 i3 i4 i5 i6 i7 i8 i30 i43 i45 i46 i47 i48 i49 i50 i51 i58 i59 i65 i68 i69 i72 i78 i80 i81 i82 i87 i92 i96 i100 i103 i104)), ((z 97), .inl (T 0, 12, .inl g97)), ((z 98), .inl (T 0, 12, .inl g98)), ((z 99), .inl (T 0, 12, .inl g99)), ((z 101), .inl (T 0, 8, .inl g101)), ((z 102), .inl (T 0, 8, .inl g102))]) (r_runS2 (As := [.int x24732695]) (rest := []) (wc := []) C0 hE hStr hS (va_free (wc := []) hD hS hA [] rfl) (h_X11_bitsOf_24600401 l D T sq sv H.size x24732695) mw_1227 mw_1228 mw_14 mw_1229 dn_1796 rfl rfl ⟨Nat.le_of_ble_eq_true rfl, Nat.le_of_ble_eq_true rfl⟩ (hP.sub (ws' := []) [] rfl) (hD.sub (ws' := []) [] (by decide +kernel) rfl) hl.1 rfl (Nat.le_of_ble_eq_true rfl) dX11_choose_185 ⟨Nat.le_of_ble_eq_true rfl, Nat.le_of_ble_eq_true rfl⟩) hP hD hS hA [] [0, 1, 2, 3, 4, 5] rfl rfl (by decide +kernel) (by decide +kernel) (fun x24733558 u H locs hq hP hD hS => ?_)
                              have hP : va_P D vwCl [(a, .inr (11, OX z i1 i2 i3 i4 i5 i6 i7 i8 i30 i43 i45 i46 i47 i48 i49 i50 i51 i58 i59 i65 i68 i69 i72 i78 i80 i81 i82 i87 i92 i96 i100 i103 i104)), ((z 97), .inl (T 0, 12, .inl g97)), ((z 98), .inl (T 0, 12, .inl g98)), ((z 99), .inl (T 0, 12, .inl g99)), ((z 101), .inl (T 0, 8, .inl g101)), ((z 102), .inl (T 0, 8, .inl g102))] H := hP
                              have hD : va_D A [(a, .inr (11, OX z i1 i2 i3 i4 i5 i6 i7 i8 i30 i43 i45 i46 i47 i48 i49 i50 i51 i58 i59 i65 i68 i69 i72 i78 i80 i81 i82 i87 i92 i96 i100 i103 i104)), ((z 97), .inl (T 0, 12, .inl g97)), ((z 98), .inl (T 0, 12, .inl g98)), ((z 99), .inl (T 0, 12, .inl g99)), ((z 101), .inl (T 0, 8, .inl g101)), ((z 102), .inl (T 0, 8, .inl g102))] := hD
                              refine W.widen (k := 0) (n := 0) (Nat.le_refl _) (Nat.le_refl _) ?_
                              refine lv_iload_n hx hb dX11_choose_188 rfl (lv_at hl 6 rfl) ?_
                              refine r_calli (wr := [(a, .inr (11, OX z i1 i2 i3 i4 i5 i6 i7 i8 i30 i43 i45 i46 i47 i48 i49 i50 i51 i58 i59 i65 i68 i69 i72 i78 i80 i81 i82 i87 i92 i96 i100 i103 i104)), ((z 97), .inl (T 0, 12, .inl g97)), ((z 98), .inl (T 0, 12, .inl g98)), ((z 99), .inl (T 0, 12, .inl g99)), ((z 101), .inl (T 0, 8, .inl g101)), ((z 102), .inl (T 0, 8, .inl g102))]) (r_runS2 (As := [.int x24732697]) (rest := [.int x24733558]) (wc := []) C0 hE hStr hS (va_free (wc := []) hD hS hA [] rfl) (h_X11_bitsOf_24600401 l D T sq sv H.size x24732697) mw_1227 mw_1228 mw_14 mw_1229 dn_1796 rfl rfl ⟨Nat.le_of_ble_eq_true rfl, Nat.le_of_ble_eq_true rfl⟩ (hP.sub (ws' := []) [] rfl) (hD.sub (ws' := []) [] (by decide +kernel) rfl) hl.1 rfl (Nat.le_of_ble_eq_true rfl) dX11_choose_189 ⟨Nat.le_of_ble_eq_true rfl, Nat.le_of_ble_eq_true rfl⟩) hP hD hS hA [] [0, 1, 2, 3, 4, 5] rfl rfl (by decide +kernel) (by decide +kernel) (fun x24733559 u H locs hq hP hD hS => ?_)
                              have hP : va_P D vwCl [(a, .inr (11, OX z i1 i2 i3 i4 i5 i6 i7 i8 i30 i43 i45 i46 i47 i48 i49 i50 i51 i58 i59 i65 i68 i69 i72 i78 i80 i81 i82 i87 i92 i96 i100 i103 i104)), ((z 97), .inl (T 0, 12, .inl g97)), ((z 98), .inl (T 0, 12, .inl g98)), ((z 99), .inl (T 0, 12, .inl g99)), ((z 101), .inl (T 0, 8, .inl g101)), ((z 102), .inl (T 0, 8, .inl g102))] H := hP
                              have hD : va_D A [(a, .inr (11, OX z i1 i2 i3 i4 i5 i6 i7 i8 i30 i43 i45 i46 i47 i48 i49 i50 i51 i58 i59 i65 i68 i69 i72 i78 i80 i81 i82 i87 i92 i96 i100 i103 i104)), ((z 97), .inl (T 0, 12, .inl g97)), ((z 98), .inl (T 0, 12, .inl g98)), ((z 99), .inl (T 0, 12, .inl g99)), ((z 101), .inl (T 0, 8, .inl g101)), ((z 102), .inl (T 0, 8, .inl g102))] := hD
                              refine W.widen (k := 0) (n := 0) (Nat.le_refl _) (Nat.le_refl _) ?_
                              refine lv_icmp_gt (tgt := 226) hx hb dX11_choose_192 (by decide) (fun c24733560 => ?_) (fun c24733560 => ?_)
                              · skip
                                have kc24733560 : x24733559.toInt < x24733558.toInt := lt_ti rfl rfl c24733560
                                have rg24733561 := i32_rng x24733558
                                have rg24733562 := i32_rng x24733559
                                exact J24733551 x24732696 x24732697 _ _ ls ⟨by omega, (i32_rng _).2⟩ (hP.sub (ws' := [(a, .inr (11, OX z i1 i2 i3 i4 i5 i6 i7 i8 i30 i43 i45 i46 i47 i48 i49 i50 i51 i58 i59 i65 i68 i69 i72 i78 i80 i81 i82 i87 i92 i96 i100 i103 i104)), ((z 97), .inl (T 0, 12, .inl g97)), ((z 98), .inl (T 0, 12, .inl g98)), ((z 99), .inl (T 0, 12, .inl g99)), ((z 101), .inl (T 0, 8, .inl g101)), ((z 102), .inl (T 0, 8, .inl g102))]) [0, 1, 2, 3, 4, 5] rfl) (hD.sub (ws' := [(a, .inr (11, OX z i1 i2 i3 i4 i5 i6 i7 i8 i30 i43 i45 i46 i47 i48 i49 i50 i51 i58 i59 i65 i68 i69 i72 i78 i80 i81 i82 i87 i92 i96 i100 i103 i104)), ((z 97), .inl (T 0, 12, .inl g97)), ((z 98), .inl (T 0, 12, .inl g98)), ((z 99), .inl (T 0, 12, .inl g99)), ((z 101), .inl (T 0, 8, .inl g101)), ((z 102), .inl (T 0, 8, .inl g102))]) [0, 1, 2, 3, 4, 5] (by decide +kernel) rfl) hS (lv_sub hl [5, 6, 0, 1, 2, 3, 4, 7, 8, 9] rfl)
                              · skip
                                have kc24733560 : x24733558.toInt ≤ x24733559.toInt := nlt_ti rfl rfl c24733560
                                refine lv_iload hx hb dX11_choose_195 (lv_at hl 4 rfl) ?_
                                refine r_calli (wr := [(a, .inr (11, OX z i1 i2 i3 i4 i5 i6 i7 i8 i30 i43 i45 i46 i47 i48 i49 i50 i51 i58 i59 i65 i68 i69 i72 i78 i80 i81 i82 i87 i92 i96 i100 i103 i104)), ((z 97), .inl (T 0, 12, .inl g97)), ((z 98), .inl (T 0, 12, .inl g98)), ((z 99), .inl (T 0, 12, .inl g99)), ((z 101), .inl (T 0, 8, .inl g101)), ((z 102), .inl (T 0, 8, .inl g102))]) (r_runS2 (As := [.int x24732695]) (rest := []) (wc := []) C0 hE hStr hS (va_free (wc := []) hD hS hA [] rfl) (h_X11_bitsOf_24600401 l D T sq sv H.size x24732695) mw_1227 mw_1228 mw_14 mw_1229 dn_1796 rfl rfl ⟨Nat.le_of_ble_eq_true rfl, Nat.le_of_ble_eq_true rfl⟩ (hP.sub (ws' := []) [] rfl) (hD.sub (ws' := []) [] (by decide +kernel) rfl) hl.1 rfl (Nat.le_of_ble_eq_true rfl) dX11_choose_197 ⟨Nat.le_of_ble_eq_true rfl, Nat.le_of_ble_eq_true rfl⟩) hP hD hS hA [] [0, 1, 2, 3, 4, 5] rfl rfl (by decide +kernel) (by decide +kernel) (fun x24733563 u H locs hq hP hD hS => ?_)
                                have hP : va_P D vwCl [(a, .inr (11, OX z i1 i2 i3 i4 i5 i6 i7 i8 i30 i43 i45 i46 i47 i48 i49 i50 i51 i58 i59 i65 i68 i69 i72 i78 i80 i81 i82 i87 i92 i96 i100 i103 i104)), ((z 97), .inl (T 0, 12, .inl g97)), ((z 98), .inl (T 0, 12, .inl g98)), ((z 99), .inl (T 0, 12, .inl g99)), ((z 101), .inl (T 0, 8, .inl g101)), ((z 102), .inl (T 0, 8, .inl g102))] H := hP
                                have hD : va_D A [(a, .inr (11, OX z i1 i2 i3 i4 i5 i6 i7 i8 i30 i43 i45 i46 i47 i48 i49 i50 i51 i58 i59 i65 i68 i69 i72 i78 i80 i81 i82 i87 i92 i96 i100 i103 i104)), ((z 97), .inl (T 0, 12, .inl g97)), ((z 98), .inl (T 0, 12, .inl g98)), ((z 99), .inl (T 0, 12, .inl g99)), ((z 101), .inl (T 0, 8, .inl g101)), ((z 102), .inl (T 0, 8, .inl g102))] := hD
                                refine W.widen (k := 0) (n := 0) (Nat.le_refl _) (Nat.le_refl _) ?_
                                refine lv_iload_n hx hb dX11_choose_200 rfl (lv_at hl 6 rfl) ?_
                                refine r_calli (wr := [(a, .inr (11, OX z i1 i2 i3 i4 i5 i6 i7 i8 i30 i43 i45 i46 i47 i48 i49 i50 i51 i58 i59 i65 i68 i69 i72 i78 i80 i81 i82 i87 i92 i96 i100 i103 i104)), ((z 97), .inl (T 0, 12, .inl g97)), ((z 98), .inl (T 0, 12, .inl g98)), ((z 99), .inl (T 0, 12, .inl g99)), ((z 101), .inl (T 0, 8, .inl g101)), ((z 102), .inl (T 0, 8, .inl g102))]) (r_runS2 (As := [.int x24732697]) (rest := [.int x24733563]) (wc := []) C0 hE hStr hS (va_free (wc := []) hD hS hA [] rfl) (h_X11_bitsOf_24600401 l D T sq sv H.size x24732697) mw_1227 mw_1228 mw_14 mw_1229 dn_1796 rfl rfl ⟨Nat.le_of_ble_eq_true rfl, Nat.le_of_ble_eq_true rfl⟩ (hP.sub (ws' := []) [] rfl) (hD.sub (ws' := []) [] (by decide +kernel) rfl) hl.1 rfl (Nat.le_of_ble_eq_true rfl) dX11_choose_201 ⟨Nat.le_of_ble_eq_true rfl, Nat.le_of_ble_eq_true rfl⟩) hP hD hS hA [] [0, 1, 2, 3, 4, 5] rfl rfl (by decide +kernel) (by decide +kernel) (fun x24733564 u H locs hq hP hD hS => ?_)
                                have hP : va_P D vwCl [(a, .inr (11, OX z i1 i2 i3 i4 i5 i6 i7 i8 i30 i43 i45 i46 i47 i48 i49 i50 i51 i58 i59 i65 i68 i69 i72 i78 i80 i81 i82 i87 i92 i96 i100 i103 i104)), ((z 97), .inl (T 0, 12, .inl g97)), ((z 98), .inl (T 0, 12, .inl g98)), ((z 99), .inl (T 0, 12, .inl g99)), ((z 101), .inl (T 0, 8, .inl g101)), ((z 102), .inl (T 0, 8, .inl g102))] H := hP
                                have hD : va_D A [(a, .inr (11, OX z i1 i2 i3 i4 i5 i6 i7 i8 i30 i43 i45 i46 i47 i48 i49 i50 i51 i58 i59 i65 i68 i69 i72 i78 i80 i81 i82 i87 i92 i96 i100 i103 i104)), ((z 97), .inl (T 0, 12, .inl g97)), ((z 98), .inl (T 0, 12, .inl g98)), ((z 99), .inl (T 0, 12, .inl g99)), ((z 101), .inl (T 0, 8, .inl g101)), ((z 102), .inl (T 0, 8, .inl g102))] := hD
                                refine W.widen (k := 0) (n := 0) (Nat.le_refl _) (Nat.le_refl _) ?_
                                refine lv_icmp_ne (tgt := 219) hx hb dX11_choose_204 (by decide) (fun c24733565 => ?_) (fun c24733565 => ?_)
                                · skip
                                  have kc24733565 : x24733563.toInt ≠ x24733564.toInt := ne_ti rfl rfl c24733565
                                  refine lv_iload hx hb dX11_choose_219 (lv_at hl 4 rfl) ?_
                                  refine lv_istore_n (lv' := [(3, .int x24732695), (9, .int x24733530), (8, .int x24733531), (7, .int x24733448), (6, .int x24733449), (5, .int x24732695), (4, .int x24732696), (0, .ref a), (1, .int p1), (2, .int p2)]) hx hb dX11_choose_221 rfl hl (by decide) rfl (fun ls hl => ?_)
                                  refine lv_iload hx hb dX11_choose_222 (lv_at hl 4 rfl) ?_
                                  refine lv_istore (lv' := [(4, .int x24733449), (3, .int x24732695), (9, .int x24733530), (8, .int x24733531), (7, .int x24733448), (6, .int x24733449), (5, .int x24732695), (0, .ref a), (1, .int p1), (2, .int p2)]) hx hb dX11_choose_224 hl (by decide) rfl (fun ls hl => ?_)
                                  exact J24733551 x24733449 x24732695 _ _ ls ⟨by omega, (i32_rng _).2⟩ (hP.sub (ws' := [(a, .inr (11, OX z i1 i2 i3 i4 i5 i6 i7 i8 i30 i43 i45 i46 i47 i48 i49 i50 i51 i58 i59 i65 i68 i69 i72 i78 i80 i81 i82 i87 i92 i96 i100 i103 i104)), ((z 97), .inl (T 0, 12, .inl g97)), ((z 98), .inl (T 0, 12, .inl g98)), ((z 99), .inl (T 0, 12, .inl g99)), ((z 101), .inl (T 0, 8, .inl g101)), ((z 102), .inl (T 0, 8, .inl g102))]) [0, 1, 2, 3, 4, 5] rfl) (hD.sub (ws' := [(a, .inr (11, OX z i1 i2 i3 i4 i5 i6 i7 i8 i30 i43 i45 i46 i47 i48 i49 i50 i51 i58 i59 i65 i68 i69 i72 i78 i80 i81 i82 i87 i92 i96 i100 i103 i104)), ((z 97), .inl (T 0, 12, .inl g97)), ((z 98), .inl (T 0, 12, .inl g98)), ((z 99), .inl (T 0, 12, .inl g99)), ((z 101), .inl (T 0, 8, .inl g101)), ((z 102), .inl (T 0, 8, .inl g102))]) [0, 1, 2, 3, 4, 5] (by decide +kernel) rfl) hS (lv_sub hl [0, 1, 2, 3, 4, 5, 6, 7, 8, 9] rfl)
                                · skip
                                  have kc24733565 : x24733563.toInt = x24733564.toInt := eq_ti rfl rfl c24733565
                                  refine lv_iload hx hb dX11_choose_207 (lv_at hl 4 rfl) ?_
                                  refine lv_iload_n hx hb dX11_choose_209 rfl (lv_at hl 6 rfl) ?_
                                  refine r_calli (wr := [(a, .inr (11, OX z i1 i2 i3 i4 i5 i6 i7 i8 i30 i43 i45 i46 i47 i48 i49 i50 i51 i58 i59 i65 i68 i69 i72 i78 i80 i81 i82 i87 i92 i96 i100 i103 i104)), ((z 97), .inl (T 0, 12, .inl g97)), ((z 98), .inl (T 0, 12, .inl g98)), ((z 99), .inl (T 0, 12, .inl g99)), ((z 101), .inl (T 0, 8, .inl g101)), ((z 102), .inl (T 0, 8, .inl g102))]) (r_runS2 (As := [.int x24732695, .int x24732697]) (rest := []) (wc := []) C0 hE hStr hS (va_free (wc := []) hD hS hA [] rfl) (h_X11_isFirst_24500008 l D T sq sv H.size x24732695 x24732697) mw_1230 mw_1231 mw_14 mw_1232 dn_1795 rfl rfl ⟨Nat.le_of_ble_eq_true rfl, Nat.le_of_ble_eq_true rfl⟩ (hP.sub (ws' := []) [] rfl) (hD.sub (ws' := []) [] (by decide +kernel) rfl) hl.1 rfl (Nat.le_of_ble_eq_true rfl) dX11_choose_210 ⟨Nat.le_of_ble_eq_true rfl, Nat.le_of_ble_eq_true rfl⟩) hP hD hS hA [] [0, 1, 2, 3, 4, 5] rfl rfl (by decide +kernel) (by decide +kernel) (fun x24733566 u H locs hq hP hD hS => ?_)
                                  have hx24733566 := hq
                                  have hx24733566 : 0 ≤ x24733566.toInt ∧ x24733566.toInt ≤ 1 := hx24733566
                                  have hP : va_P D vwCl [(a, .inr (11, OX z i1 i2 i3 i4 i5 i6 i7 i8 i30 i43 i45 i46 i47 i48 i49 i50 i51 i58 i59 i65 i68 i69 i72 i78 i80 i81 i82 i87 i92 i96 i100 i103 i104)), ((z 97), .inl (T 0, 12, .inl g97)), ((z 98), .inl (T 0, 12, .inl g98)), ((z 99), .inl (T 0, 12, .inl g99)), ((z 101), .inl (T 0, 8, .inl g101)), ((z 102), .inl (T 0, 8, .inl g102))] H := hP
                                  have hD : va_D A [(a, .inr (11, OX z i1 i2 i3 i4 i5 i6 i7 i8 i30 i43 i45 i46 i47 i48 i49 i50 i51 i58 i59 i65 i68 i69 i72 i78 i80 i81 i82 i87 i92 i96 i100 i103 i104)), ((z 97), .inl (T 0, 12, .inl g97)), ((z 98), .inl (T 0, 12, .inl g98)), ((z 99), .inl (T 0, 12, .inl g99)), ((z 101), .inl (T 0, 8, .inl g101)), ((z 102), .inl (T 0, 8, .inl g102))] := hD
                                  refine W.widen (k := 0) (n := 0) (Nat.le_refl _) (Nat.le_refl _) ?_
                                  refine lv_if_ne (tgt := 219) hx hb dX11_choose_213 (by decide) (fun c24733567 => ?_) (fun c24733567 => ?_)
                                  · skip
                                    have kc24733567 : x24733566.toInt ≠ 0 := ne_ti rfl (by decide) c24733567
                                    have nzx24733566 : ¬ x24733566 = 0 := c24733567
                                    refine lv_iload hx hb dX11_choose_219 (lv_at hl 4 rfl) ?_
                                    refine lv_istore_n (lv' := [(3, .int x24732695), (9, .int x24733530), (8, .int x24733531), (7, .int x24733448), (6, .int x24733449), (5, .int x24732695), (4, .int x24732696), (0, .ref a), (1, .int p1), (2, .int p2)]) hx hb dX11_choose_221 rfl hl (by decide) rfl (fun ls hl => ?_)
                                    refine lv_iload hx hb dX11_choose_222 (lv_at hl 4 rfl) ?_
                                    refine lv_istore (lv' := [(4, .int x24733449), (3, .int x24732695), (9, .int x24733530), (8, .int x24733531), (7, .int x24733448), (6, .int x24733449), (5, .int x24732695), (0, .ref a), (1, .int p1), (2, .int p2)]) hx hb dX11_choose_224 hl (by decide) rfl (fun ls hl => ?_)
                                    exact J24733551 x24733449 x24732695 _ _ ls ⟨by omega, (i32_rng _).2⟩ (hP.sub (ws' := [(a, .inr (11, OX z i1 i2 i3 i4 i5 i6 i7 i8 i30 i43 i45 i46 i47 i48 i49 i50 i51 i58 i59 i65 i68 i69 i72 i78 i80 i81 i82 i87 i92 i96 i100 i103 i104)), ((z 97), .inl (T 0, 12, .inl g97)), ((z 98), .inl (T 0, 12, .inl g98)), ((z 99), .inl (T 0, 12, .inl g99)), ((z 101), .inl (T 0, 8, .inl g101)), ((z 102), .inl (T 0, 8, .inl g102))]) [0, 1, 2, 3, 4, 5] rfl) (hD.sub (ws' := [(a, .inr (11, OX z i1 i2 i3 i4 i5 i6 i7 i8 i30 i43 i45 i46 i47 i48 i49 i50 i51 i58 i59 i65 i68 i69 i72 i78 i80 i81 i82 i87 i92 i96 i100 i103 i104)), ((z 97), .inl (T 0, 12, .inl g97)), ((z 98), .inl (T 0, 12, .inl g98)), ((z 99), .inl (T 0, 12, .inl g99)), ((z 101), .inl (T 0, 8, .inl g101)), ((z 102), .inl (T 0, 8, .inl g102))]) [0, 1, 2, 3, 4, 5] (by decide +kernel) rfl) hS (lv_sub hl [0, 1, 2, 3, 4, 5, 6, 7, 8, 9] rfl)
                                  · skip
                                    have kc24733567 : x24733566.toInt = 0 := eq_ti rfl (by decide) c24733567
                                    refine lv_goto (tgt := 226) hx hb dX11_choose_216 (by decide) ?_
                                    exact J24733551 x24732696 x24732697 _ _ ls ⟨by omega, (i32_rng _).2⟩ (hP.sub (ws' := [(a, .inr (11, OX z i1 i2 i3 i4 i5 i6 i7 i8 i30 i43 i45 i46 i47 i48 i49 i50 i51 i58 i59 i65 i68 i69 i72 i78 i80 i81 i82 i87 i92 i96 i100 i103 i104)), ((z 97), .inl (T 0, 12, .inl g97)), ((z 98), .inl (T 0, 12, .inl g98)), ((z 99), .inl (T 0, 12, .inl g99)), ((z 101), .inl (T 0, 8, .inl g101)), ((z 102), .inl (T 0, 8, .inl g102))]) [0, 1, 2, 3, 4, 5] rfl) (hD.sub (ws' := [(a, .inr (11, OX z i1 i2 i3 i4 i5 i6 i7 i8 i30 i43 i45 i46 i47 i48 i49 i50 i51 i58 i59 i65 i68 i69 i72 i78 i80 i81 i82 i87 i92 i96 i100 i103 i104)), ((z 97), .inl (T 0, 12, .inl g97)), ((z 98), .inl (T 0, 12, .inl g98)), ((z 99), .inl (T 0, 12, .inl g99)), ((z 101), .inl (T 0, 8, .inl g101)), ((z 102), .inl (T 0, 8, .inl g102))]) [0, 1, 2, 3, 4, 5] (by decide +kernel) rfl) hS (lv_sub hl [5, 6, 0, 1, 2, 3, 4, 7, 8, 9] rfl)
                      · skip
                        have kc24733533 : x24733531.toInt = 0 := eq_ti rfl (by decide) c24733533
                        refine lv_goto (tgt := 226) hx hb dX11_choose_161 (by decide) ?_
                        exact J24733551 x24732696 x24732697 _ _ ls ⟨by omega, (i32_rng _).2⟩ (hP.sub (ws' := [(a, .inr (11, OX z i1 i2 i3 i4 i5 i6 i7 i8 i30 i43 i45 i46 i47 i48 i49 i50 i51 i58 i59 i65 i68 i69 i72 i78 i80 i81 i82 i87 i92 i96 i100 i103 i104)), ((z 97), .inl (T 0, 12, .inl g97)), ((z 98), .inl (T 0, 12, .inl g98)), ((z 99), .inl (T 0, 12, .inl g99)), ((z 101), .inl (T 0, 8, .inl g101)), ((z 102), .inl (T 0, 8, .inl g102))]) [0, 1, 2, 3, 4, 5] rfl) (hD.sub (ws' := [(a, .inr (11, OX z i1 i2 i3 i4 i5 i6 i7 i8 i30 i43 i45 i46 i47 i48 i49 i50 i51 i58 i59 i65 i68 i69 i72 i78 i80 i81 i82 i87 i92 i96 i100 i103 i104)), ((z 97), .inl (T 0, 12, .inl g97)), ((z 98), .inl (T 0, 12, .inl g98)), ((z 99), .inl (T 0, 12, .inl g99)), ((z 101), .inl (T 0, 8, .inl g101)), ((z 102), .inl (T 0, 8, .inl g102))]) [0, 1, 2, 3, 4, 5] (by decide +kernel) rfl) hS (lv_sub hl [5, 6, 0, 1, 2, 3, 4, 7, 8, 9] rfl)
                    have L24733568 : ∀ (n : Nat) (x24733524 : Int32) (x24733525 : Int32) (H : Heap) (locs : List Loc) (ls : Array Slot), (0 ≤ x24733524.toInt ∧ x24733524.toInt ≤ 8) → (0 ≤ x24733525.toInt ∧ x24733525.toInt ≤ 1) → (9 - x24733524.toInt).toNat < n → va_P D vwCl [(a, .inr (11, OX z i1 i2 i3 i4 i5 i6 i7 i8 i30 i43 i45 i46 i47 i48 i49 i50 i51 i58 i59 i65 i68 i69 i72 i78 i80 i81 i82 i87 i92 i96 i100 i103 i104)), ((z 97), .inl (T 0, 12, .inl g97)), ((z 98), .inl (T 0, 12, .inl g98)), ((z 99), .inl (T 0, 12, .inl g99)), ((z 101), .inl (T 0, 8, .inl g101)), ((z 102), .inl (T 0, 8, .inl g102))] H → va_D A [(a, .inr (11, OX z i1 i2 i3 i4 i5 i6 i7 i8 i30 i43 i45 i46 i47 i48 i49 i50 i51 i58 i59 i65 i68 i69 i72 i78 i80 i81 i82 i87 i92 i96 i100 i103 i104)), ((z 97), .inl (T 0, 12, .inl g97)), ((z 98), .inl (T 0, 12, .inl g98)), ((z 99), .inl (T 0, 12, .inl g99)), ((z 101), .inl (T 0, 8, .inl g101)), ((z 102), .inl (T 0, 8, .inl g102))] → va_S A s.heap H locs → lv_has ls 10 [(9, .int x24733524), (8, .int x24733525), (7, .int x24733448), (6, .int x24733449), (5, .int x24732695), (4, .int x24732696), (3, .int x24732697), (0, .ref a), (1, .int p1), (2, .int p2)] → W p l e { frames := 2, cells := 0, slots := 0, locals := 52 } s m args below meth c H locs 0 0 (MQ below ((Qi (S := Int32 × Int32) (fun (r : Int32) (u : Int32 × Int32) => match u with | (ui103, ui104) => True) (fun (u : Int32 × Int32) => match u with | (ui103, ui104) => [(a, .inr (11, OX z i1 i2 i3 i4 i5 i6 i7 i8 i30 i43 i45 i46 i47 i48 i49 i50 i51 i58 i59 i65 i68 i69 i72 i78 i80 i81 i82 i87 i92 i96 i100 ui103 ui104)), ((z 97), .inl (T 0, 12, .inl g97)), ((z 98), .inl (T 0, 12, .inl g98)), ((z 99), .inl (T 0, 12, .inl g99)), ((z 101), .inl (T 0, 8, .inl g101)), ((z 102), .inl (T 0, 8, .inl g102))]) D) A) args s 0 0 A) (F0 m 125 ls []) := by
                      intro n
                      induction n with
                      | zero =>
                        intro x24733524 x24733525 H locs ls hx24733524 hx24733525 hms hP hD hS hl
                        exact absurd hms (Nat.not_lt_zero _)
                      | succ n ih24733569 =>
                        intro x24733524 x24733525 H locs ls hx24733524 hx24733525 hms hP hD hS hl
                        refine lv_iload hx hb dX11_choose_125 (lv_at hl 0 rfl) ?_
                        refine lv_aload_n hx hb dX11_choose_127 rfl (lv_at hl 7 rfl) ?_
                        refine r_get (v := .int i100) C0 hE ffX11_100 mw_890 hP 0 rfl ox_100 dX11_choose_128 ?_
                        refine lv_icmp_ge (tgt := 156) hx hb dX11_choose_131 (by decide) (fun c24733570 => ?_) (fun c24733570 => ?_)
                        · skip
                          have kc24733570 : i100.toInt ≤ x24733524.toInt := le_ti rfl rfl c24733570
                          exact J24733532 x24733524 x24733525 _ _ ls ⟨by omega, by omega⟩ ⟨by omega, by omega⟩ (hP.sub (ws' := [(a, .inr (11, OX z i1 i2 i3 i4 i5 i6 i7 i8 i30 i43 i45 i46 i47 i48 i49 i50 i51 i58 i59 i65 i68 i69 i72 i78 i80 i81 i82 i87 i92 i96 i100 i103 i104)), ((z 97), .inl (T 0, 12, .inl g97)), ((z 98), .inl (T 0, 12, .inl g98)), ((z 99), .inl (T 0, 12, .inl g99)), ((z 101), .inl (T 0, 8, .inl g101)), ((z 102), .inl (T 0, 8, .inl g102))]) [0, 1, 2, 3, 4, 5] rfl) (hD.sub (ws' := [(a, .inr (11, OX z i1 i2 i3 i4 i5 i6 i7 i8 i30 i43 i45 i46 i47 i48 i49 i50 i51 i58 i59 i65 i68 i69 i72 i78 i80 i81 i82 i87 i92 i96 i100 i103 i104)), ((z 97), .inl (T 0, 12, .inl g97)), ((z 98), .inl (T 0, 12, .inl g98)), ((z 99), .inl (T 0, 12, .inl g99)), ((z 101), .inl (T 0, 8, .inl g101)), ((z 102), .inl (T 0, 8, .inl g102))]) [0, 1, 2, 3, 4, 5] (by decide +kernel) rfl) hS (lv_sub hl [0, 1, 2, 3, 4, 5, 6, 7, 8, 9] rfl)
                        · skip
                          have kc24733570 : x24733524.toInt < i100.toInt := nle_ti rfl rfl c24733570
                          refine lv_iload hx hb dX11_choose_134 (lv_at hl 1 rfl) ?_
                          refine lv_if_eq (tgt := 156) hx hb dX11_choose_136 (by decide) (fun c24733571 => ?_) (fun c24733571 => ?_)
                          · skip
                            have kc24733571 : x24733525.toInt = 0 := eq_ti rfl (by decide) c24733571
                            exact J24733532 x24733524 x24733525 _ _ ls ⟨by omega, by omega⟩ ⟨by omega, by omega⟩ (hP.sub (ws' := [(a, .inr (11, OX z i1 i2 i3 i4 i5 i6 i7 i8 i30 i43 i45 i46 i47 i48 i49 i50 i51 i58 i59 i65 i68 i69 i72 i78 i80 i81 i82 i87 i92 i96 i100 i103 i104)), ((z 97), .inl (T 0, 12, .inl g97)), ((z 98), .inl (T 0, 12, .inl g98)), ((z 99), .inl (T 0, 12, .inl g99)), ((z 101), .inl (T 0, 8, .inl g101)), ((z 102), .inl (T 0, 8, .inl g102))]) [0, 1, 2, 3, 4, 5] rfl) (hD.sub (ws' := [(a, .inr (11, OX z i1 i2 i3 i4 i5 i6 i7 i8 i30 i43 i45 i46 i47 i48 i49 i50 i51 i58 i59 i65 i68 i69 i72 i78 i80 i81 i82 i87 i92 i96 i100 i103 i104)), ((z 97), .inl (T 0, 12, .inl g97)), ((z 98), .inl (T 0, 12, .inl g98)), ((z 99), .inl (T 0, 12, .inl g99)), ((z 101), .inl (T 0, 8, .inl g101)), ((z 102), .inl (T 0, 8, .inl g102))]) [0, 1, 2, 3, 4, 5] (by decide +kernel) rfl) hS (lv_sub hl [0, 1, 2, 3, 4, 5, 6, 7, 8, 9] rfl)
                          · skip
                            have kc24733571 : x24733525.toInt ≠ 0 := ne_ti rfl (by decide) c24733571
                            have nzx24733525 : ¬ x24733525 = 0 := c24733571
                            refine lv_aload_n hx hb dX11_choose_139 rfl (lv_at hl 7 rfl) ?_
                            refine lv_iload hx hb dX11_choose_140 (lv_at hl 4 rfl) ?_
                            refine lv_iload hx hb dX11_choose_142 (lv_at hl 0 rfl) ?_
                            refine lv_iload_n hx hb dX11_choose_144 rfl (lv_at hl 8 rfl) ?_
                            refine r_calli (wr := [((z 99), .inl (T 0, 12, .inl g99))]) (r_runV2 (As := [.int x24732695, .int x24733524, .int p1]) (rest := []) (wc := [(a, .inr (11, OX z i1 i2 i3 i4 i5 i6 i7 i8 i30 i43 i45 i46 i47 i48 i49 i50 i51 i58 i59 i65 i68 i69 i72 i78 i80 i81 i82 i87 i92 i96 i100 i103 i104)), ((z 97), .inl (T 0, 12, .inl g97)), ((z 98), .inl (T 0, 12, .inl g98)), ((z 101), .inl (T 0, 8, .inl g101)), ((z 102), .inl (T 0, 8, .inl g102))]) (ci := 11) C0 hE hStr hS (va_free (wc := [(a, .inr (11, OX z i1 i2 i3 i4 i5 i6 i7 i8 i30 i43 i45 i46 i47 i48 i49 i50 i51 i58 i59 i65 i68 i69 i72 i78 i80 i81 i82 i87 i92 i96 i100 i103 i104)), ((z 97), .inl (T 0, 12, .inl g97)), ((z 98), .inl (T 0, 12, .inl g98)), ((z 101), .inl (T 0, 8, .inl g101)), ((z 102), .inl (T 0, 8, .inl g102))]) hD hS hA [0, 1, 2, 4, 5] rfl) (h_X11_holdsForce_24400376 l D T sq sv H.size a z i1 i2 i3 i4 i5 i6 i7 i8 i30 i43 i45 i46 i47 i48 i49 i50 i51 i58 i59 i65 i68 i69 i72 i78 i80 i81 i82 i87 i92 i96 i100 i103 i104 x24732695 x24733524 p1 g97 g98 g101 g102 ⟨by omega, by omega⟩ ⟨by omega, by omega⟩) mw_1224 mw_1225 mw_1349 mw_14 mw_1226 dn_1794 rfl rfl ⟨Nat.le_of_ble_eq_true rfl, Nat.le_of_ble_eq_true rfl⟩ (hP.sub (ws' := [(a, .inr (11, OX z i1 i2 i3 i4 i5 i6 i7 i8 i30 i43 i45 i46 i47 i48 i49 i50 i51 i58 i59 i65 i68 i69 i72 i78 i80 i81 i82 i87 i92 i96 i100 i103 i104)), ((z 97), .inl (T 0, 12, .inl g97)), ((z 98), .inl (T 0, 12, .inl g98)), ((z 101), .inl (T 0, 8, .inl g101)), ((z 102), .inl (T 0, 8, .inl g102))]) [0, 1, 2, 4, 5] rfl) (hD.sub (ws' := [(a, .inr (11, OX z i1 i2 i3 i4 i5 i6 i7 i8 i30 i43 i45 i46 i47 i48 i49 i50 i51 i58 i59 i65 i68 i69 i72 i78 i80 i81 i82 i87 i92 i96 i100 i103 i104)), ((z 97), .inl (T 0, 12, .inl g97)), ((z 98), .inl (T 0, 12, .inl g98)), ((z 101), .inl (T 0, 8, .inl g101)), ((z 102), .inl (T 0, 8, .inl g102))]) [0, 1, 2, 4, 5] (by decide +kernel) rfl) rfl rfl rfl hl.1 rfl (Nat.le_of_ble_eq_true rfl) dX11_choose_145 ⟨Nat.le_of_ble_eq_true rfl, Nat.le_of_ble_eq_true rfl⟩) hP hD hS hA [0, 1, 2, 4, 5] [3] rfl rfl (by decide +kernel) (by decide +kernel) (fun x24733572 u H locs hq hP hD hS => ?_)
                            have hx24733572 := hq
                            have hx24733572 : 0 ≤ x24733572.toInt ∧ x24733572.toInt ≤ 1 := hx24733572
                            have hP : va_P D vwCl [((z 99), .inl (T 0, 12, .inl g99)), (a, .inr (11, OX z i1 i2 i3 i4 i5 i6 i7 i8 i30 i43 i45 i46 i47 i48 i49 i50 i51 i58 i59 i65 i68 i69 i72 i78 i80 i81 i82 i87 i92 i96 i100 i103 i104)), ((z 97), .inl (T 0, 12, .inl g97)), ((z 98), .inl (T 0, 12, .inl g98)), ((z 101), .inl (T 0, 8, .inl g101)), ((z 102), .inl (T 0, 8, .inl g102))] H := hP
                            have hD : va_D A [((z 99), .inl (T 0, 12, .inl g99)), (a, .inr (11, OX z i1 i2 i3 i4 i5 i6 i7 i8 i30 i43 i45 i46 i47 i48 i49 i50 i51 i58 i59 i65 i68 i69 i72 i78 i80 i81 i82 i87 i92 i96 i100 i103 i104)), ((z 97), .inl (T 0, 12, .inl g97)), ((z 98), .inl (T 0, 12, .inl g98)), ((z 101), .inl (T 0, 8, .inl g101)), ((z 102), .inl (T 0, 8, .inl g102))] := hD
                            refine W.widen (k := 0) (n := 0) (Nat.le_refl _) (Nat.le_refl _) ?_
                            refine lv_istore (lv' := [(8, .int x24733572), (9, .int x24733524), (7, .int x24733448), (6, .int x24733449), (5, .int x24732695), (4, .int x24732696), (3, .int x24732697), (0, .ref a), (1, .int p1), (2, .int p2)]) hx hb dX11_choose_148 hl (by decide) rfl (fun ls hl => ?_)
                            obtain ⟨x24733573, ex24733573⟩ : ∃ y : Int32, y = x24733524 + 1 := ⟨_, rfl⟩
                            have hx24733573 : x24733573.toInt = x24733524.toInt + 1 := ti_add ex24733573 rfl (by decide) (by omega) (by omega)
                            refine lv_iinc (v := x24733573) (lv' := [(9, .int x24733573), (8, .int x24733572), (7, .int x24733448), (6, .int x24733449), (5, .int x24732695), (4, .int x24732696), (3, .int x24732697), (0, .ref a), (1, .int p1), (2, .int p2)]) hx hb dX11_choose_150 hl (k := 1) rfl (by rw [ex24733573]; rfl) (by decide) rfl (fun ls hl => ?_)
                            refine lv_goto (tgt := 125) hx hb dX11_choose_153 (by decide) ?_
                            exact ih24733569 x24733573 x24733572 _ _ ls ⟨by omega, by omega⟩ ⟨by omega, by omega⟩ (by omega) (hP.sub (ws' := [(a, .inr (11, OX z i1 i2 i3 i4 i5 i6 i7 i8 i30 i43 i45 i46 i47 i48 i49 i50 i51 i58 i59 i65 i68 i69 i72 i78 i80 i81 i82 i87 i92 i96 i100 i103 i104)), ((z 97), .inl (T 0, 12, .inl g97)), ((z 98), .inl (T 0, 12, .inl g98)), ((z 99), .inl (T 0, 12, .inl g99)), ((z 101), .inl (T 0, 8, .inl g101)), ((z 102), .inl (T 0, 8, .inl g102))]) [1, 2, 3, 0, 4, 5] rfl) (hD.sub (ws' := [(a, .inr (11, OX z i1 i2 i3 i4 i5 i6 i7 i8 i30 i43 i45 i46 i47 i48 i49 i50 i51 i58 i59 i65 i68 i69 i72 i78 i80 i81 i82 i87 i92 i96 i100 i103 i104)), ((z 97), .inl (T 0, 12, .inl g97)), ((z 98), .inl (T 0, 12, .inl g98)), ((z 99), .inl (T 0, 12, .inl g99)), ((z 101), .inl (T 0, 8, .inl g101)), ((z 102), .inl (T 0, 8, .inl g102))]) [1, 2, 3, 0, 4, 5] (by decide +kernel) rfl) hS (lv_sub hl [0, 1, 2, 3, 4, 5, 6, 7, 8, 9] rfl)
                    exact L24733568 _ 0 x24733477 _ _ ls ⟨by decide, by decide⟩ ⟨by omega, by omega⟩ (Nat.lt_succ_self _) (hP.sub (ws' := [(a, .inr (11, OX z i1 i2 i3 i4 i5 i6 i7 i8 i30 i43 i45 i46 i47 i48 i49 i50 i51 i58 i59 i65 i68 i69 i72 i78 i80 i81 i82 i87 i92 i96 i100 i103 i104)), ((z 97), .inl (T 0, 12, .inl g97)), ((z 98), .inl (T 0, 12, .inl g98)), ((z 99), .inl (T 0, 12, .inl g99)), ((z 101), .inl (T 0, 8, .inl g101)), ((z 102), .inl (T 0, 8, .inl g102))]) [0, 1, 2, 3, 4, 5] rfl) (hD.sub (ws' := [(a, .inr (11, OX z i1 i2 i3 i4 i5 i6 i7 i8 i30 i43 i45 i46 i47 i48 i49 i50 i51 i58 i59 i65 i68 i69 i72 i78 i80 i81 i82 i87 i92 i96 i100 i103 i104)), ((z 97), .inl (T 0, 12, .inl g97)), ((z 98), .inl (T 0, 12, .inl g98)), ((z 99), .inl (T 0, 12, .inl g99)), ((z 101), .inl (T 0, 8, .inl g101)), ((z 102), .inl (T 0, 8, .inl g102))]) [0, 1, 2, 3, 4, 5] (by decide +kernel) rfl) hS (lv_sub hl [0, 1, 2, 3, 4, 5, 6, 7, 8, 9] rfl)
                  refine lv_icmp_gt (tgt := 119) hx hb dX11_choose_112 (by decide) (fun c24733476 => ?_) (fun c24733476 => ?_)
                  · skip
                    have kc24733476 : p2.toInt < x24733448.toInt := lt_ti rfl rfl c24733476
                    have rg24733574 := i32_rng x24733448
                    refine lv_iconst (v := 0) hx hb dX11_choose_119 (by decide) ?_
                    exact J24733478 0 _ _ ls ⟨by decide, by decide⟩ (hP.sub (ws' := [(a, .inr (11, OX z i1 i2 i3 i4 i5 i6 i7 i8 i30 i43 i45 i46 i47 i48 i49 i50 i51 i58 i59 i65 i68 i69 i72 i78 i80 i81 i82 i87 i92 i96 i100 i103 i104)), ((z 97), .inl (T 0, 12, .inl g97)), ((z 98), .inl (T 0, 12, .inl g98)), ((z 99), .inl (T 0, 12, .inl g99)), ((z 101), .inl (T 0, 8, .inl g101)), ((z 102), .inl (T 0, 8, .inl g102))]) [0, 1, 2, 3, 4, 5] rfl) (hD.sub (ws' := [(a, .inr (11, OX z i1 i2 i3 i4 i5 i6 i7 i8 i30 i43 i45 i46 i47 i48 i49 i50 i51 i58 i59 i65 i68 i69 i72 i78 i80 i81 i82 i87 i92 i96 i100 i103 i104)), ((z 97), .inl (T 0, 12, .inl g97)), ((z 98), .inl (T 0, 12, .inl g98)), ((z 99), .inl (T 0, 12, .inl g99)), ((z 101), .inl (T 0, 8, .inl g101)), ((z 102), .inl (T 0, 8, .inl g102))]) [0, 1, 2, 3, 4, 5] (by decide +kernel) rfl) hS (lv_sub hl [0, 1, 2, 3, 4, 5, 6, 7, 8] rfl)
                  · skip
                    have kc24733476 : x24733448.toInt ≤ p2.toInt := nlt_ti rfl rfl c24733476
                    refine lv_iconst (v := 1) hx hb dX11_choose_115 (by decide) ?_
                    refine lv_goto (tgt := 120) hx hb dX11_choose_116 (by decide) ?_
                    exact J24733478 1 _ _ ls ⟨by decide, by decide⟩ (hP.sub (ws' := [(a, .inr (11, OX z i1 i2 i3 i4 i5 i6 i7 i8 i30 i43 i45 i46 i47 i48 i49 i50 i51 i58 i59 i65 i68 i69 i72 i78 i80 i81 i82 i87 i92 i96 i100 i103 i104)), ((z 97), .inl (T 0, 12, .inl g97)), ((z 98), .inl (T 0, 12, .inl g98)), ((z 99), .inl (T 0, 12, .inl g99)), ((z 101), .inl (T 0, 8, .inl g101)), ((z 102), .inl (T 0, 8, .inl g102))]) [0, 1, 2, 3, 4, 5] rfl) (hD.sub (ws' := [(a, .inr (11, OX z i1 i2 i3 i4 i5 i6 i7 i8 i30 i43 i45 i46 i47 i48 i49 i50 i51 i58 i59 i65 i68 i69 i72 i78 i80 i81 i82 i87 i92 i96 i100 i103 i104)), ((z 97), .inl (T 0, 12, .inl g97)), ((z 98), .inl (T 0, 12, .inl g98)), ((z 99), .inl (T 0, 12, .inl g99)), ((z 101), .inl (T 0, 8, .inl g101)), ((z 102), .inl (T 0, 8, .inl g102))]) [0, 1, 2, 3, 4, 5] (by decide +kernel) rfl) hS (lv_sub hl [0, 1, 2, 3, 4, 5, 6, 7, 8] rfl)
                · skip
                  have kc24733464 : x24733447.toInt < i96.toInt := nle_ti rfl rfl c24733464
                  refine lv_iload hx hb dX11_choose_63 (lv_at hl 2 rfl) ?_
                  refine lv_iload hx hb dX11_choose_65 (lv_at hl 3 rfl) ?_
                  refine lv_iload hx hb dX11_choose_67 (lv_at hl 0 rfl) ?_
                  refine lv_ishr hx hb dX11_choose_69 ?_
                  refine lv_topi (fun x24733575 ex24733575 => ?_)
                  refine lv_iconst (v := 1) hx hb dX11_choose_70 (by decide) ?_
                  refine lv_iand hx hb dX11_choose_71 ?_
                  refine lv_topi (fun x24733576 ex24733576 => ?_)
                  have hx24733576 : 0 ≤ x24733576.toInt ∧ x24733576.toInt ≤ 1 := and_ti 1 1 (by decide) (by decide) (by decide) ex24733576
                  refine lv_aload_n hx hb dX11_choose_72 rfl (lv_at hl 6 rfl) ?_
                  refine r_get (v := .ref (z 99)) C0 hE ffX11_99 mw_889 hP 0 rfl ox_99 dX11_choose_73 ?_
                  refine lv_iload hx hb dX11_choose_76 (lv_at hl 0 rfl) ?_
                  refine va_iald hx hb hK hP 3 0 rfl rfl (in_ti rfl (by omega) (by omega)) dX11_choose_78 ?_
                  refine lv_topi (fun x24733577 ex24733577 => ?_)
                  refine lv_imul hx hb dX11_choose_79 ?_
                  refine lv_topi (fun x24733578 ex24733578 => ?_)
                  refine lv_iadd hx hb dX11_choose_80 ?_
                  refine lv_topi (fun x24733579 ex24733579 => ?_)
                  refine lv_istore (lv' := [(6, .int x24733579), (8, .int x24733447), (7, .int x24733448), (5, .int x24732695), (4, .int x24732696), (3, .int x24732697), (0, .ref a), (1, .int p1), (2, .int p2)]) hx hb dX11_choose_81 hl (by decide) rfl (fun ls hl => ?_)
                  refine lv_iload hx hb dX11_choose_83 (lv_at hl 2 rfl) ?_
                  refine lv_iload hx hb dX11_choose_85 (lv_at hl 3 rfl) ?_
                  refine lv_iload hx hb dX11_choose_87 (lv_at hl 1 rfl) ?_
                  refine lv_ishr hx hb dX11_choose_89 ?_
                  refine lv_topi (fun x24733580 ex24733580 => ?_)
                  refine lv_iconst (v := 1) hx hb dX11_choose_90 (by decide) ?_
                  refine lv_iand hx hb dX11_choose_91 ?_
                  refine lv_topi (fun x24733581 ex24733581 => ?_)
                  have hx24733581 : 0 ≤ x24733581.toInt ∧ x24733581.toInt ≤ 1 := and_ti 1 1 (by decide) (by decide) (by decide) ex24733581
                  refine lv_aload_n hx hb dX11_choose_92 rfl (lv_at hl 6 rfl) ?_
                  refine r_get (v := .ref (z 98)) C0 hE ffX11_98 mw_888 hP 0 rfl ox_98 dX11_choose_93 ?_
                  refine lv_iload hx hb dX11_choose_96 (lv_at hl 1 rfl) ?_
                  refine va_iald hx hb hK hP 2 0 rfl rfl (in_ti rfl (by omega) (by omega)) dX11_choose_98 ?_
                  refine lv_topi (fun x24733582 ex24733582 => ?_)
                  refine lv_imul hx hb dX11_choose_99 ?_
                  refine lv_topi (fun x24733583 ex24733583 => ?_)
                  refine lv_iadd hx hb dX11_choose_100 ?_
                  refine lv_topi (fun x24733584 ex24733584 => ?_)
                  refine lv_istore (lv' := [(7, .int x24733584), (6, .int x24733579), (8, .int x24733447), (5, .int x24732695), (4, .int x24732696), (3, .int x24732697), (0, .ref a), (1, .int p1), (2, .int p2)]) hx hb dX11_choose_101 hl (by decide) rfl (fun ls hl => ?_)
                  obtain ⟨x24733585, ex24733585⟩ : ∃ y : Int32, y = x24733447 + 1 := ⟨_, rfl⟩
                  have hx24733585 : x24733585.toInt = x24733447.toInt + 1 := ti_add ex24733585 rfl (by decide) (by omega) (by omega)
                  refine lv_iinc (v := x24733585) (lv' := [(8, .int x24733585), (7, .int x24733584), (6, .int x24733579), (5, .int x24732695), (4, .int x24732696), (3, .int x24732697), (0, .ref a), (1, .int p1), (2, .int p2)]) hx hb dX11_choose_103 hl (k := 2) rfl (by rw [ex24733585]; rfl) (by decide) rfl (fun ls hl => ?_)
                  refine lv_goto (tgt := 54) hx hb dX11_choose_106 (by decide) ?_
                  exact ih24733463 x24733585 x24733584 x24733579 _ _ ls ⟨by omega, by omega⟩ (by omega) (hP.sub (ws' := [(a, .inr (11, OX z i1 i2 i3 i4 i5 i6 i7 i8 i30 i43 i45 i46 i47 i48 i49 i50 i51 i58 i59 i65 i68 i69 i72 i78 i80 i81 i82 i87 i92 i96 i100 i103 i104)), ((z 97), .inl (T 0, 12, .inl g97)), ((z 98), .inl (T 0, 12, .inl g98)), ((z 99), .inl (T 0, 12, .inl g99)), ((z 101), .inl (T 0, 8, .inl g101)), ((z 102), .inl (T 0, 8, .inl g102))]) [0, 1, 2, 3, 4, 5] rfl) (hD.sub (ws' := [(a, .inr (11, OX z i1 i2 i3 i4 i5 i6 i7 i8 i30 i43 i45 i46 i47 i48 i49 i50 i51 i58 i59 i65 i68 i69 i72 i78 i80 i81 i82 i87 i92 i96 i100 i103 i104)), ((z 97), .inl (T 0, 12, .inl g97)), ((z 98), .inl (T 0, 12, .inl g98)), ((z 99), .inl (T 0, 12, .inl g99)), ((z 101), .inl (T 0, 8, .inl g101)), ((z 102), .inl (T 0, 8, .inl g102))]) [0, 1, 2, 3, 4, 5] (by decide +kernel) rfl) hS (lv_sub hl [0, 1, 2, 3, 4, 5, 6, 7, 8] rfl)
            exact L24733462 _ 0 0 0 _ _ ls ⟨by decide, by decide⟩ (Nat.lt_succ_self _) (hP.sub (ws' := [(a, .inr (11, OX z i1 i2 i3 i4 i5 i6 i7 i8 i30 i43 i45 i46 i47 i48 i49 i50 i51 i58 i59 i65 i68 i69 i72 i78 i80 i81 i82 i87 i92 i96 i100 i103 i104)), ((z 97), .inl (T 0, 12, .inl g97)), ((z 98), .inl (T 0, 12, .inl g98)), ((z 99), .inl (T 0, 12, .inl g99)), ((z 101), .inl (T 0, 8, .inl g101)), ((z 102), .inl (T 0, 8, .inl g102))]) [0, 1, 2, 3, 4, 5] rfl) (hD.sub (ws' := [(a, .inr (11, OX z i1 i2 i3 i4 i5 i6 i7 i8 i30 i43 i45 i46 i47 i48 i49 i50 i51 i58 i59 i65 i68 i69 i72 i78 i80 i81 i82 i87 i92 i96 i100 i103 i104)), ((z 97), .inl (T 0, 12, .inl g97)), ((z 98), .inl (T 0, 12, .inl g98)), ((z 99), .inl (T 0, 12, .inl g99)), ((z 101), .inl (T 0, 8, .inl g101)), ((z 102), .inl (T 0, 8, .inl g102))]) [0, 1, 2, 3, 4, 5] (by decide +kernel) rfl) hS (lv_sub hl [0, 1, 2, 3, 4, 5, 6, 7, 8] rfl)
      exact L24732982 _ 0 0 (-1) _ _ ls ⟨by decide, by decide⟩ ⟨by decide, by decide⟩ (Nat.lt_succ_self _) (hP.sub (ws' := [(a, .inr (11, OX z i1 i2 i3 i4 i5 i6 i7 i8 i30 i43 i45 i46 i47 i48 i49 i50 i51 i58 i59 i65 i68 i69 i72 i78 i80 i81 i82 i87 i92 i96 i100 i103 i104)), ((z 97), .inl (T 0, 12, .inl g97)), ((z 98), .inl (T 0, 12, .inl g98)), ((z 99), .inl (T 0, 12, .inl g99)), ((z 101), .inl (T 0, 8, .inl g101)), ((z 102), .inl (T 0, 8, .inl g102))]) [0, 1, 2, 3, 4, 5] rfl) (hD.sub (ws' := [(a, .inr (11, OX z i1 i2 i3 i4 i5 i6 i7 i8 i30 i43 i45 i46 i47 i48 i49 i50 i51 i58 i59 i65 i68 i69 i72 i78 i80 i81 i82 i87 i92 i96 i100 i103 i104)), ((z 97), .inl (T 0, 12, .inl g97)), ((z 98), .inl (T 0, 12, .inl g98)), ((z 99), .inl (T 0, 12, .inl g99)), ((z 101), .inl (T 0, 8, .inl g101)), ((z 102), .inl (T 0, 8, .inl g102))]) [0, 1, 2, 3, 4, 5] (by decide +kernel) rfl) hS (lv_sub hl [0, 1, 2, 3, 4, 5] rfl)
    · skip
      have kc24716643 : x24716639.toInt = 0 := eq_ti rfl (by decide) c24716643
      refine lv_iconst (v := (-1)) hx hb dX11_choose_24 (by decide) ?_
      exact r_iret (i103, i104) C0 hr hlocks hS (Nat.le_refl _) (Nat.le_refl _) dX11_choose_25 trivial (hP.sub (ws' := [(a, .inr (11, OX z i1 i2 i3 i4 i5 i6 i7 i8 i30 i43 i45 i46 i47 i48 i49 i50 i51 i58 i59 i65 i68 i69 i72 i78 i80 i81 i82 i87 i92 i96 i100 i103 i104)), ((z 97), .inl (T 0, 12, .inl g97)), ((z 98), .inl (T 0, 12, .inl g98)), ((z 99), .inl (T 0, 12, .inl g99)), ((z 101), .inl (T 0, 8, .inl g101)), ((z 102), .inl (T 0, 8, .inl g102))]) [0, 1, 2, 3, 4, 5] rfl) (hD.sub (ws' := [(a, .inr (11, OX z i1 i2 i3 i4 i5 i6 i7 i8 i30 i43 i45 i46 i47 i48 i49 i50 i51 i58 i59 i65 i68 i69 i72 i78 i80 i81 i82 i87 i92 i96 i100 i103 i104)), ((z 97), .inl (T 0, 12, .inl g97)), ((z 98), .inl (T 0, 12, .inl g98)), ((z 99), .inl (T 0, 12, .inl g99)), ((z 101), .inl (T 0, 8, .inl g101)), ((z 102), .inl (T 0, 8, .inl g102))]) [0, 1, 2, 3, 4, 5] (by decide +kernel) rfl)
