set_option maxHeartbeats 4000000 in
set_option maxRecDepth 100000 in
theorem h_X11_clear_24300001 (l : Launch) (D : va_G) (T : Nat → ClassId) (sq sv sz : Nat) (a : Nat) (z : Nat → Nat) (i1 i2 i3 i4 i5 i6 i7 i8 i30 i43 i45 i46 i47 i48 i49 i50 i51 i58 i59 i65 i68 i69 i72 i78 i80 i81 i82 i87 i92 i96 i100 i103 i104 : Int32) (hi96 : 0 ≤ i96.toInt ∧ i96.toInt ≤ 12) (hi100 : 0 ≤ i100.toInt ∧ i100.toInt ≤ 8) : Met l yX11_clear (.code yX11_clear cX11_clear 2 (some .int) :: TB) { frames := 0, cells := 0, slots := 0, locals := 0 } (PC2 D T sq sv [.ref a] [(a, .inr (11, OX z i1 i2 i3 i4 i5 i6 i7 i8 i30 i43 i45 i46 i47 i48 i49 i50 i51 i58 i59 i65 i68 i69 i72 i78 i80 i81 i82 i87 i92 i96 i100 i103 i104))] sz) (Qi (S := Int32 × Int32) (fun (r : Int32) (u : Int32 × Int32) => match u with | (ui96, ui100) => (0 ≤ ui96.toInt ∧ ui96.toInt ≤ 12) ∧ (0 ≤ ui100.toInt ∧ ui100.toInt ≤ 8) ∧ (r.toInt = i96.toInt ∧ ui96.toInt = 0 ∧ ui100.toInt = 0) ∧ (0 ≤ r.toInt ∧ r.toInt ≤ 12)) (fun (u : Int32 × Int32) => match u with | (ui96, ui100) => [(a, .inr (11, OX z i1 i2 i3 i4 i5 i6 i7 i8 i30 i43 i45 i46 i47 i48 i49 i50 i51 i58 i59 i65 i68 i69 i72 i78 i80 i81 i82 i87 i92 ui96 ui100 i103 i104))]) D (va_A [(a, .inr (11, OX z i1 i2 i3 i4 i5 i6 i7 i8 i30 i43 i45 i46 i47 i48 i49 i50 i51 i58 i59 i65 i68 i69 i72 i78 i80 i81 i82 i87 i92 i96 i100 i103 i104))] sz)) 0 0 (va_A [(a, .inr (11, OX z i1 i2 i3 i4 i5 i6 i7 i8 i30 i43 i45 i46 i47 i48 i49 i50 i51 i58 i59 i65 i68 i69 i72 i78 i80 i81 i82 i87 i92 i96 i100 i103 i104))] sz) := by
  refine ct_begin2 (Qc := Qi (S := Int32 × Int32) (fun (r : Int32) (u : Int32 × Int32) => match u with | (ui96, ui100) => (0 ≤ ui96.toInt ∧ ui96.toInt ≤ 12) ∧ (0 ≤ ui100.toInt ∧ ui100.toInt ≤ 8) ∧ (r.toInt = i96.toInt ∧ ui96.toInt = 0 ∧ ui100.toInt = 0) ∧ (0 ≤ r.toInt ∧ r.toInt ≤ 12)) (fun (u : Int32 × Int32) => match u with | (ui96, ui100) => [(a, .inr (11, OX z i1 i2 i3 i4 i5 i6 i7 i8 i30 i43 i45 i46 i47 i48 i49 i50 i51 i58 i59 i65 i68 i69 i72 i78 i80 i81 i82 i87 i92 ui96 ui100 i103 i104))]) D) (by decide +kernel) (Nat.le_of_ble_eq_true rfl) ?_
  intro p e s m below meth c A ls C0 hr hlocks hnm hE hStr hA hP hD hl
  generalize ([.ref a] : List Value).toArray = args at C0 ⊢
  have hx := C0.1
  have hb := C0.2.1
  have hml := C0.2.2.1
  have hown := C0.2.2.2.1
  have hT := C0.2.2.2.2
  have hK := hE.1
  generalize hH : s.heap = H at hP ⊢
  have hS : va_S A s.heap H [] := by rw [← hH]; exact va_S.rf
  have hP : va_P D vwCl [(a, .inr (11, OX z i1 i2 i3 i4 i5 i6 i7 i8 i30 i43 i45 i46 i47 i48 i49 i50 i51 i58 i59 i65 i68 i69 i72 i78 i80 i81 i82 i87 i92 i96 i100 i103 i104))] H := hP
  have hD : va_D A [(a, .inr (11, OX z i1 i2 i3 i4 i5 i6 i7 i8 i30 i43 i45 i46 i47 i48 i49 i50 i51 i58 i59 i65 i68 i69 i72 i78 i80 i81 i82 i87 i92 i96 i100 i103 i104))] := hD
  have hl : lv_has ls 2 [(0, .ref a)] := hl
  refine lv_aload_n hx hb dX11_clear_0 rfl (lv_at hl 0 rfl) ?_
  refine r_get (v := .int i96) C0 hE ffX11_96 mw_886 hP 0 rfl ox_96 dX11_clear_1 ?_
  refine lv_istore_n (lv' := [(1, .int i96), (0, .ref a)]) hx hb dX11_clear_4 rfl hl (by decide) rfl (fun ls hl => ?_)
  refine lv_aload_n hx hb dX11_clear_5 rfl (lv_at hl 1 rfl) ?_
  refine lv_iconst (v := 0) hx hb dX11_clear_6 (by decide) ?_
  refine r_put (v := .int 0) (ty := .int) (ws1 := [(a, .inr (11, OX z i1 i2 i3 i4 i5 i6 i7 i8 i30 i43 i45 i46 i47 i48 i49 i50 i51 i58 i59 i65 i68 i69 i72 i78 i80 i81 i82 i87 i92 0 i100 i103 i104))]) C0 hE ffX11_96 tyX11 tyX11_ok nmX11 mw_886 pf_1358 hP hD hS 0 rfl rfl rfl ol_96 os_96 rfl dX11_clear_7 (fun H locs hP hD hS => ?_)
  refine lv_aload_n hx hb dX11_clear_10 rfl (lv_at hl 1 rfl) ?_
  refine lv_iconst (v := 0) hx hb dX11_clear_11 (by decide) ?_
  refine r_put (v := .int 0) (ty := .int) (ws1 := [(a, .inr (11, OX z i1 i2 i3 i4 i5 i6 i7 i8 i30 i43 i45 i46 i47 i48 i49 i50 i51 i58 i59 i65 i68 i69 i72 i78 i80 i81 i82 i87 i92 0 0 i103 i104))]) C0 hE ffX11_100 tyX11 tyX11_ok nmX11 mw_890 pf_1358 hP hD hS 0 rfl rfl rfl ol_100 os_100 rfl dX11_clear_12 (fun H locs hP hD hS => ?_)
  refine lv_iload_n hx hb dX11_clear_15 rfl (lv_at hl 0 rfl) ?_
  have hl24300002 : (0 : Int32).toInt = 0 := by decide
  exact r_iret (0, 0) C0 hr hlocks hS (Nat.le_refl _) (Nat.le_refl _) dX11_clear_16 ⟨⟨by decide, by decide⟩, ⟨by decide, by decide⟩, (by omega), ⟨by omega, by omega⟩⟩ (hP.sub (ws' := [(a, .inr (11, OX z i1 i2 i3 i4 i5 i6 i7 i8 i30 i43 i45 i46 i47 i48 i49 i50 i51 i58 i59 i65 i68 i69 i72 i78 i80 i81 i82 i87 i92 0 0 i103 i104))]) [0] rfl) (hD.sub (ws' := [(a, .inr (11, OX z i1 i2 i3 i4 i5 i6 i7 i8 i30 i43 i45 i46 i47 i48 i49 i50 i51 i58 i59 i65 i68 i69 i72 i78 i80 i81 i82 i87 i92 0 0 i103 i104))]) [0] (by decide +kernel) rfl)
set_option maxHeartbeats 4000000 in
set_option maxRecDepth 100000 in
theorem h_X11_holdsForce_24400072 (l : Launch) (D : va_G) (T : Nat → ClassId) (sq sv sz : Nat) (a : Nat) (z : Nat → Nat) (i1 i2 i3 i4 i5 i6 i7 i8 i30 i43 i45 i46 i47 i48 i49 i50 i51 i58 i59 i65 i68 i69 i72 i78 i80 i81 i82 i87 i92 i96 i100 i103 i104 : Int32) (p1 : Int32) (p2 : Int32) (p3 : Int32) (g97 : Nat → Int32) (g98 : Nat → Int32) (g101 : Nat → Int32) (g102 : Nat → Int32) (hi96 : 0 ≤ i96.toInt ∧ i96.toInt ≤ 12) (hp1 : 0 ≤ p1.toInt ∧ p1.toInt ≤ 4095) (hp2 : 0 ≤ p2.toInt ∧ p2.toInt ≤ 7) (hp3 : 0 ≤ p3.toInt ∧ p3.toInt ≤ 99) (hbg97 : Bd (0) (99) g97) (hbg98 : Bd (0) (999) g98) (hbg101 : Bd (0) (99) g101) (hbg102 : Bd (0) (9999) g102) : Met l yX11_holdsForce (.code yX11_holdsForce cX11_holdsForce 8 (some .boolean) :: TB) { frames := 1, cells := 0, slots := 0, locals := 25 } (PC2 D T sq sv [.ref a, .int p1, .int p2, .int p3] [(a, .inr (11, OX z i1 i2 i3 i4 i5 i6 i7 i8 i30 i43 i45 i46 i47 i48 i49 i50 i51 i58 i59 i65 i68 i69 i72 i78 i80 i81 i82 i87 i92 i96 i100 i103 i104)), ((z 97), .inl (T 0, 12, .inl g97)), ((z 98), .inl (T 0, 12, .inl g98)), ((z 101), .inl (T 0, 8, .inl g101)), ((z 102), .inl (T 0, 8, .inl g102))] sz) (Qi (S := Unit) (fun (r : Int32) (_ : Unit) => (RHO (Int32.toNatClampNeg i96) g97 g98 g101 g102 p3.toInt p1 p2 r) ∧ (0 ≤ r.toInt ∧ r.toInt ≤ 1)) (fun (_ : Unit) => [(a, .inr (11, OX z i1 i2 i3 i4 i5 i6 i7 i8 i30 i43 i45 i46 i47 i48 i49 i50 i51 i58 i59 i65 i68 i69 i72 i78 i80 i81 i82 i87 i92 i96 i100 i103 i104)), ((z 97), .inl (T 0, 12, .inl g97)), ((z 98), .inl (T 0, 12, .inl g98)), ((z 101), .inl (T 0, 8, .inl g101)), ((z 102), .inl (T 0, 8, .inl g102))]) D (va_A [(a, .inr (11, OX z i1 i2 i3 i4 i5 i6 i7 i8 i30 i43 i45 i46 i47 i48 i49 i50 i51 i58 i59 i65 i68 i69 i72 i78 i80 i81 i82 i87 i92 i96 i100 i103 i104)), ((z 97), .inl (T 0, 12, .inl g97)), ((z 98), .inl (T 0, 12, .inl g98)), ((z 101), .inl (T 0, 8, .inl g101)), ((z 102), .inl (T 0, 8, .inl g102))] sz)) 0 0 (va_A [(a, .inr (11, OX z i1 i2 i3 i4 i5 i6 i7 i8 i30 i43 i45 i46 i47 i48 i49 i50 i51 i58 i59 i65 i68 i69 i72 i78 i80 i81 i82 i87 i92 i96 i100 i103 i104)), ((z 97), .inl (T 0, 12, .inl g97)), ((z 98), .inl (T 0, 12, .inl g98)), ((z 101), .inl (T 0, 8, .inl g101)), ((z 102), .inl (T 0, 8, .inl g102))] sz) := by
  refine ct_begin2 (Qc := Qi (S := Unit) (fun (r : Int32) (_ : Unit) => (RHO (Int32.toNatClampNeg i96) g97 g98 g101 g102 p3.toInt p1 p2 r) ∧ (0 ≤ r.toInt ∧ r.toInt ≤ 1)) (fun (_ : Unit) => [(a, .inr (11, OX z i1 i2 i3 i4 i5 i6 i7 i8 i30 i43 i45 i46 i47 i48 i49 i50 i51 i58 i59 i65 i68 i69 i72 i78 i80 i81 i82 i87 i92 i96 i100 i103 i104)), ((z 97), .inl (T 0, 12, .inl g97)), ((z 98), .inl (T 0, 12, .inl g98)), ((z 101), .inl (T 0, 8, .inl g101)), ((z 102), .inl (T 0, 8, .inl g102))]) D) (by decide +kernel) (Nat.le_of_ble_eq_true rfl) ?_
  intro p e s m below meth c A ls C0 hr hlocks hnm hE hStr hA hP hD hl
  generalize ([.ref a, .int p1, .int p2, .int p3] : List Value).toArray = args at C0 ⊢
  have hx := C0.1
  have hb := C0.2.1
  have hml := C0.2.2.1
  have hown := C0.2.2.2.1
  have hT := C0.2.2.2.2
  have hK := hE.1
  generalize hH : s.heap = H at hP ⊢
  have hS : va_S A s.heap H [] := by rw [← hH]; exact va_S.rf
  have hP : va_P D vwCl [(a, .inr (11, OX z i1 i2 i3 i4 i5 i6 i7 i8 i30 i43 i45 i46 i47 i48 i49 i50 i51 i58 i59 i65 i68 i69 i72 i78 i80 i81 i82 i87 i92 i96 i100 i103 i104)), ((z 97), .inl (T 0, 12, .inl g97)), ((z 98), .inl (T 0, 12, .inl g98)), ((z 101), .inl (T 0, 8, .inl g101)), ((z 102), .inl (T 0, 8, .inl g102))] H := hP
  have hD : va_D A [(a, .inr (11, OX z i1 i2 i3 i4 i5 i6 i7 i8 i30 i43 i45 i46 i47 i48 i49 i50 i51 i58 i59 i65 i68 i69 i72 i78 i80 i81 i82 i87 i92 i96 i100 i103 i104)), ((z 97), .inl (T 0, 12, .inl g97)), ((z 98), .inl (T 0, 12, .inl g98)), ((z 101), .inl (T 0, 8, .inl g101)), ((z 102), .inl (T 0, 8, .inl g102))] := hD
  have hl : lv_has ls 8 [(0, .ref a), (1, .int p1), (2, .int p2), (3, .int p3)] := hl
  refine lv_iconst (v := 0) hx hb dX11_holdsForce_0 (by decide) ?_
  refine lv_istore (lv' := [(4, .int 0), (0, .ref a), (1, .int p1), (2, .int p2), (3, .int p3)]) hx hb dX11_holdsForce_1 hl (by decide) rfl (fun ls hl => ?_)
  refine lv_iconst (v := 0) hx hb dX11_holdsForce_3 (by decide) ?_
  refine lv_istore (lv' := [(5, .int 0), (4, .int 0), (0, .ref a), (1, .int p1), (2, .int p2), (3, .int p3)]) hx hb dX11_holdsForce_4 hl (by decide) rfl (fun ls hl => ?_)
  refine lv_iconst (v := 0) hx hb dX11_holdsForce_6 (by decide) ?_
  refine lv_istore (lv' := [(6, .int 0), (5, .int 0), (4, .int 0), (0, .ref a), (1, .int p1), (2, .int p2), (3, .int p3)]) hx hb dX11_holdsForce_7 hl (by decide) rfl (fun ls hl => ?_)
  have L24400118 : ∀ (n : Nat) (x24400092 : Int32) (x24400093 : Int32) (x24400094 : Int32) (H : Heap) (locs : List Loc) (ls : Array Slot), (0 ≤ x24400092.toInt ∧ x24400092.toInt ≤ 12) → (0 ≤ x24400093.toInt ∧ x24400093.toInt ≤ 999) → (0 ≤ x24400094.toInt ∧ x24400094.toInt ≤ 11988) → (HLI g97 g98 g101 p3.toInt p1 p2 x24400092 x24400094 x24400093) → (x24400092.toInt ≤ i96.toInt ∧ x24400094.toInt ≤ 999 * x24400092.toInt) → (13 - x24400092.toInt).toNat < n → va_P D vwCl [(a, .inr (11, OX z i1 i2 i3 i4 i5 i6 i7 i8 i30 i43 i45 i46 i47 i48 i49 i50 i51 i58 i59 i65 i68 i69 i72 i78 i80 i81 i82 i87 i92 i96 i100 i103 i104)), ((z 97), .inl (T 0, 12, .inl g97)), ((z 98), .inl (T 0, 12, .inl g98)), ((z 101), .inl (T 0, 8, .inl g101)), ((z 102), .inl (T 0, 8, .inl g102))] H → va_D A [(a, .inr (11, OX z i1 i2 i3 i4 i5 i6 i7 i8 i30 i43 i45 i46 i47 i48 i49 i50 i51 i58 i59 i65 i68 i69 i72 i78 i80 i81 i82 i87 i92 i96 i100 i103 i104)), ((z 97), .inl (T 0, 12, .inl g97)), ((z 98), .inl (T 0, 12, .inl g98)), ((z 101), .inl (T 0, 8, .inl g101)), ((z 102), .inl (T 0, 8, .inl g102))] → va_S A s.heap H locs → lv_has ls 8 [(6, .int x24400092), (5, .int x24400093), (4, .int x24400094), (0, .ref a), (1, .int p1), (2, .int p2), (3, .int p3)] → W p l e { frames := 1, cells := 0, slots := 0, locals := 25 } s m args below meth c H locs 0 0 (MQ below ((Qi (S := Unit) (fun (r : Int32) (_ : Unit) => (RHO (Int32.toNatClampNeg i96) g97 g98 g101 g102 p3.toInt p1 p2 r) ∧ (0 ≤ r.toInt ∧ r.toInt ≤ 1)) (fun (_ : Unit) => [(a, .inr (11, OX z i1 i2 i3 i4 i5 i6 i7 i8 i30 i43 i45 i46 i47 i48 i49 i50 i51 i58 i59 i65 i68 i69 i72 i78 i80 i81 i82 i87 i92 i96 i100 i103 i104)), ((z 97), .inl (T 0, 12, .inl g97)), ((z 98), .inl (T 0, 12, .inl g98)), ((z 101), .inl (T 0, 8, .inl g101)), ((z 102), .inl (T 0, 8, .inl g102))]) D) A) args s 0 0 A) (F0 m 9 ls []) := by
    intro n
    induction n with
    | zero =>
      intro x24400092 x24400093 x24400094 H locs ls hx24400092 hx24400093 hx24400094 hHL hr24400119 hms hP hD hS hl
      exact absurd hms (Nat.not_lt_zero _)
    | succ n ih24400120 =>
      intro x24400092 x24400093 x24400094 H locs ls hx24400092 hx24400093 hx24400094 hHL hr24400119 hms hP hD hS hl
      refine lv_iload hx hb dX11_holdsForce_9 (lv_at hl 0 rfl) ?_
      refine lv_aload_n hx hb dX11_holdsForce_11 rfl (lv_at hl 3 rfl) ?_
      refine r_get (v := .int i96) C0 hE ffX11_96 mw_886 hP 0 rfl ox_96 dX11_holdsForce_12 ?_
      refine lv_icmp_ge (tgt := 99) hx hb dX11_holdsForce_15 (by decide) (fun c24400121 => ?_) (fun c24400121 => ?_)
      · skip
        have kc24400121 : i96.toInt ≤ x24400092.toInt := le_ti rfl rfl c24400121
        refine lv_iload hx hb dX11_holdsForce_99 (lv_at hl 2 rfl) ?_
        refine lv_iload hx hb dX11_holdsForce_101 (lv_at hl 1 rfl) ?_
        refine lv_isub hx hb dX11_holdsForce_103 ?_
        refine lv_topi (fun x24400122 ex24400122 => ?_)
        have hx24400122 : x24400122.toInt = x24400094.toInt - x24400093.toInt := ti_sub ex24400122 rfl rfl (by omega) (by omega)
        refine lv_aload_n hx hb dX11_holdsForce_104 rfl (lv_at hl 3 rfl) ?_
        refine r_get (v := .ref (z 102)) C0 hE ffX11_102 mw_892 hP 0 rfl ox_102 dX11_holdsForce_105 ?_
        refine lv_iload_n hx hb dX11_holdsForce_108 rfl (lv_at hl 5 rfl) ?_
        refine va_iald hx hb hK hP 4 0 rfl rfl (in_ti rfl (by omega) (by omega)) dX11_holdsForce_109 ?_
        refine lv_topi (fun x24400123 ex24400123 => ?_)
        have hx24400123 : 0 ≤ x24400123.toInt ∧ x24400123.toInt ≤ 9999 := by rw [ex24400123]; exact hbg102 _
        refine lv_icmp_lt (tgt := 117) hx hb dX11_holdsForce_110 (by decide) (fun c24400124 => ?_) (fun c24400124 => ?_)
        · skip
          have kc24400124 : x24400122.toInt < x24400123.toInt := lt_ti rfl rfl c24400124
          refine lv_iconst (v := 0) hx hb dX11_holdsForce_117 (by decide) ?_
          exact r_zret () C0 hr (by decide +kernel) hlocks hS (Nat.le_refl _) (Nat.le_refl _) dX11_holdsForce_118 ⟨(HLI.end hHL (by have ht96 := tn (x := i96) (by omega); omega) ex24400123 (by omega) (Or.inr ⟨by decide, by omega⟩)), ⟨by decide, by decide⟩⟩ (hP.sub (ws' := [(a, .inr (11, OX z i1 i2 i3 i4 i5 i6 i7 i8 i30 i43 i45 i46 i47 i48 i49 i50 i51 i58 i59 i65 i68 i69 i72 i78 i80 i81 i82 i87 i92 i96 i100 i103 i104)), ((z 97), .inl (T 0, 12, .inl g97)), ((z 98), .inl (T 0, 12, .inl g98)), ((z 101), .inl (T 0, 8, .inl g101)), ((z 102), .inl (T 0, 8, .inl g102))]) [0, 1, 2, 3, 4] rfl) (hD.sub (ws' := [(a, .inr (11, OX z i1 i2 i3 i4 i5 i6 i7 i8 i30 i43 i45 i46 i47 i48 i49 i50 i51 i58 i59 i65 i68 i69 i72 i78 i80 i81 i82 i87 i92 i96 i100 i103 i104)), ((z 97), .inl (T 0, 12, .inl g97)), ((z 98), .inl (T 0, 12, .inl g98)), ((z 101), .inl (T 0, 8, .inl g101)), ((z 102), .inl (T 0, 8, .inl g102))]) [0, 1, 2, 3, 4] (by decide +kernel) rfl)
        · skip
          have kc24400124 : x24400123.toInt ≤ x24400122.toInt := nlt_ti rfl rfl c24400124
          refine lv_iconst (v := 1) hx hb dX11_holdsForce_113 (by decide) ?_
          refine lv_goto (tgt := 118) hx hb dX11_holdsForce_114 (by decide) ?_
          exact r_zret () C0 hr (by decide +kernel) hlocks hS (Nat.le_refl _) (Nat.le_refl _) dX11_holdsForce_118 ⟨(HLI.end hHL (by have ht96 := tn (x := i96) (by omega); omega) ex24400123 (by omega) (Or.inl ⟨by decide, by omega⟩)), ⟨by decide, by decide⟩⟩ (hP.sub (ws' := [(a, .inr (11, OX z i1 i2 i3 i4 i5 i6 i7 i8 i30 i43 i45 i46 i47 i48 i49 i50 i51 i58 i59 i65 i68 i69 i72 i78 i80 i81 i82 i87 i92 i96 i100 i103 i104)), ((z 97), .inl (T 0, 12, .inl g97)), ((z 98), .inl (T 0, 12, .inl g98)), ((z 101), .inl (T 0, 8, .inl g101)), ((z 102), .inl (T 0, 8, .inl g102))]) [0, 1, 2, 3, 4] rfl) (hD.sub (ws' := [(a, .inr (11, OX z i1 i2 i3 i4 i5 i6 i7 i8 i30 i43 i45 i46 i47 i48 i49 i50 i51 i58 i59 i65 i68 i69 i72 i78 i80 i81 i82 i87 i92 i96 i100 i103 i104)), ((z 97), .inl (T 0, 12, .inl g97)), ((z 98), .inl (T 0, 12, .inl g98)), ((z 101), .inl (T 0, 8, .inl g101)), ((z 102), .inl (T 0, 8, .inl g102))]) [0, 1, 2, 3, 4] (by decide +kernel) rfl)
      · skip
        have kc24400121 : x24400092.toInt < i96.toInt := nle_ti rfl rfl c24400121
        refine lv_aload_n hx hb dX11_holdsForce_18 rfl (lv_at hl 3 rfl) ?_
        refine r_get (v := .ref (z 97)) C0 hE ffX11_97 mw_887 hP 0 rfl ox_97 dX11_holdsForce_19 ?_
        refine lv_iload hx hb dX11_holdsForce_22 (lv_at hl 0 rfl) ?_
        refine va_iald hx hb hK hP 1 0 rfl rfl (in_ti rfl (by omega) (by omega)) dX11_holdsForce_24 ?_
        refine lv_topi (fun x24400125 ex24400125 => ?_)
        have hx24400125 : 0 ≤ x24400125.toInt ∧ x24400125.toInt ≤ 99 := by rw [ex24400125]; exact hbg97 _
        refine lv_aload_n hx hb dX11_holdsForce_25 rfl (lv_at hl 3 rfl) ?_
        refine r_get (v := .ref (z 101)) C0 hE ffX11_101 mw_891 hP 0 rfl ox_101 dX11_holdsForce_26 ?_
        refine lv_iload_n hx hb dX11_holdsForce_29 rfl (lv_at hl 5 rfl) ?_
        refine va_iald hx hb hK hP 3 0 rfl rfl (in_ti rfl (by omega) (by omega)) dX11_holdsForce_30 ?_
        refine lv_topi (fun x24400126 ex24400126 => ?_)
        have hx24400126 : 0 ≤ x24400126.toInt ∧ x24400126.toInt ≤ 99 := by rw [ex24400126]; exact hbg101 _
        refine lv_isub hx hb dX11_holdsForce_31 ?_
        refine lv_topi (fun x24400127 ex24400127 => ?_)
        have hx24400127 : x24400127.toInt = x24400125.toInt - x24400126.toInt := ti_sub ex24400127 rfl rfl (by omega) (by omega)
        refine lv_istore (lv' := [(7, .int x24400127), (6, .int x24400092), (5, .int x24400093), (4, .int x24400094), (0, .ref a), (1, .int p1), (2, .int p2), (3, .int p3)]) hx hb dX11_holdsForce_32 hl (by decide) rfl (fun ls hl => ?_)
        refine lv_iload_n hx hb dX11_holdsForce_34 rfl (lv_at hl 5 rfl) ?_
        refine lv_iload hx hb dX11_holdsForce_35 (lv_at hl 1 rfl) ?_
        refine lv_ishr hx hb dX11_holdsForce_37 ?_
        refine lv_topi (fun x24400128 ex24400128 => ?_)
        refine lv_iconst (v := 1) hx hb dX11_holdsForce_38 (by decide) ?_
        refine lv_iand hx hb dX11_holdsForce_39 ?_
        refine lv_topi (fun x24400129 ex24400129 => ?_)
        have hx24400129 : 0 ≤ x24400129.toInt ∧ x24400129.toInt ≤ 1 := and_ti 1 1 (by decide) (by decide) (by decide) ex24400129
        refine lv_if_eq (tgt := 93) hx hb dX11_holdsForce_40 (by decide) (fun c24400130 => ?_) (fun c24400130 => ?_)
        · skip
          have kc24400130 : x24400129.toInt = 0 := eq_ti rfl (by decide) c24400130
          obtain ⟨x24400131, ex24400131⟩ : ∃ y : Int32, y = x24400092 + 1 := ⟨_, rfl⟩
          have hx24400131 : x24400131.toInt = x24400092.toInt + 1 := ti_add ex24400131 rfl (by decide) (by omega) (by omega)
          refine lv_iinc (v := x24400131) (lv' := [(6, .int x24400131), (7, .int x24400127), (5, .int x24400093), (4, .int x24400094), (0, .ref a), (1, .int p1), (2, .int p2), (3, .int p3)]) hx hb dX11_holdsForce_93 hl (k := 1) rfl (by rw [ex24400131]; rfl) (by decide) rfl (fun ls hl => ?_)
          refine lv_goto (tgt := 9) hx hb dX11_holdsForce_96 (by decide) ?_
          exact ih24400120 x24400131 x24400093 x24400094 _ _ ls ⟨by omega, by omega⟩ ⟨by omega, by omega⟩ ⟨by omega, by omega⟩ (HLI.no hHL ex24400128 ex24400129 (by omega) (by omega) (by omega) (by omega) (by omega)) (by omega) (by omega) (hP.sub (ws' := [(a, .inr (11, OX z i1 i2 i3 i4 i5 i6 i7 i8 i30 i43 i45 i46 i47 i48 i49 i50 i51 i58 i59 i65 i68 i69 i72 i78 i80 i81 i82 i87 i92 i96 i100 i103 i104)), ((z 97), .inl (T 0, 12, .inl g97)), ((z 98), .inl (T 0, 12, .inl g98)), ((z 101), .inl (T 0, 8, .inl g101)), ((z 102), .inl (T 0, 8, .inl g102))]) [0, 1, 2, 3, 4] rfl) (hD.sub (ws' := [(a, .inr (11, OX z i1 i2 i3 i4 i5 i6 i7 i8 i30 i43 i45 i46 i47 i48 i49 i50 i51 i58 i59 i65 i68 i69 i72 i78 i80 i81 i82 i87 i92 i96 i100 i103 i104)), ((z 97), .inl (T 0, 12, .inl g97)), ((z 98), .inl (T 0, 12, .inl g98)), ((z 101), .inl (T 0, 8, .inl g101)), ((z 102), .inl (T 0, 8, .inl g102))]) [0, 1, 2, 3, 4] (by decide +kernel) rfl) hS (lv_sub hl [0, 2, 3, 4, 5, 6, 7] rfl)
        · skip
          have kc24400130 : x24400129.toInt ≠ 0 := ne_ti rfl (by decide) c24400130
          have nzx24400129 : ¬ x24400129 = 0 := c24400130
          refine lv_iload hx hb dX11_holdsForce_43 (lv_at hl 0 rfl) ?_
          refine lv_i2l hx hb dX11_holdsForce_45 rfl ?_
          refine lv_topl (fun x24400132 ex24400132 => ?_)
          have hx24400132 : x24400132.toInt = x24400127.toInt := by rw [ex24400132]; exact Int32.toInt_toInt64 _
          refine lv_iload_n hx hb dX11_holdsForce_46 rfl (lv_at hl 7 rfl) ?_
          refine lv_ineg hx hb dX11_holdsForce_47 ?_
          refine lv_topi (fun x24400133 ex24400133 => ?_)
          have hx24400133 : x24400133.toInt = -p3.toInt := ti_neg ex24400133 rfl (by omega)
          refine lv_i2l hx hb dX11_holdsForce_48 rfl ?_
          refine lv_topl (fun x24400134 ex24400134 => ?_)
          have hx24400134 : x24400134.toInt = x24400133.toInt := by rw [ex24400134]; exact Int32.toInt_toInt64 _
          refine lv_iload_n hx hb dX11_holdsForce_49 rfl (lv_at hl 7 rfl) ?_
          refine lv_i2l hx hb dX11_holdsForce_50 rfl ?_
          refine lv_topl (fun x24400135 ex24400135 => ?_)
          have hx24400135 : x24400135.toInt = p3.toInt := by rw [ex24400135]; exact Int32.toInt_toInt64 _
          refine r_calli (wr := [(a, .inr (11, OX z i1 i2 i3 i4 i5 i6 i7 i8 i30 i43 i45 i46 i47 i48 i49 i50 i51 i58 i59 i65 i68 i69 i72 i78 i80 i81 i82 i87 i92 i96 i100 i103 i104)), ((z 97), .inl (T 0, 12, .inl g97)), ((z 98), .inl (T 0, 12, .inl g98)), ((z 101), .inl (T 0, 8, .inl g101)), ((z 102), .inl (T 0, 8, .inl g102))]) (r_runS2 (As := [.long x24400132, .long x24400134, .long x24400135]) (rest := []) (wc := []) C0 hE hStr hS (va_free (wc := []) hD hS hA [] rfl) (h_X11_isIn_20000007 l D T sq sv H.size x24400132 x24400134 x24400135) mw_910 mw_911 mw_14 mw_912 dn_1704 rfl rfl ⟨Nat.le_of_ble_eq_true rfl, Nat.le_of_ble_eq_true rfl⟩ (hP.sub (ws' := []) [] rfl) (hD.sub (ws' := []) [] (by decide +kernel) rfl) hl.1 rfl (Nat.le_of_ble_eq_true rfl) dX11_holdsForce_51 ⟨Nat.le_of_ble_eq_true rfl, Nat.le_of_ble_eq_true rfl⟩) hP hD hS hA [] [0, 1, 2, 3, 4] rfl rfl (by decide +kernel) (by decide +kernel) (fun x24400136 u H locs hq hP hD hS => ?_)
          obtain ⟨hp24400137, hx24400136⟩ := hq
          have hp24400137 : (x24400136.toInt = 0 ∧ (x24400132.toInt < x24400134.toInt ∨ x24400135.toInt < x24400132.toInt)) ∨ (x24400136.toInt = 1 ∧ x24400134.toInt ≤ x24400132.toInt ∧ x24400132.toInt ≤ x24400135.toInt) := hp24400137
          have hx24400136 : 0 ≤ x24400136.toInt ∧ x24400136.toInt ≤ 1 := hx24400136
          have hP : va_P D vwCl [(a, .inr (11, OX z i1 i2 i3 i4 i5 i6 i7 i8 i30 i43 i45 i46 i47 i48 i49 i50 i51 i58 i59 i65 i68 i69 i72 i78 i80 i81 i82 i87 i92 i96 i100 i103 i104)), ((z 97), .inl (T 0, 12, .inl g97)), ((z 98), .inl (T 0, 12, .inl g98)), ((z 101), .inl (T 0, 8, .inl g101)), ((z 102), .inl (T 0, 8, .inl g102))] H := hP
          have hD : va_D A [(a, .inr (11, OX z i1 i2 i3 i4 i5 i6 i7 i8 i30 i43 i45 i46 i47 i48 i49 i50 i51 i58 i59 i65 i68 i69 i72 i78 i80 i81 i82 i87 i92 i96 i100 i103 i104)), ((z 97), .inl (T 0, 12, .inl g97)), ((z 98), .inl (T 0, 12, .inl g98)), ((z 101), .inl (T 0, 8, .inl g101)), ((z 102), .inl (T 0, 8, .inl g102))] := hD
          refine W.widen (k := 0) (n := 0) (Nat.le_refl _) (Nat.le_refl _) ?_
          refine lv_if_ne (tgt := 60) hx hb dX11_holdsForce_54 (by decide) (fun c24400138 => ?_) (fun c24400138 => ?_)
          · skip
            have kc24400138 : x24400136.toInt ≠ 0 := ne_ti rfl (by decide) c24400138
            have nzx24400136 : ¬ x24400136 = 0 := c24400138
            refine lv_iload hx hb dX11_holdsForce_60 (lv_at hl 3 rfl) ?_
            refine lv_aload_n hx hb dX11_holdsForce_62 rfl (lv_at hl 4 rfl) ?_
            refine r_get (v := .ref (z 98)) C0 hE ffX11_98 mw_888 hP 0 rfl ox_98 dX11_holdsForce_63 ?_
            refine lv_iload hx hb dX11_holdsForce_66 (lv_at hl 1 rfl) ?_
            refine va_iald hx hb hK hP 2 0 rfl rfl (in_ti rfl (by omega) (by omega)) dX11_holdsForce_68 ?_
            refine lv_topi (fun x24400139 ex24400139 => ?_)
            have hx24400139 : 0 ≤ x24400139.toInt ∧ x24400139.toInt ≤ 999 := by rw [ex24400139]; exact hbg98 _
            refine lv_iadd hx hb dX11_holdsForce_69 ?_
            refine lv_topi (fun x24400140 ex24400140 => ?_)
            have hx24400140 : x24400140.toInt = x24400094.toInt + x24400139.toInt := ti_add ex24400140 rfl rfl (by omega) (by omega)
            refine lv_istore (lv' := [(4, .int x24400140), (7, .int x24400127), (6, .int x24400092), (5, .int x24400093), (0, .ref a), (1, .int p1), (2, .int p2), (3, .int p3)]) hx hb dX11_holdsForce_70 hl (by decide) rfl (fun ls hl => ?_)
            refine lv_aload_n hx hb dX11_holdsForce_72 rfl (lv_at hl 4 rfl) ?_
            refine r_get (v := .ref (z 98)) C0 hE ffX11_98 mw_888 hP 0 rfl ox_98 dX11_holdsForce_73 ?_
            refine lv_iload hx hb dX11_holdsForce_76 (lv_at hl 2 rfl) ?_
            refine va_iald hx hb hK hP 2 0 rfl rfl (in_ti rfl (by omega) (by omega)) dX11_holdsForce_78 ?_
            refine lv_topi (fun x24400141 ex24400141 => ?_)
            have hx24400141 : 0 ≤ x24400141.toInt ∧ x24400141.toInt ≤ 999 := by rw [ex24400141]; exact hbg98 _
            refine lv_iload hx hb dX11_holdsForce_79 (lv_at hl 3 rfl) ?_
            refine lv_icmp_le (tgt := 93) hx hb dX11_holdsForce_81 (by decide) (fun c24400142 => ?_) (fun c24400142 => ?_)
            · skip
              have kc24400142 : x24400141.toInt ≤ x24400093.toInt := le_ti rfl rfl c24400142
              obtain ⟨x24400143, ex24400143⟩ : ∃ y : Int32, y = x24400092 + 1 := ⟨_, rfl⟩
              have hx24400143 : x24400143.toInt = x24400092.toInt + 1 := ti_add ex24400143 rfl (by decide) (by omega) (by omega)
              refine lv_iinc (v := x24400143) (lv' := [(6, .int x24400143), (4, .int x24400140), (7, .int x24400127), (5, .int x24400093), (0, .ref a), (1, .int p1), (2, .int p2), (3, .int p3)]) hx hb dX11_holdsForce_93 hl (k := 2) rfl (by rw [ex24400143]; rfl) (by decide) rfl (fun ls hl => ?_)
              refine lv_goto (tgt := 9) hx hb dX11_holdsForce_96 (by decide) ?_
              exact ih24400120 x24400143 x24400093 x24400140 _ _ ls ⟨by omega, by omega⟩ ⟨by omega, by omega⟩ ⟨by omega, by omega⟩ (HLI.near hHL ex24400128 ex24400129 (by omega) (by omega) (by omega) (by omega) (by omega) ex24400125 ex24400126 ⟨by omega, by omega⟩ ex24400139 (by omega) (by have hh := congrArg Int32.toInt (ex24400141.trans ex24400139.symm); omega)) (by omega) (by omega) (hP.sub (ws' := [(a, .inr (11, OX z i1 i2 i3 i4 i5 i6 i7 i8 i30 i43 i45 i46 i47 i48 i49 i50 i51 i58 i59 i65 i68 i69 i72 i78 i80 i81 i82 i87 i92 i96 i100 i103 i104)), ((z 97), .inl (T 0, 12, .inl g97)), ((z 98), .inl (T 0, 12, .inl g98)), ((z 101), .inl (T 0, 8, .inl g101)), ((z 102), .inl (T 0, 8, .inl g102))]) [0, 1, 2, 3, 4] rfl) (hD.sub (ws' := [(a, .inr (11, OX z i1 i2 i3 i4 i5 i6 i7 i8 i30 i43 i45 i46 i47 i48 i49 i50 i51 i58 i59 i65 i68 i69 i72 i78 i80 i81 i82 i87 i92 i96 i100 i103 i104)), ((z 97), .inl (T 0, 12, .inl g97)), ((z 98), .inl (T 0, 12, .inl g98)), ((z 101), .inl (T 0, 8, .inl g101)), ((z 102), .inl (T 0, 8, .inl g102))]) [0, 1, 2, 3, 4] (by decide +kernel) rfl) hS (lv_sub hl [0, 3, 1, 4, 5, 6, 7] rfl)
            · skip
              have kc24400142 : x24400093.toInt < x24400141.toInt := nle_ti rfl rfl c24400142
              refine lv_aload_n hx hb dX11_holdsForce_84 rfl (lv_at hl 4 rfl) ?_
              refine r_get (v := .ref (z 98)) C0 hE ffX11_98 mw_888 hP 0 rfl ox_98 dX11_holdsForce_85 ?_
              refine lv_iload hx hb dX11_holdsForce_88 (lv_at hl 2 rfl) ?_
              refine va_iald hx hb hK hP 2 0 rfl rfl (in_ti rfl (by omega) (by omega)) dX11_holdsForce_90 ?_
              refine lv_topi (fun x24400144 ex24400144 => ?_)
              have hx24400144 : 0 ≤ x24400144.toInt ∧ x24400144.toInt ≤ 999 := by rw [ex24400144]; exact hbg98 _
              refine lv_istore (lv' := [(5, .int x24400144), (4, .int x24400140), (7, .int x24400127), (6, .int x24400092), (0, .ref a), (1, .int p1), (2, .int p2), (3, .int p3)]) hx hb dX11_holdsForce_91 hl (by decide) rfl (fun ls hl => ?_)
              obtain ⟨x24400145, ex24400145⟩ : ∃ y : Int32, y = x24400092 + 1 := ⟨_, rfl⟩
              have hx24400145 : x24400145.toInt = x24400092.toInt + 1 := ti_add ex24400145 rfl (by decide) (by omega) (by omega)
              refine lv_iinc (v := x24400145) (lv' := [(6, .int x24400145), (5, .int x24400144), (4, .int x24400140), (7, .int x24400127), (0, .ref a), (1, .int p1), (2, .int p2), (3, .int p3)]) hx hb dX11_holdsForce_93 hl (k := 3) rfl (by rw [ex24400145]; rfl) (by decide) rfl (fun ls hl => ?_)
              refine lv_goto (tgt := 9) hx hb dX11_holdsForce_96 (by decide) ?_
              exact ih24400120 x24400145 x24400144 x24400140 _ _ ls ⟨by omega, by omega⟩ ⟨by omega, by omega⟩ ⟨by omega, by omega⟩ (HLI.near hHL ex24400128 ex24400129 (by omega) (by omega) (by omega) (by omega) (by omega) ex24400125 ex24400126 ⟨by omega, by omega⟩ ex24400139 (by omega) (by have hh := congrArg Int32.toInt (ex24400141.trans ex24400139.symm); have hi := congrArg Int32.toInt (ex24400144.trans ex24400139.symm); omega)) (by omega) (by omega) (hP.sub (ws' := [(a, .inr (11, OX z i1 i2 i3 i4 i5 i6 i7 i8 i30 i43 i45 i46 i47 i48 i49 i50 i51 i58 i59 i65 i68 i69 i72 i78 i80 i81 i82 i87 i92 i96 i100 i103 i104)), ((z 97), .inl (T 0, 12, .inl g97)), ((z 98), .inl (T 0, 12, .inl g98)), ((z 101), .inl (T 0, 8, .inl g101)), ((z 102), .inl (T 0, 8, .inl g102))]) [0, 1, 2, 3, 4] rfl) (hD.sub (ws' := [(a, .inr (11, OX z i1 i2 i3 i4 i5 i6 i7 i8 i30 i43 i45 i46 i47 i48 i49 i50 i51 i58 i59 i65 i68 i69 i72 i78 i80 i81 i82 i87 i92 i96 i100 i103 i104)), ((z 97), .inl (T 0, 12, .inl g97)), ((z 98), .inl (T 0, 12, .inl g98)), ((z 101), .inl (T 0, 8, .inl g101)), ((z 102), .inl (T 0, 8, .inl g102))]) [0, 1, 2, 3, 4] (by decide +kernel) rfl) hS (lv_sub hl [0, 1, 2, 4, 5, 6, 7] rfl)
          · skip
            have kc24400138 : x24400136.toInt = 0 := eq_ti rfl (by decide) c24400138
            refine lv_goto (tgt := 93) hx hb dX11_holdsForce_57 (by decide) ?_
            obtain ⟨x24400146, ex24400146⟩ : ∃ y : Int32, y = x24400092 + 1 := ⟨_, rfl⟩
            have hx24400146 : x24400146.toInt = x24400092.toInt + 1 := ti_add ex24400146 rfl (by decide) (by omega) (by omega)
            refine lv_iinc (v := x24400146) (lv' := [(6, .int x24400146), (7, .int x24400127), (5, .int x24400093), (4, .int x24400094), (0, .ref a), (1, .int p1), (2, .int p2), (3, .int p3)]) hx hb dX11_holdsForce_93 hl (k := 1) rfl (by rw [ex24400146]; rfl) (by decide) rfl (fun ls hl => ?_)
            refine lv_goto (tgt := 9) hx hb dX11_holdsForce_96 (by decide) ?_
            exact ih24400120 x24400146 x24400093 x24400094 _ _ ls ⟨by omega, by omega⟩ ⟨by omega, by omega⟩ ⟨by omega, by omega⟩ (HLI.far hHL ex24400128 ex24400129 (by omega) (by omega) (by omega) (by omega) ex24400125 ex24400126 (by omega)) (by omega) (by omega) (hP.sub (ws' := [(a, .inr (11, OX z i1 i2 i3 i4 i5 i6 i7 i8 i30 i43 i45 i46 i47 i48 i49 i50 i51 i58 i59 i65 i68 i69 i72 i78 i80 i81 i82 i87 i92 i96 i100 i103 i104)), ((z 97), .inl (T 0, 12, .inl g97)), ((z 98), .inl (T 0, 12, .inl g98)), ((z 101), .inl (T 0, 8, .inl g101)), ((z 102), .inl (T 0, 8, .inl g102))]) [0, 1, 2, 3, 4] rfl) (hD.sub (ws' := [(a, .inr (11, OX z i1 i2 i3 i4 i5 i6 i7 i8 i30 i43 i45 i46 i47 i48 i49 i50 i51 i58 i59 i65 i68 i69 i72 i78 i80 i81 i82 i87 i92 i96 i100 i103 i104)), ((z 97), .inl (T 0, 12, .inl g97)), ((z 98), .inl (T 0, 12, .inl g98)), ((z 101), .inl (T 0, 8, .inl g101)), ((z 102), .inl (T 0, 8, .inl g102))]) [0, 1, 2, 3, 4] (by decide +kernel) rfl) hS (lv_sub hl [0, 2, 3, 4, 5, 6, 7] rfl)
  have hl24400147 : (0 : Int32).toInt = 0 := by decide
  exact L24400118 _ 0 0 0 _ _ ls ⟨by decide, by decide⟩ ⟨by decide, by decide⟩ ⟨by decide, by decide⟩ HLI.zero (by omega) (Nat.lt_succ_self _) (hP.sub (ws' := [(a, .inr (11, OX z i1 i2 i3 i4 i5 i6 i7 i8 i30 i43 i45 i46 i47 i48 i49 i50 i51 i58 i59 i65 i68 i69 i72 i78 i80 i81 i82 i87 i92 i96 i100 i103 i104)), ((z 97), .inl (T 0, 12, .inl g97)), ((z 98), .inl (T 0, 12, .inl g98)), ((z 101), .inl (T 0, 8, .inl g101)), ((z 102), .inl (T 0, 8, .inl g102))]) [0, 1, 2, 3, 4] rfl) (hD.sub (ws' := [(a, .inr (11, OX z i1 i2 i3 i4 i5 i6 i7 i8 i30 i43 i45 i46 i47 i48 i49 i50 i51 i58 i59 i65 i68 i69 i72 i78 i80 i81 i82 i87 i92 i96 i100 i103 i104)), ((z 97), .inl (T 0, 12, .inl g97)), ((z 98), .inl (T 0, 12, .inl g98)), ((z 101), .inl (T 0, 8, .inl g101)), ((z 102), .inl (T 0, 8, .inl g102))]) [0, 1, 2, 3, 4] (by decide +kernel) rfl) hS (lv_sub hl [0, 1, 2, 3, 4, 5, 6] rfl)
set_option maxHeartbeats 4000000 in
set_option maxRecDepth 100000 in
theorem h_X11_isFirst_24500007 (l : Launch) (D : va_G) (T : Nat → ClassId) (sq sv sz : Nat) (p0 : Int32) (p1 : Int32) (hp0 : 0 ≤ p0.toInt ∧ p0.toInt ≤ 4095) (hp1 : 0 ≤ p1.toInt ∧ p1.toInt ≤ 4095) : Met l yX11_isFirst (.code yX11_isFirst cX11_isFirst 3 (some .boolean) :: TB) { frames := 0, cells := 0, slots := 0, locals := 0 } (PC2 D T sq sv [.int p0, .int p1] ([] : va_W) sz) (Qi (S := Unit) (fun (r : Int32) (_ : Unit) => (ISF p0 p1 r) ∧ (0 ≤ r.toInt ∧ r.toInt ≤ 1)) (fun (_ : Unit) => ([] : va_W)) D (va_A ([] : va_W) sz)) 0 0 (va_A ([] : va_W) sz) := by
  refine ct_begin2 (Qc := Qi (S := Unit) (fun (r : Int32) (_ : Unit) => (ISF p0 p1 r) ∧ (0 ≤ r.toInt ∧ r.toInt ≤ 1)) (fun (_ : Unit) => ([] : va_W)) D) (by decide +kernel) (Nat.le_of_ble_eq_true rfl) ?_
  intro p e s m below meth c A ls C0 hr hlocks hnm hE hStr hA hP hD hl
  generalize ([.int p0, .int p1] : List Value).toArray = args at C0 ⊢
  have hx := C0.1
  have hb := C0.2.1
  have hml := C0.2.2.1
  have hown := C0.2.2.2.1
  have hT := C0.2.2.2.2
  have hK := hE.1
  generalize hH : s.heap = H at hP ⊢
  have hS : va_S A s.heap H [] := by rw [← hH]; exact va_S.rf
  have hP : va_P D vwCl ([] : va_W) H := hP
  have hD : va_D A ([] : va_W) := hD
  have hl : lv_has ls 3 [(0, .int p0), (1, .int p1)] := hl
  refine lv_iload_n hx hb dX11_isFirst_0 rfl (lv_at hl 0 rfl) ?_
  refine lv_iload_n hx hb dX11_isFirst_1 rfl (lv_at hl 1 rfl) ?_
  refine lv_ixor hx hb dX11_isFirst_2 ?_
  refine lv_topi (fun x24500008 ex24500008 => ?_)
  refine lv_istore_n (lv' := [(2, .int x24500008), (0, .int p0), (1, .int p1)]) hx hb dX11_isFirst_3 rfl hl (by decide) rfl (fun ls hl => ?_)
  refine lv_iload_n hx hb dX11_isFirst_4 rfl (lv_at hl 0 rfl) ?_
  refine lv_if_eq (tgt := 21) hx hb dX11_isFirst_5 (by decide) (fun c24500009 => ?_) (fun c24500009 => ?_)
  · skip
    have kc24500009 : x24500008.toInt = 0 := eq_ti rfl (by decide) c24500009
    refine lv_iconst (v := 0) hx hb dX11_isFirst_21 (by decide) ?_
    exact r_zret () C0 hr (by decide +kernel) hlocks hS (Nat.le_refl _) (Nat.le_refl _) dX11_isFirst_22 ⟨(isf_0 ex24500008 hp0 hp1 (by omega)), ⟨by decide, by decide⟩⟩ (hP.sub (ws' := []) [] rfl) (hD.sub (ws' := []) [] (by decide +kernel) rfl)
  · skip
    have kc24500009 : x24500008.toInt ≠ 0 := ne_ti rfl (by decide) c24500009
    have nzx24500008 : ¬ x24500008 = 0 := c24500009
    refine lv_iload_n hx hb dX11_isFirst_8 rfl (lv_at hl 1 rfl) ?_
    refine lv_iload_n hx hb dX11_isFirst_9 rfl (lv_at hl 0 rfl) ?_
    refine lv_iand hx hb dX11_isFirst_10 ?_
    refine lv_topi (fun x24500010 ex24500010 => ?_)
    refine lv_iload_n hx hb dX11_isFirst_11 rfl (lv_at hl 0 rfl) ?_
    refine lv_ineg hx hb dX11_isFirst_12 ?_
    refine lv_topi (fun x24500011 ex24500011 => ?_)
    refine lv_iand hx hb dX11_isFirst_13 ?_
    refine lv_topi (fun x24500012 ex24500012 => ?_)
    refine lv_if_eq (tgt := 21) hx hb dX11_isFirst_14 (by decide) (fun c24500013 => ?_) (fun c24500013 => ?_)
    · skip
      have kc24500013 : x24500012.toInt = 0 := eq_ti rfl (by decide) c24500013
      refine lv_iconst (v := 0) hx hb dX11_isFirst_21 (by decide) ?_
      exact r_zret () C0 hr (by decide +kernel) hlocks hS (Nat.le_refl _) (Nat.le_refl _) dX11_isFirst_22 ⟨(isf_2 ex24500008 ex24500010 ex24500011 ex24500012 hp0 hp1 (by omega) (by omega)), ⟨by decide, by decide⟩⟩ (hP.sub (ws' := []) [] rfl) (hD.sub (ws' := []) [] (by decide +kernel) rfl)
    · skip
      have kc24500013 : x24500012.toInt ≠ 0 := ne_ti rfl (by decide) c24500013
      have nzx24500012 : ¬ x24500012 = 0 := c24500013
      refine lv_iconst (v := 1) hx hb dX11_isFirst_17 (by decide) ?_
      refine lv_goto (tgt := 22) hx hb dX11_isFirst_18 (by decide) ?_
      exact r_zret () C0 hr (by decide +kernel) hlocks hS (Nat.le_refl _) (Nat.le_refl _) dX11_isFirst_22 ⟨(isf_1 ex24500008 ex24500010 ex24500011 ex24500012 hp0 hp1 (by omega) (by omega)), ⟨by decide, by decide⟩⟩ (hP.sub (ws' := []) [] rfl) (hD.sub (ws' := []) [] (by decide +kernel) rfl)
set_option maxHeartbeats 4000000 in
set_option maxRecDepth 100000 in
theorem h_X11_bitsOf_24600016 (l : Launch) (D : va_G) (T : Nat → ClassId) (sq sv sz : Nat) (p0 : Int32) (hp0 : 0 ≤ p0.toInt ∧ p0.toInt ≤ 4095) : Met l yX11_bitsOf (.code yX11_bitsOf cX11_bitsOf 3 (some .int) :: TB) { frames := 0, cells := 0, slots := 0, locals := 0 } (PC2 D T sq sv [.int p0] ([] : va_W) sz) (Qi (S := Unit) (fun (r : Int32) (_ : Unit) => (BOF p0 r) ∧ (0 ≤ r.toInt ∧ r.toInt ≤ 12)) (fun (_ : Unit) => ([] : va_W)) D (va_A ([] : va_W) sz)) 0 0 (va_A ([] : va_W) sz) := by
  refine ct_begin2 (Qc := Qi (S := Unit) (fun (r : Int32) (_ : Unit) => (BOF p0 r) ∧ (0 ≤ r.toInt ∧ r.toInt ≤ 12)) (fun (_ : Unit) => ([] : va_W)) D) (by decide +kernel) (Nat.le_of_ble_eq_true rfl) ?_
  intro p e s m below meth c A ls C0 hr hlocks hnm hE hStr hA hP hD hl
  generalize ([.int p0] : List Value).toArray = args at C0 ⊢
  have hx := C0.1
  have hb := C0.2.1
  have hml := C0.2.2.1
  have hown := C0.2.2.2.1
  have hT := C0.2.2.2.2
  have hK := hE.1
  generalize hH : s.heap = H at hP ⊢
  have hS : va_S A s.heap H [] := by rw [← hH]; exact va_S.rf
  have hP : va_P D vwCl ([] : va_W) H := hP
  have hD : va_D A ([] : va_W) := hD
  have hl : lv_has ls 3 [(0, .int p0)] := hl
  refine lv_iconst (v := 0) hx hb dX11_bitsOf_0 (by decide) ?_
  refine lv_istore_n (lv' := [(1, .int 0), (0, .int p0)]) hx hb dX11_bitsOf_1 rfl hl (by decide) rfl (fun ls hl => ?_)
  refine lv_iconst (v := 0) hx hb dX11_bitsOf_2 (by decide) ?_
  refine lv_istore_n (lv' := [(2, .int 0), (1, .int 0), (0, .int p0)]) hx hb dX11_bitsOf_3 rfl hl (by decide) rfl (fun ls hl => ?_)
  have L24600027 : ∀ (n : Nat) (x24600020 : Int32) (x24600021 : Int32) (H : Heap) (locs : List Loc) (ls : Array Slot), (0 ≤ x24600020.toInt ∧ x24600020.toInt ≤ 12) → (0 ≤ x24600021.toInt ∧ x24600021.toInt ≤ 12) → (SMI kof p0 x24600020 x24600021) → (x24600021.toInt ≤ x24600020.toInt) → (13 - x24600020.toInt).toNat < n → va_P D vwCl [] H → va_D A [] → va_S A s.heap H locs → lv_has ls 3 [(2, .int x24600020), (1, .int x24600021), (0, .int p0)] → W p l e { frames := 0, cells := 0, slots := 0, locals := 0 } s m args below meth c H locs 0 0 (MQ below ((Qi (S := Unit) (fun (r : Int32) (_ : Unit) => (BOF p0 r) ∧ (0 ≤ r.toInt ∧ r.toInt ≤ 12)) (fun (_ : Unit) => ([] : va_W)) D) A) args s 0 0 A) (F0 m 4 ls []) := by
    intro n
    induction n with
    | zero =>
      intro x24600020 x24600021 H locs ls hx24600020 hx24600021 hSM hr24600028 hms hP hD hS hl
      exact absurd hms (Nat.not_lt_zero _)
    | succ n ih24600029 =>
      intro x24600020 x24600021 H locs ls hx24600020 hx24600021 hSM hr24600028 hms hP hD hS hl
      refine lv_iload_n hx hb dX11_bitsOf_4 rfl (lv_at hl 0 rfl) ?_
      refine lv_bipush (v := 12) hx hb dX11_bitsOf_5 (by decide) ?_
      refine lv_icmp_ge (tgt := 24) hx hb dX11_bitsOf_7 (by decide) (fun c24600030 => ?_) (fun c24600030 => ?_)
      · skip
        have kc24600030 : 12 ≤ x24600020.toInt := le_ti (by decide) rfl c24600030
        refine lv_iload_n hx hb dX11_bitsOf_24 rfl (lv_at hl 1 rfl) ?_
        exact r_iret () C0 hr hlocks hS (Nat.le_refl _) (Nat.le_refl _) dX11_bitsOf_25 ⟨(SMI.end hSM (n := 12) (by omega)), ⟨by omega, by omega⟩⟩ (hP.sub (ws' := []) [] rfl) (hD.sub (ws' := []) [] (by decide +kernel) rfl)
      · skip
        have kc24600030 : x24600020.toInt < 12 := nle_ti (by decide) rfl c24600030
        refine lv_iload_n hx hb dX11_bitsOf_10 rfl (lv_at hl 1 rfl) ?_
        refine lv_iload_n hx hb dX11_bitsOf_11 rfl (lv_at hl 2 rfl) ?_
        refine lv_iload_n hx hb dX11_bitsOf_12 rfl (lv_at hl 0 rfl) ?_
        refine lv_ishr hx hb dX11_bitsOf_13 ?_
        refine lv_topi (fun x24600031 ex24600031 => ?_)
        refine lv_iconst (v := 1) hx hb dX11_bitsOf_14 (by decide) ?_
        refine lv_iand hx hb dX11_bitsOf_15 ?_
        refine lv_topi (fun x24600032 ex24600032 => ?_)
        have hx24600032 : 0 ≤ x24600032.toInt ∧ x24600032.toInt ≤ 1 := and_ti 1 1 (by decide) (by decide) (by decide) ex24600032
        refine lv_iadd hx hb dX11_bitsOf_16 ?_
        refine lv_topi (fun x24600033 ex24600033 => ?_)
        have hx24600033 : x24600033.toInt = x24600021.toInt + x24600032.toInt := ti_add ex24600033 rfl rfl (by omega) (by omega)
        refine lv_istore_n (lv' := [(1, .int x24600033), (2, .int x24600020), (0, .int p0)]) hx hb dX11_bitsOf_17 rfl hl (by decide) rfl (fun ls hl => ?_)
        obtain ⟨x24600034, ex24600034⟩ : ∃ y : Int32, y = x24600020 + 1 := ⟨_, rfl⟩
        have hx24600034 : x24600034.toInt = x24600020.toInt + 1 := ti_add ex24600034 rfl (by decide) (by omega) (by omega)
        refine lv_iinc (v := x24600034) (lv' := [(2, .int x24600034), (1, .int x24600033), (0, .int p0)]) hx hb dX11_bitsOf_18 hl (k := 1) rfl (by rw [ex24600034]; rfl) (by decide) rfl (fun ls hl => ?_)
        refine lv_goto (tgt := 4) hx hb dX11_bitsOf_21 (by decide) ?_
        exact ih24600029 x24600034 x24600033 _ _ ls ⟨by omega, by omega⟩ ⟨by omega, by omega⟩ (SMI.step (v := 1) hSM ex24600031 ex24600032 (by omega) (by omega) (by omega) (by omega) rfl ⟨fun q => by omega, fun q => by omega⟩) (by omega) (by omega) (hP.sub (ws' := []) [] rfl) (hD.sub (ws' := []) [] (by decide +kernel) rfl) hS (lv_sub hl [0, 1, 2] rfl)
  have hl24600035 : (0 : Int32).toInt = 0 := by decide
  exact L24600027 _ 0 0 _ _ ls ⟨by decide, by decide⟩ ⟨by decide, by decide⟩ SMI.zero (by omega) (Nat.lt_succ_self _) (hP.sub (ws' := []) [] rfl) (hD.sub (ws' := []) [] (by decide +kernel) rfl) hS (lv_sub hl [0, 1, 2] rfl)
set_option maxHeartbeats 4000000 in
set_option maxRecDepth 100000 in
theorem h_X11_choose_24700246 (l : Launch) (D : va_G) (T : Nat → ClassId) (sq sv sz : Nat) (a : Nat) (z : Nat → Nat) (i1 i2 i3 i4 i5 i6 i7 i8 i30 i43 i45 i46 i47 i48 i49 i50 i51 i58 i59 i65 i68 i69 i72 i78 i80 i81 i82 i87 i92 i96 i100 i103 i104 : Int32) (p1 : Int32) (p2 : Int32) (g97 : Nat → Int32) (g98 : Nat → Int32) (g99 : Nat → Int32) (g101 : Nat → Int32) (g102 : Nat → Int32) (hi96 : 0 ≤ i96.toInt ∧ i96.toInt ≤ 12) (hi100 : 0 ≤ i100.toInt ∧ i100.toInt ≤ 8) (hbg97 : Bd (0) (99) g97) (hbg98 : Bd (0) (999) g98) (hbg99 : Bd (0) (999) g99) (hbg101 : Bd (0) (99) g101) (hbg102 : Bd (0) (9999) g102) : Met l yX11_choose (.code yX11_choose cX11_choose 10 (some .int) :: TB) { frames := 2, cells := 0, slots := 0, locals := 52 } (PC2 D T sq sv [.ref a, .int p1, .int p2] [(a, .inr (11, OX z i1 i2 i3 i4 i5 i6 i7 i8 i30 i43 i45 i46 i47 i48 i49 i50 i51 i58 i59 i65 i68 i69 i72 i78 i80 i81 i82 i87 i92 i96 i100 i103 i104)), ((z 97), .inl (T 0, 12, .inl g97)), ((z 98), .inl (T 0, 12, .inl g98)), ((z 99), .inl (T 0, 12, .inl g99)), ((z 101), .inl (T 0, 8, .inl g101)), ((z 102), .inl (T 0, 8, .inl g102))] sz) (Qi (S := Int32 × Int32) (fun (r : Int32) (u : Int32 × Int32) => match u with | (ui103, ui104) => (CHX (Int32.toNatClampNeg i96) (Int32.toNatClampNeg i100) g97 g98 g99 g101 g102 p1 p2 i103 i104 r ui103 ui104) ∧ (-1 ≤ r.toInt ∧ r.toInt ≤ 11988)) (fun (u : Int32 × Int32) => match u with | (ui103, ui104) => [(a, .inr (11, OX z i1 i2 i3 i4 i5 i6 i7 i8 i30 i43 i45 i46 i47 i48 i49 i50 i51 i58 i59 i65 i68 i69 i72 i78 i80 i81 i82 i87 i92 i96 i100 ui103 ui104)), ((z 97), .inl (T 0, 12, .inl g97)), ((z 98), .inl (T 0, 12, .inl g98)), ((z 99), .inl (T 0, 12, .inl g99)), ((z 101), .inl (T 0, 8, .inl g101)), ((z 102), .inl (T 0, 8, .inl g102))]) D (va_A [(a, .inr (11, OX z i1 i2 i3 i4 i5 i6 i7 i8 i30 i43 i45 i46 i47 i48 i49 i50 i51 i58 i59 i65 i68 i69 i72 i78 i80 i81 i82 i87 i92 i96 i100 i103 i104)), ((z 97), .inl (T 0, 12, .inl g97)), ((z 98), .inl (T 0, 12, .inl g98)), ((z 99), .inl (T 0, 12, .inl g99)), ((z 101), .inl (T 0, 8, .inl g101)), ((z 102), .inl (T 0, 8, .inl g102))] sz)) 0 0 (va_A [(a, .inr (11, OX z i1 i2 i3 i4 i5 i6 i7 i8 i30 i43 i45 i46 i47 i48 i49 i50 i51 i58 i59 i65 i68 i69 i72 i78 i80 i81 i82 i87 i92 i96 i100 i103 i104)), ((z 97), .inl (T 0, 12, .inl g97)), ((z 98), .inl (T 0, 12, .inl g98)), ((z 99), .inl (T 0, 12, .inl g99)), ((z 101), .inl (T 0, 8, .inl g101)), ((z 102), .inl (T 0, 8, .inl g102))] sz) := by
  refine ct_begin2 (Qc := Qi (S := Int32 × Int32) (fun (r : Int32) (u : Int32 × Int32) => match u with | (ui103, ui104) => (CHX (Int32.toNatClampNeg i96) (Int32.toNatClampNeg i100) g97 g98 g99 g101 g102 p1 p2 i103 i104 r ui103 ui104) ∧ (-1 ≤ r.toInt ∧ r.toInt ≤ 11988)) (fun (u : Int32 × Int32) => match u with | (ui103, ui104) => [(a, .inr (11, OX z i1 i2 i3 i4 i5 i6 i7 i8 i30 i43 i45 i46 i47 i48 i49 i50 i51 i58 i59 i65 i68 i69 i72 i78 i80 i81 i82 i87 i92 i96 i100 ui103 ui104)), ((z 97), .inl (T 0, 12, .inl g97)), ((z 98), .inl (T 0, 12, .inl g98)), ((z 99), .inl (T 0, 12, .inl g99)), ((z 101), .inl (T 0, 8, .inl g101)), ((z 102), .inl (T 0, 8, .inl g102))]) D) (by decide +kernel) (Nat.le_of_ble_eq_true rfl) ?_
  intro p e s m below meth c A ls C0 hr hlocks hnm hE hStr hA hP hD hl
  generalize ([.ref a, .int p1, .int p2] : List Value).toArray = args at C0 ⊢
  have hx := C0.1
  have hb := C0.2.1
  have hml := C0.2.2.1
  have hown := C0.2.2.2.1
  have hT := C0.2.2.2.2
  have hK := hE.1
  generalize hH : s.heap = H at hP ⊢
  have hS : va_S A s.heap H [] := by rw [← hH]; exact va_S.rf
  have hP : va_P D vwCl [(a, .inr (11, OX z i1 i2 i3 i4 i5 i6 i7 i8 i30 i43 i45 i46 i47 i48 i49 i50 i51 i58 i59 i65 i68 i69 i72 i78 i80 i81 i82 i87 i92 i96 i100 i103 i104)), ((z 97), .inl (T 0, 12, .inl g97)), ((z 98), .inl (T 0, 12, .inl g98)), ((z 99), .inl (T 0, 12, .inl g99)), ((z 101), .inl (T 0, 8, .inl g101)), ((z 102), .inl (T 0, 8, .inl g102))] H := hP
  have hD : va_D A [(a, .inr (11, OX z i1 i2 i3 i4 i5 i6 i7 i8 i30 i43 i45 i46 i47 i48 i49 i50 i51 i58 i59 i65 i68 i69 i72 i78 i80 i81 i82 i87 i92 i96 i100 i103 i104)), ((z 97), .inl (T 0, 12, .inl g97)), ((z 98), .inl (T 0, 12, .inl g98)), ((z 99), .inl (T 0, 12, .inl g99)), ((z 101), .inl (T 0, 8, .inl g101)), ((z 102), .inl (T 0, 8, .inl g102))] := hD
  have hl : lv_has ls 10 [(0, .ref a), (1, .int p1), (2, .int p2)] := hl
  refine lv_iload_n hx hb dX11_choose_0 rfl (lv_at hl 1 rfl) ?_
  refine lv_i2l hx hb dX11_choose_1 rfl ?_
  refine lv_topl (fun x24700247 ex24700247 => ?_)
  have hx24700247 : x24700247.toInt = p1.toInt := by rw [ex24700247]; exact Int32.toInt_toInt64 _
  refine lv_lconst (v := 0) hx hb dX11_choose_2 (by decide) ?_
  refine lv_ldc2 hx hb hown (hT _ mw_1029) dX11_choose_3 ?_
  refine r_calli (wr := [(a, .inr (11, OX z i1 i2 i3 i4 i5 i6 i7 i8 i30 i43 i45 i46 i47 i48 i49 i50 i51 i58 i59 i65 i68 i69 i72 i78 i80 i81 i82 i87 i92 i96 i100 i103 i104)), ((z 97), .inl (T 0, 12, .inl g97)), ((z 98), .inl (T 0, 12, .inl g98)), ((z 99), .inl (T 0, 12, .inl g99)), ((z 101), .inl (T 0, 8, .inl g101)), ((z 102), .inl (T 0, 8, .inl g102))]) (r_runS2 (As := [.long x24700247, .long 0, .long 99]) (rest := []) (wc := []) C0 hE hStr hS (va_free (wc := []) hD hS hA [] rfl) (h_X11_isIn_20000007 l D T sq sv H.size x24700247 0 99) mw_910 mw_911 mw_14 mw_912 dn_1704 rfl rfl ⟨Nat.le_of_ble_eq_true rfl, Nat.le_of_ble_eq_true rfl⟩ (hP.sub (ws' := []) [] rfl) (hD.sub (ws' := []) [] (by decide +kernel) rfl) hl.1 rfl (Nat.le_of_ble_eq_true rfl) dX11_choose_6 ⟨Nat.le_of_ble_eq_true rfl, Nat.le_of_ble_eq_true rfl⟩) hP hD hS hA [] [0, 1, 2, 3, 4, 5] rfl rfl (by decide +kernel) (by decide +kernel) (fun x24700248 u H locs hq hP hD hS => ?_)
  obtain ⟨hp24700249, hx24700248⟩ := hq
  have hp24700249 : (x24700248.toInt = 0 ∧ (x24700247.toInt < 0 ∨ 99 < x24700247.toInt)) ∨ (x24700248.toInt = 1 ∧ 0 ≤ x24700247.toInt ∧ x24700247.toInt ≤ 99) := hp24700249
  have hx24700248 : 0 ≤ x24700248.toInt ∧ x24700248.toInt ≤ 1 := hx24700248
  have hl24700250 : (0 : Int64).toInt = 0 := by decide
  have hl24700251 : (99 : Int64).toInt = 99 := by decide
  have hP : va_P D vwCl [(a, .inr (11, OX z i1 i2 i3 i4 i5 i6 i7 i8 i30 i43 i45 i46 i47 i48 i49 i50 i51 i58 i59 i65 i68 i69 i72 i78 i80 i81 i82 i87 i92 i96 i100 i103 i104)), ((z 97), .inl (T 0, 12, .inl g97)), ((z 98), .inl (T 0, 12, .inl g98)), ((z 99), .inl (T 0, 12, .inl g99)), ((z 101), .inl (T 0, 8, .inl g101)), ((z 102), .inl (T 0, 8, .inl g102))] H := hP
  have hD : va_D A [(a, .inr (11, OX z i1 i2 i3 i4 i5 i6 i7 i8 i30 i43 i45 i46 i47 i48 i49 i50 i51 i58 i59 i65 i68 i69 i72 i78 i80 i81 i82 i87 i92 i96 i100 i103 i104)), ((z 97), .inl (T 0, 12, .inl g97)), ((z 98), .inl (T 0, 12, .inl g98)), ((z 99), .inl (T 0, 12, .inl g99)), ((z 101), .inl (T 0, 8, .inl g101)), ((z 102), .inl (T 0, 8, .inl g102))] := hD
  refine W.widen (k := 0) (n := 0) (Nat.le_refl _) (Nat.le_refl _) ?_
  refine lv_if_eq (tgt := 24) hx hb dX11_choose_9 (by decide) (fun c24700252 => ?_) (fun c24700252 => ?_)
  · skip
    have kc24700252 : x24700248.toInt = 0 := eq_ti rfl (by decide) c24700252
    refine lv_iconst (v := (-1)) hx hb dX11_choose_24 (by decide) ?_
    exact r_iret (i103, i104) C0 hr hlocks hS (Nat.le_refl _) (Nat.le_refl _) dX11_choose_25 ⟨(Or.inr ⟨by omega, by decide, rfl, rfl⟩), ⟨by decide, by decide⟩⟩ (hP.sub (ws' := [(a, .inr (11, OX z i1 i2 i3 i4 i5 i6 i7 i8 i30 i43 i45 i46 i47 i48 i49 i50 i51 i58 i59 i65 i68 i69 i72 i78 i80 i81 i82 i87 i92 i96 i100 i103 i104)), ((z 97), .inl (T 0, 12, .inl g97)), ((z 98), .inl (T 0, 12, .inl g98)), ((z 99), .inl (T 0, 12, .inl g99)), ((z 101), .inl (T 0, 8, .inl g101)), ((z 102), .inl (T 0, 8, .inl g102))]) [0, 1, 2, 3, 4, 5] rfl) (hD.sub (ws' := [(a, .inr (11, OX z i1 i2 i3 i4 i5 i6 i7 i8 i30 i43 i45 i46 i47 i48 i49 i50 i51 i58 i59 i65 i68 i69 i72 i78 i80 i81 i82 i87 i92 i96 i100 i103 i104)), ((z 97), .inl (T 0, 12, .inl g97)), ((z 98), .inl (T 0, 12, .inl g98)), ((z 99), .inl (T 0, 12, .inl g99)), ((z 101), .inl (T 0, 8, .inl g101)), ((z 102), .inl (T 0, 8, .inl g102))]) [0, 1, 2, 3, 4, 5] (by decide +kernel) rfl)
  · skip
    have kc24700252 : x24700248.toInt ≠ 0 := ne_ti rfl (by decide) c24700252
    have nzx24700248 : ¬ x24700248 = 0 := c24700252
    refine lv_iload_n hx hb dX11_choose_12 rfl (lv_at hl 2 rfl) ?_
    refine lv_i2l hx hb dX11_choose_13 rfl ?_
    refine lv_topl (fun x24700253 ex24700253 => ?_)
    have hx24700253 : x24700253.toInt = p2.toInt := by rw [ex24700253]; exact Int32.toInt_toInt64 _
    refine lv_lconst (v := 0) hx hb dX11_choose_14 (by decide) ?_
    refine lv_ldc2 hx hb hown (hT _ mw_1223) dX11_choose_15 ?_
    refine r_calli (wr := [(a, .inr (11, OX z i1 i2 i3 i4 i5 i6 i7 i8 i30 i43 i45 i46 i47 i48 i49 i50 i51 i58 i59 i65 i68 i69 i72 i78 i80 i81 i82 i87 i92 i96 i100 i103 i104)), ((z 97), .inl (T 0, 12, .inl g97)), ((z 98), .inl (T 0, 12, .inl g98)), ((z 99), .inl (T 0, 12, .inl g99)), ((z 101), .inl (T 0, 8, .inl g101)), ((z 102), .inl (T 0, 8, .inl g102))]) (r_runS2 (As := [.long x24700253, .long 0, .long 20000]) (rest := []) (wc := []) C0 hE hStr hS (va_free (wc := []) hD hS hA [] rfl) (h_X11_isIn_20000007 l D T sq sv H.size x24700253 0 20000) mw_910 mw_911 mw_14 mw_912 dn_1704 rfl rfl ⟨Nat.le_of_ble_eq_true rfl, Nat.le_of_ble_eq_true rfl⟩ (hP.sub (ws' := []) [] rfl) (hD.sub (ws' := []) [] (by decide +kernel) rfl) hl.1 rfl (Nat.le_of_ble_eq_true rfl) dX11_choose_18 ⟨Nat.le_of_ble_eq_true rfl, Nat.le_of_ble_eq_true rfl⟩) hP hD hS hA [] [0, 1, 2, 3, 4, 5] rfl rfl (by decide +kernel) (by decide +kernel) (fun x24700254 u H locs hq hP hD hS => ?_)
    obtain ⟨hp24700255, hx24700254⟩ := hq
    have hp24700255 : (x24700254.toInt = 0 ∧ (x24700253.toInt < 0 ∨ 20000 < x24700253.toInt)) ∨ (x24700254.toInt = 1 ∧ 0 ≤ x24700253.toInt ∧ x24700253.toInt ≤ 20000) := hp24700255
    have hx24700254 : 0 ≤ x24700254.toInt ∧ x24700254.toInt ≤ 1 := hx24700254
    have hl24700256 : (0 : Int64).toInt = 0 := by decide
    have hl24700257 : (20000 : Int64).toInt = 20000 := by decide
    have hP : va_P D vwCl [(a, .inr (11, OX z i1 i2 i3 i4 i5 i6 i7 i8 i30 i43 i45 i46 i47 i48 i49 i50 i51 i58 i59 i65 i68 i69 i72 i78 i80 i81 i82 i87 i92 i96 i100 i103 i104)), ((z 97), .inl (T 0, 12, .inl g97)), ((z 98), .inl (T 0, 12, .inl g98)), ((z 99), .inl (T 0, 12, .inl g99)), ((z 101), .inl (T 0, 8, .inl g101)), ((z 102), .inl (T 0, 8, .inl g102))] H := hP
    have hD : va_D A [(a, .inr (11, OX z i1 i2 i3 i4 i5 i6 i7 i8 i30 i43 i45 i46 i47 i48 i49 i50 i51 i58 i59 i65 i68 i69 i72 i78 i80 i81 i82 i87 i92 i96 i100 i103 i104)), ((z 97), .inl (T 0, 12, .inl g97)), ((z 98), .inl (T 0, 12, .inl g98)), ((z 99), .inl (T 0, 12, .inl g99)), ((z 101), .inl (T 0, 8, .inl g101)), ((z 102), .inl (T 0, 8, .inl g102))] := hD
    refine W.widen (k := 0) (n := 0) (Nat.le_refl _) (Nat.le_refl _) ?_
    refine lv_if_ne (tgt := 26) hx hb dX11_choose_21 (by decide) (fun c24700258 => ?_) (fun c24700258 => ?_)
    · skip
      have kc24700258 : x24700254.toInt ≠ 0 := ne_ti rfl (by decide) c24700258
      have nzx24700254 : ¬ x24700254 = 0 := c24700258
      refine lv_iconst (v := (-1)) hx hb dX11_choose_26 (by decide) ?_
      refine lv_istore_n (lv' := [(3, .int (-1)), (0, .ref a), (1, .int p1), (2, .int p2)]) hx hb dX11_choose_27 rfl hl (by decide) rfl (fun ls hl => ?_)
      refine lv_iconst (v := 0) hx hb dX11_choose_28 (by decide) ?_
      refine lv_istore (lv' := [(4, .int 0), (3, .int (-1)), (0, .ref a), (1, .int p1), (2, .int p2)]) hx hb dX11_choose_29 hl (by decide) rfl (fun ls hl => ?_)
      refine lv_iconst (v := 0) hx hb dX11_choose_31 (by decide) ?_
      refine lv_istore (lv' := [(5, .int 0), (4, .int 0), (3, .int (-1)), (0, .ref a), (1, .int p1), (2, .int p2)]) hx hb dX11_choose_32 hl (by decide) rfl (fun ls hl => ?_)
      have L24700407 : ∀ (n : Nat) (x24700316 : Int32) (x24700317 : Int32) (x24700318 : Int32) (H : Heap) (locs : List Loc) (ls : Array Slot), (0 ≤ x24700316.toInt ∧ x24700316.toInt ≤ 4096) → (0 ≤ x24700317.toInt ∧ x24700317.toInt ≤ 11988) → (-1 ≤ x24700318.toInt ∧ x24700318.toInt ≤ 4095) → (BR (Int32.toNatClampNeg i96) (cst g99) (VA (Int32.toNatClampNeg i96) (Int32.toNatClampNeg i100) g97 g98 g101 g102 p1.toInt p2.toInt) x24700318.toInt x24700317.toInt x24700316.toInt) → (x24700316.toInt ≤ ((2 ^ Int32.toNatClampNeg i96 : Nat) : Int)) → (4097 - x24700316.toInt).toNat < n → va_P D vwCl [(a, .inr (11, OX z i1 i2 i3 i4 i5 i6 i7 i8 i30 i43 i45 i46 i47 i48 i49 i50 i51 i58 i59 i65 i68 i69 i72 i78 i80 i81 i82 i87 i92 i96 i100 i103 i104)), ((z 97), .inl (T 0, 12, .inl g97)), ((z 98), .inl (T 0, 12, .inl g98)), ((z 99), .inl (T 0, 12, .inl g99)), ((z 101), .inl (T 0, 8, .inl g101)), ((z 102), .inl (T 0, 8, .inl g102))] H → va_D A [(a, .inr (11, OX z i1 i2 i3 i4 i5 i6 i7 i8 i30 i43 i45 i46 i47 i48 i49 i50 i51 i58 i59 i65 i68 i69 i72 i78 i80 i81 i82 i87 i92 i96 i100 i103 i104)), ((z 97), .inl (T 0, 12, .inl g97)), ((z 98), .inl (T 0, 12, .inl g98)), ((z 99), .inl (T 0, 12, .inl g99)), ((z 101), .inl (T 0, 8, .inl g101)), ((z 102), .inl (T 0, 8, .inl g102))] → va_S A s.heap H locs → lv_has ls 10 [(5, .int x24700316), (4, .int x24700317), (3, .int x24700318), (0, .ref a), (1, .int p1), (2, .int p2)] → W p l e { frames := 2, cells := 0, slots := 0, locals := 52 } s m args below meth c H locs 0 0 (MQ below ((Qi (S := Int32 × Int32) (fun (r : Int32) (u : Int32 × Int32) => match u with | (ui103, ui104) => (CHX (Int32.toNatClampNeg i96) (Int32.toNatClampNeg i100) g97 g98 g99 g101 g102 p1 p2 i103 i104 r ui103 ui104) ∧ (-1 ≤ r.toInt ∧ r.toInt ≤ 11988)) (fun (u : Int32 × Int32) => match u with | (ui103, ui104) => [(a, .inr (11, OX z i1 i2 i3 i4 i5 i6 i7 i8 i30 i43 i45 i46 i47 i48 i49 i50 i51 i58 i59 i65 i68 i69 i72 i78 i80 i81 i82 i87 i92 i96 i100 ui103 ui104)), ((z 97), .inl (T 0, 12, .inl g97)), ((z 98), .inl (T 0, 12, .inl g98)), ((z 99), .inl (T 0, 12, .inl g99)), ((z 101), .inl (T 0, 8, .inl g101)), ((z 102), .inl (T 0, 8, .inl g102))]) D) A) args s 0 0 A) (F0 m 34 ls []) := by
        intro n
        induction n with
        | zero =>
          intro x24700316 x24700317 x24700318 H locs ls hx24700316 hx24700317 hx24700318 hBR hr24700408 hms hP hD hS hl
          exact absurd hms (Nat.not_lt_zero _)
        | succ n ih24700409 =>
          intro x24700316 x24700317 x24700318 H locs ls hx24700316 hx24700317 hx24700318 hBR hr24700408 hms hP hD hS hl
          refine lv_iload hx hb dX11_choose_34 (lv_at hl 0 rfl) ?_
          refine lv_iconst (v := 1) hx hb dX11_choose_36 (by decide) ?_
          refine lv_aload_n hx hb dX11_choose_37 rfl (lv_at hl 3 rfl) ?_
          refine r_get (v := .int i96) C0 hE ffX11_96 mw_886 hP 0 rfl ox_96 dX11_choose_38 ?_
          refine lv_ishl hx hb dX11_choose_41 ?_
          refine lv_topi (fun x24700410 ex24700410 => ?_)
          have hsh := shl_ti ex24700410 (by omega) (by omega)
          have hp12 := pow12 (n := (Int32.toNatClampNeg i96)) (by have ht96 := tn (x := i96) (by omega); omega)
          refine lv_icmp_ge (tgt := 232) hx hb dX11_choose_42 (by decide) (fun c24700411 => ?_) (fun c24700411 => ?_)
          · skip
            have kc24700411 : x24700410.toInt ≤ x24700316.toInt := le_ti rfl rfl c24700411
            refine lv_iload_n hx hb dX11_choose_232 rfl (lv_at hl 2 rfl) ?_
            refine lv_iconst (v := (-1)) hx hb dX11_choose_233 (by decide) ?_
            refine lv_icmp_ne (tgt := 239) hx hb dX11_choose_234 (by decide) (fun c24700412 => ?_) (fun c24700412 => ?_)
            · skip
              have kc24700412 : x24700318.toInt ≠ (-1) := ne_ti rfl (by decide) c24700412
              refine lv_aload_n hx hb dX11_choose_239 rfl (lv_at hl 3 rfl) ?_
              refine lv_iload_n hx hb dX11_choose_240 rfl (lv_at hl 2 rfl) ?_
              refine r_put (v := .int x24700318) (ty := .int) (ws1 := [(a, .inr (11, OX z i1 i2 i3 i4 i5 i6 i7 i8 i30 i43 i45 i46 i47 i48 i49 i50 i51 i58 i59 i65 i68 i69 i72 i78 i80 i81 i82 i87 i92 i96 i100 x24700318 i104)), ((z 97), .inl (T 0, 12, .inl g97)), ((z 98), .inl (T 0, 12, .inl g98)), ((z 99), .inl (T 0, 12, .inl g99)), ((z 101), .inl (T 0, 8, .inl g101)), ((z 102), .inl (T 0, 8, .inl g102))]) C0 hE ffX11_103 tyX11 tyX11_ok nmX11 mw_893 pf_1358 hP hD hS 0 rfl rfl rfl ol_103 os_103 rfl dX11_choose_241 (fun H locs hP hD hS => ?_)
              refine lv_aload_n hx hb dX11_choose_244 rfl (lv_at hl 3 rfl) ?_
              refine lv_aload_n hx hb dX11_choose_245 rfl (lv_at hl 3 rfl) ?_
              refine r_get (v := .int i96) C0 hE ffX11_96 mw_886 hP 0 rfl ox_96 dX11_choose_246 ?_
              refine r_put (v := .int i96) (ty := .int) (ws1 := [(a, .inr (11, OX z i1 i2 i3 i4 i5 i6 i7 i8 i30 i43 i45 i46 i47 i48 i49 i50 i51 i58 i59 i65 i68 i69 i72 i78 i80 i81 i82 i87 i92 i96 i100 x24700318 i96)), ((z 97), .inl (T 0, 12, .inl g97)), ((z 98), .inl (T 0, 12, .inl g98)), ((z 99), .inl (T 0, 12, .inl g99)), ((z 101), .inl (T 0, 8, .inl g101)), ((z 102), .inl (T 0, 8, .inl g102))]) C0 hE ffX11_104 tyX11 tyX11_ok nmX11 mw_894 pf_1358 hP hD hS 0 rfl rfl rfl ol_104 os_104 rfl dX11_choose_249 (fun H locs hP hD hS => ?_)
              refine lv_iload hx hb dX11_choose_252 (lv_at hl 1 rfl) ?_
              exact r_iret (x24700318, i96) C0 hr hlocks hS (Nat.le_refl _) (Nat.le_refl _) dX11_choose_254 ⟨(Or.inl ⟨by omega, br_some hBR (by omega) (by omega) (by have ht96 := tn (x := i96) (by omega); omega)⟩), ⟨by omega, by omega⟩⟩ (hP.sub (ws' := [(a, .inr (11, OX z i1 i2 i3 i4 i5 i6 i7 i8 i30 i43 i45 i46 i47 i48 i49 i50 i51 i58 i59 i65 i68 i69 i72 i78 i80 i81 i82 i87 i92 i96 i100 x24700318 i96)), ((z 97), .inl (T 0, 12, .inl g97)), ((z 98), .inl (T 0, 12, .inl g98)), ((z 99), .inl (T 0, 12, .inl g99)), ((z 101), .inl (T 0, 8, .inl g101)), ((z 102), .inl (T 0, 8, .inl g102))]) [0, 1, 2, 3, 4, 5] rfl) (hD.sub (ws' := [(a, .inr (11, OX z i1 i2 i3 i4 i5 i6 i7 i8 i30 i43 i45 i46 i47 i48 i49 i50 i51 i58 i59 i65 i68 i69 i72 i78 i80 i81 i82 i87 i92 i96 i100 x24700318 i96)), ((z 97), .inl (T 0, 12, .inl g97)), ((z 98), .inl (T 0, 12, .inl g98)), ((z 99), .inl (T 0, 12, .inl g99)), ((z 101), .inl (T 0, 8, .inl g101)), ((z 102), .inl (T 0, 8, .inl g102))]) [0, 1, 2, 3, 4, 5] (by decide +kernel) rfl)
            · skip
              have kc24700412 : x24700318.toInt = (-1) := eq_ti rfl (by decide) c24700412
              refine lv_iconst (v := (-1)) hx hb dX11_choose_237 (by decide) ?_
              exact r_iret (i103, i104) C0 hr hlocks hS (Nat.le_refl _) (Nat.le_refl _) dX11_choose_238 ⟨(Or.inl ⟨by omega, br_none hBR (by omega) (by omega) (by decide)⟩), ⟨by decide, by decide⟩⟩ (hP.sub (ws' := [(a, .inr (11, OX z i1 i2 i3 i4 i5 i6 i7 i8 i30 i43 i45 i46 i47 i48 i49 i50 i51 i58 i59 i65 i68 i69 i72 i78 i80 i81 i82 i87 i92 i96 i100 i103 i104)), ((z 97), .inl (T 0, 12, .inl g97)), ((z 98), .inl (T 0, 12, .inl g98)), ((z 99), .inl (T 0, 12, .inl g99)), ((z 101), .inl (T 0, 8, .inl g101)), ((z 102), .inl (T 0, 8, .inl g102))]) [0, 1, 2, 3, 4, 5] rfl) (hD.sub (ws' := [(a, .inr (11, OX z i1 i2 i3 i4 i5 i6 i7 i8 i30 i43 i45 i46 i47 i48 i49 i50 i51 i58 i59 i65 i68 i69 i72 i78 i80 i81 i82 i87 i92 i96 i100 i103 i104)), ((z 97), .inl (T 0, 12, .inl g97)), ((z 98), .inl (T 0, 12, .inl g98)), ((z 99), .inl (T 0, 12, .inl g99)), ((z 101), .inl (T 0, 8, .inl g101)), ((z 102), .inl (T 0, 8, .inl g102))]) [0, 1, 2, 3, 4, 5] (by decide +kernel) rfl)
          · skip
            have kc24700411 : x24700316.toInt < x24700410.toInt := nle_ti rfl rfl c24700411
            have rg24700413 := i32_rng x24700410
            have hs45 : 0 ≤ x24700316.toInt ∧ x24700316.toInt ≤ 4095 := ⟨by omega, by omega⟩
            have hsn := tn (x := x24700316) (by omega)
            have hsl : Int32.toNatClampNeg x24700316 < 2 ^ (Int32.toNatClampNeg i96) := by omega
            refine lv_iconst (v := 0) hx hb dX11_choose_45 (by decide) ?_
            refine lv_istore (lv' := [(6, .int 0), (5, .int x24700316), (4, .int x24700317), (3, .int x24700318), (0, .ref a), (1, .int p1), (2, .int p2)]) hx hb dX11_choose_46 hl (by decide) rfl (fun ls hl => ?_)
            refine lv_iconst (v := 0) hx hb dX11_choose_48 (by decide) ?_
            refine lv_istore (lv' := [(7, .int 0), (6, .int 0), (5, .int x24700316), (4, .int x24700317), (3, .int x24700318), (0, .ref a), (1, .int p1), (2, .int p2)]) hx hb dX11_choose_49 hl (by decide) rfl (fun ls hl => ?_)
            refine lv_iconst (v := 0) hx hb dX11_choose_51 (by decide) ?_
            refine lv_istore (lv' := [(8, .int 0), (7, .int 0), (6, .int 0), (5, .int x24700316), (4, .int x24700317), (3, .int x24700318), (0, .ref a), (1, .int p1), (2, .int p2)]) hx hb dX11_choose_52 hl (by decide) rfl (fun ls hl => ?_)
            have L24700440 : ∀ (n : Nat) (x24700425 : Int32) (x24700426 : Int32) (x24700427 : Int32) (H : Heap) (locs : List Loc) (ls : Array Slot), (0 ≤ x24700425.toInt ∧ x24700425.toInt ≤ 12) → (0 ≤ x24700426.toInt ∧ x24700426.toInt ≤ 11988) → (0 ≤ x24700427.toInt ∧ x24700427.toInt ≤ 11988) → (SMI (cst g99) x24700316 x24700425 x24700427) → (SMI (cst g98) x24700316 x24700425 x24700426) → (x24700425.toInt ≤ i96.toInt ∧ x24700427.toInt ≤ 999 * x24700425.toInt ∧ x24700426.toInt ≤ 999 * x24700425.toInt) → (13 - x24700425.toInt).toNat < n → va_P D vwCl [(a, .inr (11, OX z i1 i2 i3 i4 i5 i6 i7 i8 i30 i43 i45 i46 i47 i48 i49 i50 i51 i58 i59 i65 i68 i69 i72 i78 i80 i81 i82 i87 i92 i96 i100 i103 i104)), ((z 97), .inl (T 0, 12, .inl g97)), ((z 98), .inl (T 0, 12, .inl g98)), ((z 99), .inl (T 0, 12, .inl g99)), ((z 101), .inl (T 0, 8, .inl g101)), ((z 102), .inl (T 0, 8, .inl g102))] H → va_D A [(a, .inr (11, OX z i1 i2 i3 i4 i5 i6 i7 i8 i30 i43 i45 i46 i47 i48 i49 i50 i51 i58 i59 i65 i68 i69 i72 i78 i80 i81 i82 i87 i92 i96 i100 i103 i104)), ((z 97), .inl (T 0, 12, .inl g97)), ((z 98), .inl (T 0, 12, .inl g98)), ((z 99), .inl (T 0, 12, .inl g99)), ((z 101), .inl (T 0, 8, .inl g101)), ((z 102), .inl (T 0, 8, .inl g102))] → va_S A s.heap H locs → lv_has ls 10 [(8, .int x24700425), (7, .int x24700426), (6, .int x24700427), (5, .int x24700316), (4, .int x24700317), (3, .int x24700318), (0, .ref a), (1, .int p1), (2, .int p2)] → W p l e { frames := 2, cells := 0, slots := 0, locals := 52 } s m args below meth c H locs 0 0 (MQ below ((Qi (S := Int32 × Int32) (fun (r : Int32) (u : Int32 × Int32) => match u with | (ui103, ui104) => (CHX (Int32.toNatClampNeg i96) (Int32.toNatClampNeg i100) g97 g98 g99 g101 g102 p1 p2 i103 i104 r ui103 ui104) ∧ (-1 ≤ r.toInt ∧ r.toInt ≤ 11988)) (fun (u : Int32 × Int32) => match u with | (ui103, ui104) => [(a, .inr (11, OX z i1 i2 i3 i4 i5 i6 i7 i8 i30 i43 i45 i46 i47 i48 i49 i50 i51 i58 i59 i65 i68 i69 i72 i78 i80 i81 i82 i87 i92 i96 i100 ui103 ui104)), ((z 97), .inl (T 0, 12, .inl g97)), ((z 98), .inl (T 0, 12, .inl g98)), ((z 99), .inl (T 0, 12, .inl g99)), ((z 101), .inl (T 0, 8, .inl g101)), ((z 102), .inl (T 0, 8, .inl g102))]) D) A) args s 0 0 A) (F0 m 54 ls []) := by
              intro n
              induction n with
              | zero =>
                intro x24700425 x24700426 x24700427 H locs ls hx24700425 hx24700426 hx24700427 hSC hSB hr24700441 hms hP hD hS hl
                exact absurd hms (Nat.not_lt_zero _)
              | succ n ih24700442 =>
                intro x24700425 x24700426 x24700427 H locs ls hx24700425 hx24700426 hx24700427 hSC hSB hr24700441 hms hP hD hS hl
                refine lv_iload hx hb dX11_choose_54 (lv_at hl 0 rfl) ?_
                refine lv_aload_n hx hb dX11_choose_56 rfl (lv_at hl 6 rfl) ?_
                refine r_get (v := .int i96) C0 hE ffX11_96 mw_886 hP 0 rfl ox_96 dX11_choose_57 ?_
                refine lv_icmp_ge (tgt := 109) hx hb dX11_choose_60 (by decide) (fun c24700443 => ?_) (fun c24700443 => ?_)
                · skip
                  have kc24700443 : i96.toInt ≤ x24700425.toInt := le_ti rfl rfl c24700443
                  have ht96 := tn (x := i96) (by omega)
                  have hco := SMI.end hSC (n := (Int32.toNatClampNeg i96)) (by omega)
                  have hbe := SMI.end hSB (n := (Int32.toNatClampNeg i96)) (by omega)
                  refine lv_iload hx hb dX11_choose_109 (lv_at hl 1 rfl) ?_
                  refine lv_iload_n hx hb dX11_choose_111 rfl (lv_at hl 8 rfl) ?_
                  refine lv_icmp_gt (tgt := 119) hx hb dX11_choose_112 (by decide) (fun c24700444 => ?_) (fun c24700444 => ?_)
                  · skip
                    have kc24700444 : p2.toInt < x24700426.toInt := lt_ti rfl rfl c24700444
                    refine lv_iconst (v := 0) hx hb dX11_choose_119 (by decide) ?_
                    refine lv_istore (lv' := [(8, .int 0), (7, .int x24700426), (6, .int x24700427), (5, .int x24700316), (4, .int x24700317), (3, .int x24700318), (0, .ref a), (1, .int p1), (2, .int p2)]) hx hb dX11_choose_120 hl (by decide) rfl (fun ls hl => ?_)
                    refine lv_iconst (v := 0) hx hb dX11_choose_122 (by decide) ?_
                    refine lv_istore (lv' := [(9, .int 0), (8, .int 0), (7, .int x24700426), (6, .int x24700427), (5, .int x24700316), (4, .int x24700317), (3, .int x24700318), (0, .ref a), (1, .int p1), (2, .int p2)]) hx hb dX11_choose_123 hl (by decide) rfl (fun ls hl => ?_)
                    have L24700446 : ∀ (n : Nat) (H : Heap) (locs : List Loc) (ls : Array Slot), (HIS (Int32.toNatClampNeg i96) (Int32.toNatClampNeg i100) g97 g98 g101 g102 p1.toInt p2.toInt x24700316 0 0) → 0 < n → va_P D vwCl [(a, .inr (11, OX z i1 i2 i3 i4 i5 i6 i7 i8 i30 i43 i45 i46 i47 i48 i49 i50 i51 i58 i59 i65 i68 i69 i72 i78 i80 i81 i82 i87 i92 i96 i100 i103 i104)), ((z 97), .inl (T 0, 12, .inl g97)), ((z 98), .inl (T 0, 12, .inl g98)), ((z 99), .inl (T 0, 12, .inl g99)), ((z 101), .inl (T 0, 8, .inl g101)), ((z 102), .inl (T 0, 8, .inl g102))] H → va_D A [(a, .inr (11, OX z i1 i2 i3 i4 i5 i6 i7 i8 i30 i43 i45 i46 i47 i48 i49 i50 i51 i58 i59 i65 i68 i69 i72 i78 i80 i81 i82 i87 i92 i96 i100 i103 i104)), ((z 97), .inl (T 0, 12, .inl g97)), ((z 98), .inl (T 0, 12, .inl g98)), ((z 99), .inl (T 0, 12, .inl g99)), ((z 101), .inl (T 0, 8, .inl g101)), ((z 102), .inl (T 0, 8, .inl g102))] → va_S A s.heap H locs → lv_has ls 10 [(9, .int 0), (8, .int 0), (7, .int x24700426), (6, .int x24700427), (5, .int x24700316), (4, .int x24700317), (3, .int x24700318), (0, .ref a), (1, .int p1), (2, .int p2)] → W p l e { frames := 2, cells := 0, slots := 0, locals := 52 } s m args below meth c H locs 0 0 (MQ below ((Qi (S := Int32 × Int32) (fun (r : Int32) (u : Int32 × Int32) => match u with | (ui103, ui104) => (CHX (Int32.toNatClampNeg i96) (Int32.toNatClampNeg i100) g97 g98 g99 g101 g102 p1 p2 i103 i104 r ui103 ui104) ∧ (-1 ≤ r.toInt ∧ r.toInt ≤ 11988)) (fun (u : Int32 × Int32) => match u with | (ui103, ui104) => [(a, .inr (11, OX z i1 i2 i3 i4 i5 i6 i7 i8 i30 i43 i45 i46 i47 i48 i49 i50 i51 i58 i59 i65 i68 i69 i72 i78 i80 i81 i82 i87 i92 i96 i100 ui103 ui104)), ((z 97), .inl (T 0, 12, .inl g97)), ((z 98), .inl (T 0, 12, .inl g98)), ((z 99), .inl (T 0, 12, .inl g99)), ((z 101), .inl (T 0, 8, .inl g101)), ((z 102), .inl (T 0, 8, .inl g102))]) D) A) args s 0 0 A) (F0 m 125 ls []) := by
                      intro n
                      induction n with
                      | zero =>
                        intro H locs ls hHI hms hP hD hS hl
                        exact absurd hms (Nat.not_lt_zero _)
                      | succ n ih24700447 =>
                        intro H locs ls hHI hms hP hD hS hl
                        refine lv_iload hx hb dX11_choose_125 (lv_at hl 0 rfl) ?_
                        refine lv_aload_n hx hb dX11_choose_127 rfl (lv_at hl 7 rfl) ?_
                        refine r_get (v := .int i100) C0 hE ffX11_100 mw_890 hP 0 rfl ox_100 dX11_choose_128 ?_
                        refine lv_icmp_ge (tgt := 156) hx hb dX11_choose_131 (by decide) (fun c24700448 => ?_) (fun c24700448 => ?_)
                        · skip
                          have kc24700448 : i100.toInt ≤ 0 := le_ti rfl (by decide) c24700448
                          refine lv_iload hx hb dX11_choose_156 (lv_at hl 1 rfl) ?_
                          refine lv_if_ne (tgt := 164) hx hb dX11_choose_158 (by decide) (fun hc => absurd (by decide +kernel) hc) (fun _ => ?_)
                          have hnv := his_nv hHI (by decide)
                          refine lv_goto (tgt := 226) hx hb dX11_choose_161 (by decide) ?_
                          obtain ⟨x24700449, ex24700449⟩ : ∃ y : Int32, y = x24700316 + 1 := ⟨_, rfl⟩
                          have hx24700449 : x24700449.toInt = x24700316.toInt + 1 := ti_add ex24700449 rfl (by decide) (by omega) (by omega)
                          refine lv_iinc (v := x24700449) (lv' := [(5, .int x24700449), (9, .int 0), (8, .int 0), (7, .int x24700426), (6, .int x24700427), (4, .int x24700317), (3, .int x24700318), (0, .ref a), (1, .int p1), (2, .int p2)]) hx hb dX11_choose_226 hl (k := 4) rfl (by rw [ex24700449]; rfl) (by decide) rfl (fun ls hl => ?_)
                          refine lv_goto (tgt := 34) hx hb dX11_choose_229 (by decide) ?_
                          exact ih24700409 x24700449 x24700317 x24700318 _ _ ls ⟨by omega, by omega⟩ ⟨by omega, by omega⟩ ⟨by omega, by omega⟩ (BR.skip (s := Int32.toNatClampNeg x24700316) hBR hsn.symm (by omega) hnv) (by omega) (by omega) (hP.sub (ws' := [(a, .inr (11, OX z i1 i2 i3 i4 i5 i6 i7 i8 i30 i43 i45 i46 i47 i48 i49 i50 i51 i58 i59 i65 i68 i69 i72 i78 i80 i81 i82 i87 i92 i96 i100 i103 i104)), ((z 97), .inl (T 0, 12, .inl g97)), ((z 98), .inl (T 0, 12, .inl g98)), ((z 99), .inl (T 0, 12, .inl g99)), ((z 101), .inl (T 0, 8, .inl g101)), ((z 102), .inl (T 0, 8, .inl g102))]) [0, 1, 2, 3, 4, 5] rfl) (hD.sub (ws' := [(a, .inr (11, OX z i1 i2 i3 i4 i5 i6 i7 i8 i30 i43 i45 i46 i47 i48 i49 i50 i51 i58 i59 i65 i68 i69 i72 i78 i80 i81 i82 i87 i92 i96 i100 i103 i104)), ((z 97), .inl (T 0, 12, .inl g97)), ((z 98), .inl (T 0, 12, .inl g98)), ((z 99), .inl (T 0, 12, .inl g99)), ((z 101), .inl (T 0, 8, .inl g101)), ((z 102), .inl (T 0, 8, .inl g102))]) [0, 1, 2, 3, 4, 5] (by decide +kernel) rfl) hS (lv_sub hl [0, 5, 6, 7, 8, 9] rfl)
                        · skip
                          have kc24700448 : 0 < i100.toInt := nle_ti rfl (by decide) c24700448
                          refine lv_iload hx hb dX11_choose_134 (lv_at hl 1 rfl) ?_
                          refine lv_if_eq (tgt := 156) hx hb dX11_choose_136 (by decide) (fun _ => ?_) (fun hc => absurd (by decide +kernel) hc)
                          refine lv_iload hx hb dX11_choose_156 (lv_at hl 1 rfl) ?_
                          refine lv_if_ne (tgt := 164) hx hb dX11_choose_158 (by decide) (fun hc => absurd (by decide +kernel) hc) (fun _ => ?_)
                          have hnv := his_nv hHI (by decide)
                          refine lv_goto (tgt := 226) hx hb dX11_choose_161 (by decide) ?_
                          obtain ⟨x24700450, ex24700450⟩ : ∃ y : Int32, y = x24700316 + 1 := ⟨_, rfl⟩
                          have hx24700450 : x24700450.toInt = x24700316.toInt + 1 := ti_add ex24700450 rfl (by decide) (by omega) (by omega)
                          refine lv_iinc (v := x24700450) (lv' := [(5, .int x24700450), (9, .int 0), (8, .int 0), (7, .int x24700426), (6, .int x24700427), (4, .int x24700317), (3, .int x24700318), (0, .ref a), (1, .int p1), (2, .int p2)]) hx hb dX11_choose_226 hl (k := 4) rfl (by rw [ex24700450]; rfl) (by decide) rfl (fun ls hl => ?_)
                          refine lv_goto (tgt := 34) hx hb dX11_choose_229 (by decide) ?_
                          exact ih24700409 x24700450 x24700317 x24700318 _ _ ls ⟨by omega, by omega⟩ ⟨by omega, by omega⟩ ⟨by omega, by omega⟩ (BR.skip (s := Int32.toNatClampNeg x24700316) hBR hsn.symm (by omega) hnv) (by omega) (by omega) (hP.sub (ws' := [(a, .inr (11, OX z i1 i2 i3 i4 i5 i6 i7 i8 i30 i43 i45 i46 i47 i48 i49 i50 i51 i58 i59 i65 i68 i69 i72 i78 i80 i81 i82 i87 i92 i96 i100 i103 i104)), ((z 97), .inl (T 0, 12, .inl g97)), ((z 98), .inl (T 0, 12, .inl g98)), ((z 99), .inl (T 0, 12, .inl g99)), ((z 101), .inl (T 0, 8, .inl g101)), ((z 102), .inl (T 0, 8, .inl g102))]) [0, 1, 2, 3, 4, 5] rfl) (hD.sub (ws' := [(a, .inr (11, OX z i1 i2 i3 i4 i5 i6 i7 i8 i30 i43 i45 i46 i47 i48 i49 i50 i51 i58 i59 i65 i68 i69 i72 i78 i80 i81 i82 i87 i92 i96 i100 i103 i104)), ((z 97), .inl (T 0, 12, .inl g97)), ((z 98), .inl (T 0, 12, .inl g98)), ((z 99), .inl (T 0, 12, .inl g99)), ((z 101), .inl (T 0, 8, .inl g101)), ((z 102), .inl (T 0, 8, .inl g102))]) [0, 1, 2, 3, 4, 5] (by decide +kernel) rfl) hS (lv_sub hl [0, 5, 6, 7, 8, 9] rfl)
                    exact L24700446 _ _ _ ls (his_no (by decide) hbe (by omega)) (Nat.lt_succ_self _) (hP.sub (ws' := [(a, .inr (11, OX z i1 i2 i3 i4 i5 i6 i7 i8 i30 i43 i45 i46 i47 i48 i49 i50 i51 i58 i59 i65 i68 i69 i72 i78 i80 i81 i82 i87 i92 i96 i100 i103 i104)), ((z 97), .inl (T 0, 12, .inl g97)), ((z 98), .inl (T 0, 12, .inl g98)), ((z 99), .inl (T 0, 12, .inl g99)), ((z 101), .inl (T 0, 8, .inl g101)), ((z 102), .inl (T 0, 8, .inl g102))]) [0, 1, 2, 3, 4, 5] rfl) (hD.sub (ws' := [(a, .inr (11, OX z i1 i2 i3 i4 i5 i6 i7 i8 i30 i43 i45 i46 i47 i48 i49 i50 i51 i58 i59 i65 i68 i69 i72 i78 i80 i81 i82 i87 i92 i96 i100 i103 i104)), ((z 97), .inl (T 0, 12, .inl g97)), ((z 98), .inl (T 0, 12, .inl g98)), ((z 99), .inl (T 0, 12, .inl g99)), ((z 101), .inl (T 0, 8, .inl g101)), ((z 102), .inl (T 0, 8, .inl g102))]) [0, 1, 2, 3, 4, 5] (by decide +kernel) rfl) hS (lv_sub hl [0, 1, 2, 3, 4, 5, 6, 7, 8, 9] rfl)
                  · skip
                    have kc24700444 : x24700426.toInt ≤ p2.toInt := nlt_ti rfl rfl c24700444
                    refine lv_iconst (v := 1) hx hb dX11_choose_115 (by decide) ?_
                    refine lv_goto (tgt := 120) hx hb dX11_choose_116 (by decide) ?_
                    refine lv_istore (lv' := [(8, .int 1), (7, .int x24700426), (6, .int x24700427), (5, .int x24700316), (4, .int x24700317), (3, .int x24700318), (0, .ref a), (1, .int p1), (2, .int p2)]) hx hb dX11_choose_120 hl (by decide) rfl (fun ls hl => ?_)
                    refine lv_iconst (v := 0) hx hb dX11_choose_122 (by decide) ?_
                    refine lv_istore (lv' := [(9, .int 0), (8, .int 1), (7, .int x24700426), (6, .int x24700427), (5, .int x24700316), (4, .int x24700317), (3, .int x24700318), (0, .ref a), (1, .int p1), (2, .int p2)]) hx hb dX11_choose_123 hl (by decide) rfl (fun ls hl => ?_)
                    have L24700461 : ∀ (n : Nat) (x24700454 : Int32) (x24700455 : Int32) (H : Heap) (locs : List Loc) (ls : Array Slot), (0 ≤ x24700454.toInt ∧ x24700454.toInt ≤ 8) → (0 ≤ x24700455.toInt ∧ x24700455.toInt ≤ 1) → (HIS (Int32.toNatClampNeg i96) (Int32.toNatClampNeg i100) g97 g98 g101 g102 p1.toInt p2.toInt x24700316 x24700454 x24700455) → (9 - x24700454.toInt).toNat < n → va_P D vwCl [(a, .inr (11, OX z i1 i2 i3 i4 i5 i6 i7 i8 i30 i43 i45 i46 i47 i48 i49 i50 i51 i58 i59 i65 i68 i69 i72 i78 i80 i81 i82 i87 i92 i96 i100 i103 i104)), ((z 97), .inl (T 0, 12, .inl g97)), ((z 98), .inl (T 0, 12, .inl g98)), ((z 99), .inl (T 0, 12, .inl g99)), ((z 101), .inl (T 0, 8, .inl g101)), ((z 102), .inl (T 0, 8, .inl g102))] H → va_D A [(a, .inr (11, OX z i1 i2 i3 i4 i5 i6 i7 i8 i30 i43 i45 i46 i47 i48 i49 i50 i51 i58 i59 i65 i68 i69 i72 i78 i80 i81 i82 i87 i92 i96 i100 i103 i104)), ((z 97), .inl (T 0, 12, .inl g97)), ((z 98), .inl (T 0, 12, .inl g98)), ((z 99), .inl (T 0, 12, .inl g99)), ((z 101), .inl (T 0, 8, .inl g101)), ((z 102), .inl (T 0, 8, .inl g102))] → va_S A s.heap H locs → lv_has ls 10 [(9, .int x24700454), (8, .int x24700455), (7, .int x24700426), (6, .int x24700427), (5, .int x24700316), (4, .int x24700317), (3, .int x24700318), (0, .ref a), (1, .int p1), (2, .int p2)] → W p l e { frames := 2, cells := 0, slots := 0, locals := 52 } s m args below meth c H locs 0 0 (MQ below ((Qi (S := Int32 × Int32) (fun (r : Int32) (u : Int32 × Int32) => match u with | (ui103, ui104) => (CHX (Int32.toNatClampNeg i96) (Int32.toNatClampNeg i100) g97 g98 g99 g101 g102 p1 p2 i103 i104 r ui103 ui104) ∧ (-1 ≤ r.toInt ∧ r.toInt ≤ 11988)) (fun (u : Int32 × Int32) => match u with | (ui103, ui104) => [(a, .inr (11, OX z i1 i2 i3 i4 i5 i6 i7 i8 i30 i43 i45 i46 i47 i48 i49 i50 i51 i58 i59 i65 i68 i69 i72 i78 i80 i81 i82 i87 i92 i96 i100 ui103 ui104)), ((z 97), .inl (T 0, 12, .inl g97)), ((z 98), .inl (T 0, 12, .inl g98)), ((z 99), .inl (T 0, 12, .inl g99)), ((z 101), .inl (T 0, 8, .inl g101)), ((z 102), .inl (T 0, 8, .inl g102))]) D) A) args s 0 0 A) (F0 m 125 ls []) := by
                      intro n
                      induction n with
                      | zero =>
                        intro x24700454 x24700455 H locs ls hx24700454 hx24700455 hHI hms hP hD hS hl
                        exact absurd hms (Nat.not_lt_zero _)
                      | succ n ih24700462 =>
                        intro x24700454 x24700455 H locs ls hx24700454 hx24700455 hHI hms hP hD hS hl
                        refine lv_iload hx hb dX11_choose_125 (lv_at hl 0 rfl) ?_
                        refine lv_aload_n hx hb dX11_choose_127 rfl (lv_at hl 7 rfl) ?_
                        refine r_get (v := .int i100) C0 hE ffX11_100 mw_890 hP 0 rfl ox_100 dX11_choose_128 ?_
                        refine lv_icmp_ge (tgt := 156) hx hb dX11_choose_131 (by decide) (fun c24700463 => ?_) (fun c24700463 => ?_)
                        · skip
                          have kc24700463 : i100.toInt ≤ x24700454.toInt := le_ti rfl rfl c24700463
                          refine lv_iload hx hb dX11_choose_156 (lv_at hl 1 rfl) ?_
                          refine lv_if_ne (tgt := 164) hx hb dX11_choose_158 (by decide) (fun c24700464 => ?_) (fun c24700464 => ?_)
                          · skip
                            have kc24700464 : x24700455.toInt ≠ 0 := ne_ti rfl (by decide) c24700464
                            have nzx24700455 : ¬ x24700455 = 0 := c24700464
                            have ht100 := tn (x := i100) (by omega)
                            have hva := his_va hHI (by omega) (by omega) (by omega) hbe (by omega)
                            refine lv_iload_n hx hb dX11_choose_164 rfl (lv_at hl 6 rfl) ?_
                            refine lv_iconst (v := (-1)) hx hb dX11_choose_165 (by decide) ?_
                            refine lv_icmp_eq (tgt := 219) hx hb dX11_choose_166 (by decide) (fun c24700465 => ?_) (fun c24700465 => ?_)
                            · skip
                              have kc24700465 : x24700318.toInt = (-1) := eq_ti rfl (by decide) c24700465
                              refine lv_iload hx hb dX11_choose_219 (lv_at hl 4 rfl) ?_
                              refine lv_istore_n (lv' := [(3, .int x24700316), (9, .int x24700454), (8, .int x24700455), (7, .int x24700426), (6, .int x24700427), (5, .int x24700316), (4, .int x24700317), (0, .ref a), (1, .int p1), (2, .int p2)]) hx hb dX11_choose_221 rfl hl (by decide) rfl (fun ls hl => ?_)
                              refine lv_iload hx hb dX11_choose_222 (lv_at hl 4 rfl) ?_
                              refine lv_istore (lv' := [(4, .int x24700427), (3, .int x24700316), (9, .int x24700454), (8, .int x24700455), (7, .int x24700426), (6, .int x24700427), (5, .int x24700316), (0, .ref a), (1, .int p1), (2, .int p2)]) hx hb dX11_choose_224 hl (by decide) rfl (fun ls hl => ?_)
                              obtain ⟨x24700466, ex24700466⟩ : ∃ y : Int32, y = x24700316 + 1 := ⟨_, rfl⟩
                              have hx24700466 : x24700466.toInt = x24700316.toInt + 1 := ti_add ex24700466 rfl (by decide) (by omega) (by omega)
                              refine lv_iinc (v := x24700466) (lv' := [(5, .int x24700466), (4, .int x24700427), (3, .int x24700316), (9, .int x24700454), (8, .int x24700455), (7, .int x24700426), (6, .int x24700427), (0, .ref a), (1, .int p1), (2, .int p2)]) hx hb dX11_choose_226 hl (k := 6) rfl (by rw [ex24700466]; rfl) (by decide) rfl (fun ls hl => ?_)
                              refine lv_goto (tgt := 34) hx hb dX11_choose_229 (by decide) ?_
                              exact ih24700409 x24700466 x24700427 x24700316 _ _ ls ⟨by omega, by omega⟩ ⟨by omega, by omega⟩ ⟨by omega, by omega⟩ (BR.first (s := Int32.toNatClampNeg x24700316) hBR (by omega) hsn.symm (by omega) hva hco) (by omega) (by omega) (hP.sub (ws' := [(a, .inr (11, OX z i1 i2 i3 i4 i5 i6 i7 i8 i30 i43 i45 i46 i47 i48 i49 i50 i51 i58 i59 i65 i68 i69 i72 i78 i80 i81 i82 i87 i92 i96 i100 i103 i104)), ((z 97), .inl (T 0, 12, .inl g97)), ((z 98), .inl (T 0, 12, .inl g98)), ((z 99), .inl (T 0, 12, .inl g99)), ((z 101), .inl (T 0, 8, .inl g101)), ((z 102), .inl (T 0, 8, .inl g102))]) [0, 1, 2, 3, 4, 5] rfl) (hD.sub (ws' := [(a, .inr (11, OX z i1 i2 i3 i4 i5 i6 i7 i8 i30 i43 i45 i46 i47 i48 i49 i50 i51 i58 i59 i65 i68 i69 i72 i78 i80 i81 i82 i87 i92 i96 i100 i103 i104)), ((z 97), .inl (T 0, 12, .inl g97)), ((z 98), .inl (T 0, 12, .inl g98)), ((z 99), .inl (T 0, 12, .inl g99)), ((z 101), .inl (T 0, 8, .inl g101)), ((z 102), .inl (T 0, 8, .inl g102))]) [0, 1, 2, 3, 4, 5] (by decide +kernel) rfl) hS (lv_sub hl [0, 1, 2, 7, 8, 9] rfl)
                            · skip
                              have kc24700465 : x24700318.toInt ≠ (-1) := ne_ti rfl (by decide) c24700465
                              have hf169 : 0 ≤ x24700318.toInt ∧ x24700318.toInt ≤ 4095 := ⟨by omega, by omega⟩
                              have hfn := tn (x := x24700318) (by omega)
                              have hbf := BR.found (q := Int32.toNatClampNeg x24700318) hBR (by omega)
                              have hfl : Int32.toNatClampNeg x24700318 < 2 ^ (Int32.toNatClampNeg i96) := by omega
                              refine lv_iload hx hb dX11_choose_169 (lv_at hl 3 rfl) ?_
                              refine lv_iload hx hb dX11_choose_171 (lv_at hl 5 rfl) ?_
                              refine lv_icmp_gt (tgt := 226) hx hb dX11_choose_173 (by decide) (fun c24700467 => ?_) (fun c24700467 => ?_)
                              · skip
                                have kc24700467 : x24700317.toInt < x24700427.toInt := lt_ti rfl rfl c24700467
                                obtain ⟨x24700468, ex24700468⟩ : ∃ y : Int32, y = x24700316 + 1 := ⟨_, rfl⟩
                                have hx24700468 : x24700468.toInt = x24700316.toInt + 1 := ti_add ex24700468 rfl (by decide) (by omega) (by omega)
                                refine lv_iinc (v := x24700468) (lv' := [(5, .int x24700468), (9, .int x24700454), (8, .int x24700455), (7, .int x24700426), (6, .int x24700427), (4, .int x24700317), (3, .int x24700318), (0, .ref a), (1, .int p1), (2, .int p2)]) hx hb dX11_choose_226 hl (k := 4) rfl (by rw [ex24700468]; rfl) (by decide) rfl (fun ls hl => ?_)
                                refine lv_goto (tgt := 34) hx hb dX11_choose_229 (by decide) ?_
                                exact ih24700409 x24700468 x24700317 x24700318 _ _ ls ⟨by omega, by omega⟩ ⟨by omega, by omega⟩ ⟨by omega, by omega⟩ (BR.keeps (s := Int32.toNatClampNeg x24700316) (q := Int32.toNatClampNeg x24700318) hBR (by omega) hsn.symm (by omega) (bt_s hbf.2 hco (by omega))) (by omega) (by omega) (hP.sub (ws' := [(a, .inr (11, OX z i1 i2 i3 i4 i5 i6 i7 i8 i30 i43 i45 i46 i47 i48 i49 i50 i51 i58 i59 i65 i68 i69 i72 i78 i80 i81 i82 i87 i92 i96 i100 i103 i104)), ((z 97), .inl (T 0, 12, .inl g97)), ((z 98), .inl (T 0, 12, .inl g98)), ((z 99), .inl (T 0, 12, .inl g99)), ((z 101), .inl (T 0, 8, .inl g101)), ((z 102), .inl (T 0, 8, .inl g102))]) [0, 1, 2, 3, 4, 5] rfl) (hD.sub (ws' := [(a, .inr (11, OX z i1 i2 i3 i4 i5 i6 i7 i8 i30 i43 i45 i46 i47 i48 i49 i50 i51 i58 i59 i65 i68 i69 i72 i78 i80 i81 i82 i87 i92 i96 i100 i103 i104)), ((z 97), .inl (T 0, 12, .inl g97)), ((z 98), .inl (T 0, 12, .inl g98)), ((z 99), .inl (T 0, 12, .inl g99)), ((z 101), .inl (T 0, 8, .inl g101)), ((z 102), .inl (T 0, 8, .inl g102))]) [0, 1, 2, 3, 4, 5] (by decide +kernel) rfl) hS (lv_sub hl [0, 5, 6, 7, 8, 9] rfl)
                              · skip
                                have kc24700467 : x24700427.toInt ≤ x24700317.toInt := nlt_ti rfl rfl c24700467
                                refine lv_iload hx hb dX11_choose_176 (lv_at hl 3 rfl) ?_
                                refine lv_iload hx hb dX11_choose_178 (lv_at hl 5 rfl) ?_
                                refine lv_icmp_ne (tgt := 219) hx hb dX11_choose_180 (by decide) (fun c24700469 => ?_) (fun c24700469 => ?_)
                                · skip
                                  have kc24700469 : x24700427.toInt ≠ x24700317.toInt := ne_ti rfl rfl c24700469
                                  refine lv_iload hx hb dX11_choose_219 (lv_at hl 4 rfl) ?_
                                  refine lv_istore_n (lv' := [(3, .int x24700316), (9, .int x24700454), (8, .int x24700455), (7, .int x24700426), (6, .int x24700427), (5, .int x24700316), (4, .int x24700317), (0, .ref a), (1, .int p1), (2, .int p2)]) hx hb dX11_choose_221 rfl hl (by decide) rfl (fun ls hl => ?_)
                                  refine lv_iload hx hb dX11_choose_222 (lv_at hl 4 rfl) ?_
                                  refine lv_istore (lv' := [(4, .int x24700427), (3, .int x24700316), (9, .int x24700454), (8, .int x24700455), (7, .int x24700426), (6, .int x24700427), (5, .int x24700316), (0, .ref a), (1, .int p1), (2, .int p2)]) hx hb dX11_choose_224 hl (by decide) rfl (fun ls hl => ?_)
                                  obtain ⟨x24700470, ex24700470⟩ : ∃ y : Int32, y = x24700316 + 1 := ⟨_, rfl⟩
                                  have hx24700470 : x24700470.toInt = x24700316.toInt + 1 := ti_add ex24700470 rfl (by decide) (by omega) (by omega)
                                  refine lv_iinc (v := x24700470) (lv' := [(5, .int x24700470), (4, .int x24700427), (3, .int x24700316), (9, .int x24700454), (8, .int x24700455), (7, .int x24700426), (6, .int x24700427), (0, .ref a), (1, .int p1), (2, .int p2)]) hx hb dX11_choose_226 hl (k := 6) rfl (by rw [ex24700470]; rfl) (by decide) rfl (fun ls hl => ?_)
                                  refine lv_goto (tgt := 34) hx hb dX11_choose_229 (by decide) ?_
                                  exact ih24700409 x24700470 x24700427 x24700316 _ _ ls ⟨by omega, by omega⟩ ⟨by omega, by omega⟩ ⟨by omega, by omega⟩ (BR.takes (s := Int32.toNatClampNeg x24700316) (q := Int32.toNatClampNeg x24700318) hBR (by omega) hsn.symm (by omega) hva hco (bt_s hco hbf.2 (by omega))) (by omega) (by omega) (hP.sub (ws' := [(a, .inr (11, OX z i1 i2 i3 i4 i5 i6 i7 i8 i30 i43 i45 i46 i47 i48 i49 i50 i51 i58 i59 i65 i68 i69 i72 i78 i80 i81 i82 i87 i92 i96 i100 i103 i104)), ((z 97), .inl (T 0, 12, .inl g97)), ((z 98), .inl (T 0, 12, .inl g98)), ((z 99), .inl (T 0, 12, .inl g99)), ((z 101), .inl (T 0, 8, .inl g101)), ((z 102), .inl (T 0, 8, .inl g102))]) [0, 1, 2, 3, 4, 5] rfl) (hD.sub (ws' := [(a, .inr (11, OX z i1 i2 i3 i4 i5 i6 i7 i8 i30 i43 i45 i46 i47 i48 i49 i50 i51 i58 i59 i65 i68 i69 i72 i78 i80 i81 i82 i87 i92 i96 i100 i103 i104)), ((z 97), .inl (T 0, 12, .inl g97)), ((z 98), .inl (T 0, 12, .inl g98)), ((z 99), .inl (T 0, 12, .inl g99)), ((z 101), .inl (T 0, 8, .inl g101)), ((z 102), .inl (T 0, 8, .inl g102))]) [0, 1, 2, 3, 4, 5] (by decide +kernel) rfl) hS (lv_sub hl [0, 1, 2, 7, 8, 9] rfl)
                                · skip
                                  have kc24700469 : x24700427.toInt = x24700317.toInt := eq_ti rfl rfl c24700469
                                  refine lv_iload hx hb dX11_choose_183 (lv_at hl 4 rfl) ?_
                                  refine r_calli (wr := [(a, .inr (11, OX z i1 i2 i3 i4 i5 i6 i7 i8 i30 i43 i45 i46 i47 i48 i49 i50 i51 i58 i59 i65 i68 i69 i72 i78 i80 i81 i82 i87 i92 i96 i100 i103 i104)), ((z 97), .inl (T 0, 12, .inl g97)), ((z 98), .inl (T 0, 12, .inl g98)), ((z 99), .inl (T 0, 12, .inl g99)), ((z 101), .inl (T 0, 8, .inl g101)), ((z 102), .inl (T 0, 8, .inl g102))]) (r_runS2 (As := [.int x24700316]) (rest := []) (wc := []) C0 hE hStr hS (va_free (wc := []) hD hS hA [] rfl) (h_X11_bitsOf_24600016 l D T sq sv H.size x24700316 ⟨by omega, by omega⟩) mw_1227 mw_1228 mw_14 mw_1229 dn_1796 rfl rfl ⟨Nat.le_of_ble_eq_true rfl, Nat.le_of_ble_eq_true rfl⟩ (hP.sub (ws' := []) [] rfl) (hD.sub (ws' := []) [] (by decide +kernel) rfl) hl.1 rfl (Nat.le_of_ble_eq_true rfl) dX11_choose_185 ⟨Nat.le_of_ble_eq_true rfl, Nat.le_of_ble_eq_true rfl⟩) hP hD hS hA [] [0, 1, 2, 3, 4, 5] rfl rfl (by decide +kernel) (by decide +kernel) (fun x24700471 u H locs hq hP hD hS => ?_)
                                  obtain ⟨hg24700472, hx24700471⟩ := hq
                                  have hg24700472 : BOF x24700316 x24700471 := hg24700472
                                  have hx24700471 : 0 ≤ x24700471.toInt ∧ x24700471.toInt ≤ 12 := hx24700471
                                  have hP : va_P D vwCl [(a, .inr (11, OX z i1 i2 i3 i4 i5 i6 i7 i8 i30 i43 i45 i46 i47 i48 i49 i50 i51 i58 i59 i65 i68 i69 i72 i78 i80 i81 i82 i87 i92 i96 i100 i103 i104)), ((z 97), .inl (T 0, 12, .inl g97)), ((z 98), .inl (T 0, 12, .inl g98)), ((z 99), .inl (T 0, 12, .inl g99)), ((z 101), .inl (T 0, 8, .inl g101)), ((z 102), .inl (T 0, 8, .inl g102))] H := hP
                                  have hD : va_D A [(a, .inr (11, OX z i1 i2 i3 i4 i5 i6 i7 i8 i30 i43 i45 i46 i47 i48 i49 i50 i51 i58 i59 i65 i68 i69 i72 i78 i80 i81 i82 i87 i92 i96 i100 i103 i104)), ((z 97), .inl (T 0, 12, .inl g97)), ((z 98), .inl (T 0, 12, .inl g98)), ((z 99), .inl (T 0, 12, .inl g99)), ((z 101), .inl (T 0, 8, .inl g101)), ((z 102), .inl (T 0, 8, .inl g102))] := hD
                                  refine W.widen (k := 0) (n := 0) (Nat.le_refl _) (Nat.le_refl _) ?_
                                  refine lv_iload_n hx hb dX11_choose_188 rfl (lv_at hl 6 rfl) ?_
                                  refine r_calli (wr := [(a, .inr (11, OX z i1 i2 i3 i4 i5 i6 i7 i8 i30 i43 i45 i46 i47 i48 i49 i50 i51 i58 i59 i65 i68 i69 i72 i78 i80 i81 i82 i87 i92 i96 i100 i103 i104)), ((z 97), .inl (T 0, 12, .inl g97)), ((z 98), .inl (T 0, 12, .inl g98)), ((z 99), .inl (T 0, 12, .inl g99)), ((z 101), .inl (T 0, 8, .inl g101)), ((z 102), .inl (T 0, 8, .inl g102))]) (r_runS2 (As := [.int x24700318]) (rest := [.int x24700471]) (wc := []) C0 hE hStr hS (va_free (wc := []) hD hS hA [] rfl) (h_X11_bitsOf_24600016 l D T sq sv H.size x24700318 ⟨by omega, by omega⟩) mw_1227 mw_1228 mw_14 mw_1229 dn_1796 rfl rfl ⟨Nat.le_of_ble_eq_true rfl, Nat.le_of_ble_eq_true rfl⟩ (hP.sub (ws' := []) [] rfl) (hD.sub (ws' := []) [] (by decide +kernel) rfl) hl.1 rfl (Nat.le_of_ble_eq_true rfl) dX11_choose_189 ⟨Nat.le_of_ble_eq_true rfl, Nat.le_of_ble_eq_true rfl⟩) hP hD hS hA [] [0, 1, 2, 3, 4, 5] rfl rfl (by decide +kernel) (by decide +kernel) (fun x24700473 u H locs hq hP hD hS => ?_)
                                  obtain ⟨hg24700474, hx24700473⟩ := hq
                                  have hg24700474 : BOF x24700318 x24700473 := hg24700474
                                  have hx24700473 : 0 ≤ x24700473.toInt ∧ x24700473.toInt ≤ 12 := hx24700473
                                  have hP : va_P D vwCl [(a, .inr (11, OX z i1 i2 i3 i4 i5 i6 i7 i8 i30 i43 i45 i46 i47 i48 i49 i50 i51 i58 i59 i65 i68 i69 i72 i78 i80 i81 i82 i87 i92 i96 i100 i103 i104)), ((z 97), .inl (T 0, 12, .inl g97)), ((z 98), .inl (T 0, 12, .inl g98)), ((z 99), .inl (T 0, 12, .inl g99)), ((z 101), .inl (T 0, 8, .inl g101)), ((z 102), .inl (T 0, 8, .inl g102))] H := hP
                                  have hD : va_D A [(a, .inr (11, OX z i1 i2 i3 i4 i5 i6 i7 i8 i30 i43 i45 i46 i47 i48 i49 i50 i51 i58 i59 i65 i68 i69 i72 i78 i80 i81 i82 i87 i92 i96 i100 i103 i104)), ((z 97), .inl (T 0, 12, .inl g97)), ((z 98), .inl (T 0, 12, .inl g98)), ((z 99), .inl (T 0, 12, .inl g99)), ((z 101), .inl (T 0, 8, .inl g101)), ((z 102), .inl (T 0, 8, .inl g102))] := hD
                                  refine W.widen (k := 0) (n := 0) (Nat.le_refl _) (Nat.le_refl _) ?_
                                  have hb1 := bof_n hg24700472 hsl (by omega)
                                  have hb2 := bof_n hg24700474 hfl (by omega)
                                  refine lv_icmp_gt (tgt := 226) hx hb dX11_choose_192 (by decide) (fun c24700475 => ?_) (fun c24700475 => ?_)
                                  · skip
                                    have kc24700475 : x24700473.toInt < x24700471.toInt := lt_ti rfl rfl c24700475
                                    obtain ⟨x24700476, ex24700476⟩ : ∃ y : Int32, y = x24700316 + 1 := ⟨_, rfl⟩
                                    have hx24700476 : x24700476.toInt = x24700316.toInt + 1 := ti_add ex24700476 rfl (by decide) (by omega) (by omega)
                                    refine lv_iinc (v := x24700476) (lv' := [(5, .int x24700476), (9, .int x24700454), (8, .int x24700455), (7, .int x24700426), (6, .int x24700427), (4, .int x24700317), (3, .int x24700318), (0, .ref a), (1, .int p1), (2, .int p2)]) hx hb dX11_choose_226 hl (k := 4) rfl (by rw [ex24700476]; rfl) (by decide) rfl (fun ls hl => ?_)
                                    refine lv_goto (tgt := 34) hx hb dX11_choose_229 (by decide) ?_
                                    exact ih24700409 x24700476 x24700317 x24700318 _ _ ls ⟨by omega, by omega⟩ ⟨by omega, by omega⟩ ⟨by omega, by omega⟩ (BR.keeps (s := Int32.toNatClampNeg x24700316) (q := Int32.toNatClampNeg x24700318) hBR (by omega) hsn.symm (by omega) (bt_s hbf.2 hco (by omega))) (by omega) (by omega) (hP.sub (ws' := [(a, .inr (11, OX z i1 i2 i3 i4 i5 i6 i7 i8 i30 i43 i45 i46 i47 i48 i49 i50 i51 i58 i59 i65 i68 i69 i72 i78 i80 i81 i82 i87 i92 i96 i100 i103 i104)), ((z 97), .inl (T 0, 12, .inl g97)), ((z 98), .inl (T 0, 12, .inl g98)), ((z 99), .inl (T 0, 12, .inl g99)), ((z 101), .inl (T 0, 8, .inl g101)), ((z 102), .inl (T 0, 8, .inl g102))]) [0, 1, 2, 3, 4, 5] rfl) (hD.sub (ws' := [(a, .inr (11, OX z i1 i2 i3 i4 i5 i6 i7 i8 i30 i43 i45 i46 i47 i48 i49 i50 i51 i58 i59 i65 i68 i69 i72 i78 i80 i81 i82 i87 i92 i96 i100 i103 i104)), ((z 97), .inl (T 0, 12, .inl g97)), ((z 98), .inl (T 0, 12, .inl g98)), ((z 99), .inl (T 0, 12, .inl g99)), ((z 101), .inl (T 0, 8, .inl g101)), ((z 102), .inl (T 0, 8, .inl g102))]) [0, 1, 2, 3, 4, 5] (by decide +kernel) rfl) hS (lv_sub hl [0, 5, 6, 7, 8, 9] rfl)
                                  · skip
                                    have kc24700475 : x24700471.toInt ≤ x24700473.toInt := nlt_ti rfl rfl c24700475
                                    refine lv_iload hx hb dX11_choose_195 (lv_at hl 4 rfl) ?_
                                    refine r_calli (wr := [(a, .inr (11, OX z i1 i2 i3 i4 i5 i6 i7 i8 i30 i43 i45 i46 i47 i48 i49 i50 i51 i58 i59 i65 i68 i69 i72 i78 i80 i81 i82 i87 i92 i96 i100 i103 i104)), ((z 97), .inl (T 0, 12, .inl g97)), ((z 98), .inl (T 0, 12, .inl g98)), ((z 99), .inl (T 0, 12, .inl g99)), ((z 101), .inl (T 0, 8, .inl g101)), ((z 102), .inl (T 0, 8, .inl g102))]) (r_runS2 (As := [.int x24700316]) (rest := []) (wc := []) C0 hE hStr hS (va_free (wc := []) hD hS hA [] rfl) (h_X11_bitsOf_24600016 l D T sq sv H.size x24700316 ⟨by omega, by omega⟩) mw_1227 mw_1228 mw_14 mw_1229 dn_1796 rfl rfl ⟨Nat.le_of_ble_eq_true rfl, Nat.le_of_ble_eq_true rfl⟩ (hP.sub (ws' := []) [] rfl) (hD.sub (ws' := []) [] (by decide +kernel) rfl) hl.1 rfl (Nat.le_of_ble_eq_true rfl) dX11_choose_197 ⟨Nat.le_of_ble_eq_true rfl, Nat.le_of_ble_eq_true rfl⟩) hP hD hS hA [] [0, 1, 2, 3, 4, 5] rfl rfl (by decide +kernel) (by decide +kernel) (fun x24700477 u H locs hq hP hD hS => ?_)
                                    obtain ⟨hg24700478, hx24700477⟩ := hq
                                    have hg24700478 : BOF x24700316 x24700477 := hg24700478
                                    have hx24700477 : 0 ≤ x24700477.toInt ∧ x24700477.toInt ≤ 12 := hx24700477
                                    have hP : va_P D vwCl [(a, .inr (11, OX z i1 i2 i3 i4 i5 i6 i7 i8 i30 i43 i45 i46 i47 i48 i49 i50 i51 i58 i59 i65 i68 i69 i72 i78 i80 i81 i82 i87 i92 i96 i100 i103 i104)), ((z 97), .inl (T 0, 12, .inl g97)), ((z 98), .inl (T 0, 12, .inl g98)), ((z 99), .inl (T 0, 12, .inl g99)), ((z 101), .inl (T 0, 8, .inl g101)), ((z 102), .inl (T 0, 8, .inl g102))] H := hP
                                    have hD : va_D A [(a, .inr (11, OX z i1 i2 i3 i4 i5 i6 i7 i8 i30 i43 i45 i46 i47 i48 i49 i50 i51 i58 i59 i65 i68 i69 i72 i78 i80 i81 i82 i87 i92 i96 i100 i103 i104)), ((z 97), .inl (T 0, 12, .inl g97)), ((z 98), .inl (T 0, 12, .inl g98)), ((z 99), .inl (T 0, 12, .inl g99)), ((z 101), .inl (T 0, 8, .inl g101)), ((z 102), .inl (T 0, 8, .inl g102))] := hD
                                    refine W.widen (k := 0) (n := 0) (Nat.le_refl _) (Nat.le_refl _) ?_
                                    refine lv_iload_n hx hb dX11_choose_200 rfl (lv_at hl 6 rfl) ?_
                                    refine r_calli (wr := [(a, .inr (11, OX z i1 i2 i3 i4 i5 i6 i7 i8 i30 i43 i45 i46 i47 i48 i49 i50 i51 i58 i59 i65 i68 i69 i72 i78 i80 i81 i82 i87 i92 i96 i100 i103 i104)), ((z 97), .inl (T 0, 12, .inl g97)), ((z 98), .inl (T 0, 12, .inl g98)), ((z 99), .inl (T 0, 12, .inl g99)), ((z 101), .inl (T 0, 8, .inl g101)), ((z 102), .inl (T 0, 8, .inl g102))]) (r_runS2 (As := [.int x24700318]) (rest := [.int x24700477]) (wc := []) C0 hE hStr hS (va_free (wc := []) hD hS hA [] rfl) (h_X11_bitsOf_24600016 l D T sq sv H.size x24700318 ⟨by omega, by omega⟩) mw_1227 mw_1228 mw_14 mw_1229 dn_1796 rfl rfl ⟨Nat.le_of_ble_eq_true rfl, Nat.le_of_ble_eq_true rfl⟩ (hP.sub (ws' := []) [] rfl) (hD.sub (ws' := []) [] (by decide +kernel) rfl) hl.1 rfl (Nat.le_of_ble_eq_true rfl) dX11_choose_201 ⟨Nat.le_of_ble_eq_true rfl, Nat.le_of_ble_eq_true rfl⟩) hP hD hS hA [] [0, 1, 2, 3, 4, 5] rfl rfl (by decide +kernel) (by decide +kernel) (fun x24700479 u H locs hq hP hD hS => ?_)
                                    obtain ⟨hg24700480, hx24700479⟩ := hq
                                    have hg24700480 : BOF x24700318 x24700479 := hg24700480
                                    have hx24700479 : 0 ≤ x24700479.toInt ∧ x24700479.toInt ≤ 12 := hx24700479
                                    have hP : va_P D vwCl [(a, .inr (11, OX z i1 i2 i3 i4 i5 i6 i7 i8 i30 i43 i45 i46 i47 i48 i49 i50 i51 i58 i59 i65 i68 i69 i72 i78 i80 i81 i82 i87 i92 i96 i100 i103 i104)), ((z 97), .inl (T 0, 12, .inl g97)), ((z 98), .inl (T 0, 12, .inl g98)), ((z 99), .inl (T 0, 12, .inl g99)), ((z 101), .inl (T 0, 8, .inl g101)), ((z 102), .inl (T 0, 8, .inl g102))] H := hP
                                    have hD : va_D A [(a, .inr (11, OX z i1 i2 i3 i4 i5 i6 i7 i8 i30 i43 i45 i46 i47 i48 i49 i50 i51 i58 i59 i65 i68 i69 i72 i78 i80 i81 i82 i87 i92 i96 i100 i103 i104)), ((z 97), .inl (T 0, 12, .inl g97)), ((z 98), .inl (T 0, 12, .inl g98)), ((z 99), .inl (T 0, 12, .inl g99)), ((z 101), .inl (T 0, 8, .inl g101)), ((z 102), .inl (T 0, 8, .inl g102))] := hD
                                    refine W.widen (k := 0) (n := 0) (Nat.le_refl _) (Nat.le_refl _) ?_
                                    have hb3 := bof_n hg24700478 hsl (by omega)
                                    have hb4 := bof_n hg24700480 hfl (by omega)
                                    refine lv_icmp_ne (tgt := 219) hx hb dX11_choose_204 (by decide) (fun c24700481 => ?_) (fun c24700481 => ?_)
                                    · skip
                                      have kc24700481 : x24700477.toInt ≠ x24700479.toInt := ne_ti rfl rfl c24700481
                                      refine lv_iload hx hb dX11_choose_219 (lv_at hl 4 rfl) ?_
                                      refine lv_istore_n (lv' := [(3, .int x24700316), (9, .int x24700454), (8, .int x24700455), (7, .int x24700426), (6, .int x24700427), (5, .int x24700316), (4, .int x24700317), (0, .ref a), (1, .int p1), (2, .int p2)]) hx hb dX11_choose_221 rfl hl (by decide) rfl (fun ls hl => ?_)
                                      refine lv_iload hx hb dX11_choose_222 (lv_at hl 4 rfl) ?_
                                      refine lv_istore (lv' := [(4, .int x24700427), (3, .int x24700316), (9, .int x24700454), (8, .int x24700455), (7, .int x24700426), (6, .int x24700427), (5, .int x24700316), (0, .ref a), (1, .int p1), (2, .int p2)]) hx hb dX11_choose_224 hl (by decide) rfl (fun ls hl => ?_)
                                      obtain ⟨x24700482, ex24700482⟩ : ∃ y : Int32, y = x24700316 + 1 := ⟨_, rfl⟩
                                      have hx24700482 : x24700482.toInt = x24700316.toInt + 1 := ti_add ex24700482 rfl (by decide) (by omega) (by omega)
                                      refine lv_iinc (v := x24700482) (lv' := [(5, .int x24700482), (4, .int x24700427), (3, .int x24700316), (9, .int x24700454), (8, .int x24700455), (7, .int x24700426), (6, .int x24700427), (0, .ref a), (1, .int p1), (2, .int p2)]) hx hb dX11_choose_226 hl (k := 6) rfl (by rw [ex24700482]; rfl) (by decide) rfl (fun ls hl => ?_)
                                      refine lv_goto (tgt := 34) hx hb dX11_choose_229 (by decide) ?_
                                      exact ih24700409 x24700482 x24700427 x24700316 _ _ ls ⟨by omega, by omega⟩ ⟨by omega, by omega⟩ ⟨by omega, by omega⟩ (BR.takes (s := Int32.toNatClampNeg x24700316) (q := Int32.toNatClampNeg x24700318) hBR (by omega) hsn.symm (by omega) hva hco (bt_s hco hbf.2 (by omega))) (by omega) (by omega) (hP.sub (ws' := [(a, .inr (11, OX z i1 i2 i3 i4 i5 i6 i7 i8 i30 i43 i45 i46 i47 i48 i49 i50 i51 i58 i59 i65 i68 i69 i72 i78 i80 i81 i82 i87 i92 i96 i100 i103 i104)), ((z 97), .inl (T 0, 12, .inl g97)), ((z 98), .inl (T 0, 12, .inl g98)), ((z 99), .inl (T 0, 12, .inl g99)), ((z 101), .inl (T 0, 8, .inl g101)), ((z 102), .inl (T 0, 8, .inl g102))]) [0, 1, 2, 3, 4, 5] rfl) (hD.sub (ws' := [(a, .inr (11, OX z i1 i2 i3 i4 i5 i6 i7 i8 i30 i43 i45 i46 i47 i48 i49 i50 i51 i58 i59 i65 i68 i69 i72 i78 i80 i81 i82 i87 i92 i96 i100 i103 i104)), ((z 97), .inl (T 0, 12, .inl g97)), ((z 98), .inl (T 0, 12, .inl g98)), ((z 99), .inl (T 0, 12, .inl g99)), ((z 101), .inl (T 0, 8, .inl g101)), ((z 102), .inl (T 0, 8, .inl g102))]) [0, 1, 2, 3, 4, 5] (by decide +kernel) rfl) hS (lv_sub hl [0, 1, 2, 7, 8, 9] rfl)
                                    · skip
                                      have kc24700481 : x24700477.toInt = x24700479.toInt := eq_ti rfl rfl c24700481
                                      refine lv_iload hx hb dX11_choose_207 (lv_at hl 4 rfl) ?_
                                      refine lv_iload_n hx hb dX11_choose_209 rfl (lv_at hl 6 rfl) ?_
                                      refine r_calli (wr := [(a, .inr (11, OX z i1 i2 i3 i4 i5 i6 i7 i8 i30 i43 i45 i46 i47 i48 i49 i50 i51 i58 i59 i65 i68 i69 i72 i78 i80 i81 i82 i87 i92 i96 i100 i103 i104)), ((z 97), .inl (T 0, 12, .inl g97)), ((z 98), .inl (T 0, 12, .inl g98)), ((z 99), .inl (T 0, 12, .inl g99)), ((z 101), .inl (T 0, 8, .inl g101)), ((z 102), .inl (T 0, 8, .inl g102))]) (r_runS2 (As := [.int x24700316, .int x24700318]) (rest := []) (wc := []) C0 hE hStr hS (va_free (wc := []) hD hS hA [] rfl) (h_X11_isFirst_24500007 l D T sq sv H.size x24700316 x24700318 ⟨by omega, by omega⟩ ⟨by omega, by omega⟩) mw_1230 mw_1231 mw_14 mw_1232 dn_1795 rfl rfl ⟨Nat.le_of_ble_eq_true rfl, Nat.le_of_ble_eq_true rfl⟩ (hP.sub (ws' := []) [] rfl) (hD.sub (ws' := []) [] (by decide +kernel) rfl) hl.1 rfl (Nat.le_of_ble_eq_true rfl) dX11_choose_210 ⟨Nat.le_of_ble_eq_true rfl, Nat.le_of_ble_eq_true rfl⟩) hP hD hS hA [] [0, 1, 2, 3, 4, 5] rfl rfl (by decide +kernel) (by decide +kernel) (fun x24700483 u H locs hq hP hD hS => ?_)
                                      obtain ⟨hg24700484, hx24700483⟩ := hq
                                      have hg24700484 : ISF x24700316 x24700318 x24700483 := hg24700484
                                      have hx24700483 : 0 ≤ x24700483.toInt ∧ x24700483.toInt ≤ 1 := hx24700483
                                      have hP : va_P D vwCl [(a, .inr (11, OX z i1 i2 i3 i4 i5 i6 i7 i8 i30 i43 i45 i46 i47 i48 i49 i50 i51 i58 i59 i65 i68 i69 i72 i78 i80 i81 i82 i87 i92 i96 i100 i103 i104)), ((z 97), .inl (T 0, 12, .inl g97)), ((z 98), .inl (T 0, 12, .inl g98)), ((z 99), .inl (T 0, 12, .inl g99)), ((z 101), .inl (T 0, 8, .inl g101)), ((z 102), .inl (T 0, 8, .inl g102))] H := hP
                                      have hD : va_D A [(a, .inr (11, OX z i1 i2 i3 i4 i5 i6 i7 i8 i30 i43 i45 i46 i47 i48 i49 i50 i51 i58 i59 i65 i68 i69 i72 i78 i80 i81 i82 i87 i92 i96 i100 i103 i104)), ((z 97), .inl (T 0, 12, .inl g97)), ((z 98), .inl (T 0, 12, .inl g98)), ((z 99), .inl (T 0, 12, .inl g99)), ((z 101), .inl (T 0, 8, .inl g101)), ((z 102), .inl (T 0, 8, .inl g102))] := hD
                                      refine W.widen (k := 0) (n := 0) (Nat.le_refl _) (Nat.le_refl _) ?_
                                      refine lv_if_ne (tgt := 219) hx hb dX11_choose_213 (by decide) (fun c24700485 => ?_) (fun c24700485 => ?_)
                                      · skip
                                        have kc24700485 : x24700483.toInt ≠ 0 := ne_ti rfl (by decide) c24700485
                                        have nzx24700483 : ¬ x24700483 = 0 := c24700485
                                        refine lv_iload hx hb dX11_choose_219 (lv_at hl 4 rfl) ?_
                                        refine lv_istore_n (lv' := [(3, .int x24700316), (9, .int x24700454), (8, .int x24700455), (7, .int x24700426), (6, .int x24700427), (5, .int x24700316), (4, .int x24700317), (0, .ref a), (1, .int p1), (2, .int p2)]) hx hb dX11_choose_221 rfl hl (by decide) rfl (fun ls hl => ?_)
                                        refine lv_iload hx hb dX11_choose_222 (lv_at hl 4 rfl) ?_
                                        refine lv_istore (lv' := [(4, .int x24700427), (3, .int x24700316), (9, .int x24700454), (8, .int x24700455), (7, .int x24700426), (6, .int x24700427), (5, .int x24700316), (0, .ref a), (1, .int p1), (2, .int p2)]) hx hb dX11_choose_224 hl (by decide) rfl (fun ls hl => ?_)
                                        obtain ⟨x24700486, ex24700486⟩ : ∃ y : Int32, y = x24700316 + 1 := ⟨_, rfl⟩
                                        have hx24700486 : x24700486.toInt = x24700316.toInt + 1 := ti_add ex24700486 rfl (by decide) (by omega) (by omega)
                                        refine lv_iinc (v := x24700486) (lv' := [(5, .int x24700486), (4, .int x24700427), (3, .int x24700316), (9, .int x24700454), (8, .int x24700455), (7, .int x24700426), (6, .int x24700427), (0, .ref a), (1, .int p1), (2, .int p2)]) hx hb dX11_choose_226 hl (k := 6) rfl (by rw [ex24700486]; rfl) (by decide) rfl (fun ls hl => ?_)
                                        refine lv_goto (tgt := 34) hx hb dX11_choose_229 (by decide) ?_
                                        exact ih24700409 x24700486 x24700427 x24700316 _ _ ls ⟨by omega, by omega⟩ ⟨by omega, by omega⟩ ⟨by omega, by omega⟩ (BR.takes (s := Int32.toNatClampNeg x24700316) (q := Int32.toNatClampNeg x24700318) hBR (by omega) hsn.symm (by omega) hva hco (bt_f hco hbf.2 (by omega) (by omega) (isf_yes hg24700484 (by omega)))) (by omega) (by omega) (hP.sub (ws' := [(a, .inr (11, OX z i1 i2 i3 i4 i5 i6 i7 i8 i30 i43 i45 i46 i47 i48 i49 i50 i51 i58 i59 i65 i68 i69 i72 i78 i80 i81 i82 i87 i92 i96 i100 i103 i104)), ((z 97), .inl (T 0, 12, .inl g97)), ((z 98), .inl (T 0, 12, .inl g98)), ((z 99), .inl (T 0, 12, .inl g99)), ((z 101), .inl (T 0, 8, .inl g101)), ((z 102), .inl (T 0, 8, .inl g102))]) [0, 1, 2, 3, 4, 5] rfl) (hD.sub (ws' := [(a, .inr (11, OX z i1 i2 i3 i4 i5 i6 i7 i8 i30 i43 i45 i46 i47 i48 i49 i50 i51 i58 i59 i65 i68 i69 i72 i78 i80 i81 i82 i87 i92 i96 i100 i103 i104)), ((z 97), .inl (T 0, 12, .inl g97)), ((z 98), .inl (T 0, 12, .inl g98)), ((z 99), .inl (T 0, 12, .inl g99)), ((z 101), .inl (T 0, 8, .inl g101)), ((z 102), .inl (T 0, 8, .inl g102))]) [0, 1, 2, 3, 4, 5] (by decide +kernel) rfl) hS (lv_sub hl [0, 1, 2, 7, 8, 9] rfl)
                                      · skip
                                        have kc24700485 : x24700483.toInt = 0 := eq_ti rfl (by decide) c24700485
                                        refine lv_goto (tgt := 226) hx hb dX11_choose_216 (by decide) ?_
                                        obtain ⟨x24700487, ex24700487⟩ : ∃ y : Int32, y = x24700316 + 1 := ⟨_, rfl⟩
                                        have hx24700487 : x24700487.toInt = x24700316.toInt + 1 := ti_add ex24700487 rfl (by decide) (by omega) (by omega)
                                        refine lv_iinc (v := x24700487) (lv' := [(5, .int x24700487), (9, .int x24700454), (8, .int x24700455), (7, .int x24700426), (6, .int x24700427), (4, .int x24700317), (3, .int x24700318), (0, .ref a), (1, .int p1), (2, .int p2)]) hx hb dX11_choose_226 hl (k := 4) rfl (by rw [ex24700487]; rfl) (by decide) rfl (fun ls hl => ?_)
                                        refine lv_goto (tgt := 34) hx hb dX11_choose_229 (by decide) ?_
                                        exact ih24700409 x24700487 x24700317 x24700318 _ _ ls ⟨by omega, by omega⟩ ⟨by omega, by omega⟩ ⟨by omega, by omega⟩ (BR.keeps (s := Int32.toNatClampNeg x24700316) (q := Int32.toNatClampNeg x24700318) hBR (by omega) hsn.symm (by omega) (bt_f hbf.2 hco (by omega) (by omega) (isf_no hg24700484 (by omega) (by omega)))) (by omega) (by omega) (hP.sub (ws' := [(a, .inr (11, OX z i1 i2 i3 i4 i5 i6 i7 i8 i30 i43 i45 i46 i47 i48 i49 i50 i51 i58 i59 i65 i68 i69 i72 i78 i80 i81 i82 i87 i92 i96 i100 i103 i104)), ((z 97), .inl (T 0, 12, .inl g97)), ((z 98), .inl (T 0, 12, .inl g98)), ((z 99), .inl (T 0, 12, .inl g99)), ((z 101), .inl (T 0, 8, .inl g101)), ((z 102), .inl (T 0, 8, .inl g102))]) [0, 1, 2, 3, 4, 5] rfl) (hD.sub (ws' := [(a, .inr (11, OX z i1 i2 i3 i4 i5 i6 i7 i8 i30 i43 i45 i46 i47 i48 i49 i50 i51 i58 i59 i65 i68 i69 i72 i78 i80 i81 i82 i87 i92 i96 i100 i103 i104)), ((z 97), .inl (T 0, 12, .inl g97)), ((z 98), .inl (T 0, 12, .inl g98)), ((z 99), .inl (T 0, 12, .inl g99)), ((z 101), .inl (T 0, 8, .inl g101)), ((z 102), .inl (T 0, 8, .inl g102))]) [0, 1, 2, 3, 4, 5] (by decide +kernel) rfl) hS (lv_sub hl [0, 5, 6, 7, 8, 9] rfl)
                          · skip
                            have kc24700464 : x24700455.toInt = 0 := eq_ti rfl (by decide) c24700464
                            have hnv := his_nv hHI (by omega)
                            refine lv_goto (tgt := 226) hx hb dX11_choose_161 (by decide) ?_
                            obtain ⟨x24700488, ex24700488⟩ : ∃ y : Int32, y = x24700316 + 1 := ⟨_, rfl⟩
                            have hx24700488 : x24700488.toInt = x24700316.toInt + 1 := ti_add ex24700488 rfl (by decide) (by omega) (by omega)
                            refine lv_iinc (v := x24700488) (lv' := [(5, .int x24700488), (9, .int x24700454), (8, .int x24700455), (7, .int x24700426), (6, .int x24700427), (4, .int x24700317), (3, .int x24700318), (0, .ref a), (1, .int p1), (2, .int p2)]) hx hb dX11_choose_226 hl (k := 4) rfl (by rw [ex24700488]; rfl) (by decide) rfl (fun ls hl => ?_)
                            refine lv_goto (tgt := 34) hx hb dX11_choose_229 (by decide) ?_
                            exact ih24700409 x24700488 x24700317 x24700318 _ _ ls ⟨by omega, by omega⟩ ⟨by omega, by omega⟩ ⟨by omega, by omega⟩ (BR.skip (s := Int32.toNatClampNeg x24700316) hBR hsn.symm (by omega) hnv) (by omega) (by omega) (hP.sub (ws' := [(a, .inr (11, OX z i1 i2 i3 i4 i5 i6 i7 i8 i30 i43 i45 i46 i47 i48 i49 i50 i51 i58 i59 i65 i68 i69 i72 i78 i80 i81 i82 i87 i92 i96 i100 i103 i104)), ((z 97), .inl (T 0, 12, .inl g97)), ((z 98), .inl (T 0, 12, .inl g98)), ((z 99), .inl (T 0, 12, .inl g99)), ((z 101), .inl (T 0, 8, .inl g101)), ((z 102), .inl (T 0, 8, .inl g102))]) [0, 1, 2, 3, 4, 5] rfl) (hD.sub (ws' := [(a, .inr (11, OX z i1 i2 i3 i4 i5 i6 i7 i8 i30 i43 i45 i46 i47 i48 i49 i50 i51 i58 i59 i65 i68 i69 i72 i78 i80 i81 i82 i87 i92 i96 i100 i103 i104)), ((z 97), .inl (T 0, 12, .inl g97)), ((z 98), .inl (T 0, 12, .inl g98)), ((z 99), .inl (T 0, 12, .inl g99)), ((z 101), .inl (T 0, 8, .inl g101)), ((z 102), .inl (T 0, 8, .inl g102))]) [0, 1, 2, 3, 4, 5] (by decide +kernel) rfl) hS (lv_sub hl [0, 5, 6, 7, 8, 9] rfl)
                        · skip
                          have kc24700463 : x24700454.toInt < i100.toInt := nle_ti rfl rfl c24700463
                          refine lv_iload hx hb dX11_choose_134 (lv_at hl 1 rfl) ?_
                          refine lv_if_eq (tgt := 156) hx hb dX11_choose_136 (by decide) (fun c24700489 => ?_) (fun c24700489 => ?_)
                          · skip
                            have kc24700489 : x24700455.toInt = 0 := eq_ti rfl (by decide) c24700489
                            refine lv_iload hx hb dX11_choose_156 (lv_at hl 1 rfl) ?_
                            refine lv_if_ne (tgt := 164) hx hb dX11_choose_158 (by decide) (fun hc => by have hf : x24700455.toInt ≠ 0 := ne_ti rfl (by decide) hc; omega) (fun c24700490 => ?_)
                            have kc24700490 : x24700455.toInt = 0 := eq_ti rfl (by decide) c24700490
                            have hnv := his_nv hHI (by omega)
                            refine lv_goto (tgt := 226) hx hb dX11_choose_161 (by decide) ?_
                            obtain ⟨x24700491, ex24700491⟩ : ∃ y : Int32, y = x24700316 + 1 := ⟨_, rfl⟩
                            have hx24700491 : x24700491.toInt = x24700316.toInt + 1 := ti_add ex24700491 rfl (by decide) (by omega) (by omega)
                            refine lv_iinc (v := x24700491) (lv' := [(5, .int x24700491), (9, .int x24700454), (8, .int x24700455), (7, .int x24700426), (6, .int x24700427), (4, .int x24700317), (3, .int x24700318), (0, .ref a), (1, .int p1), (2, .int p2)]) hx hb dX11_choose_226 hl (k := 4) rfl (by rw [ex24700491]; rfl) (by decide) rfl (fun ls hl => ?_)
                            refine lv_goto (tgt := 34) hx hb dX11_choose_229 (by decide) ?_
                            exact ih24700409 x24700491 x24700317 x24700318 _ _ ls ⟨by omega, by omega⟩ ⟨by omega, by omega⟩ ⟨by omega, by omega⟩ (BR.skip (s := Int32.toNatClampNeg x24700316) hBR hsn.symm (by omega) hnv) (by omega) (by omega) (hP.sub (ws' := [(a, .inr (11, OX z i1 i2 i3 i4 i5 i6 i7 i8 i30 i43 i45 i46 i47 i48 i49 i50 i51 i58 i59 i65 i68 i69 i72 i78 i80 i81 i82 i87 i92 i96 i100 i103 i104)), ((z 97), .inl (T 0, 12, .inl g97)), ((z 98), .inl (T 0, 12, .inl g98)), ((z 99), .inl (T 0, 12, .inl g99)), ((z 101), .inl (T 0, 8, .inl g101)), ((z 102), .inl (T 0, 8, .inl g102))]) [0, 1, 2, 3, 4, 5] rfl) (hD.sub (ws' := [(a, .inr (11, OX z i1 i2 i3 i4 i5 i6 i7 i8 i30 i43 i45 i46 i47 i48 i49 i50 i51 i58 i59 i65 i68 i69 i72 i78 i80 i81 i82 i87 i92 i96 i100 i103 i104)), ((z 97), .inl (T 0, 12, .inl g97)), ((z 98), .inl (T 0, 12, .inl g98)), ((z 99), .inl (T 0, 12, .inl g99)), ((z 101), .inl (T 0, 8, .inl g101)), ((z 102), .inl (T 0, 8, .inl g102))]) [0, 1, 2, 3, 4, 5] (by decide +kernel) rfl) hS (lv_sub hl [0, 5, 6, 7, 8, 9] rfl)
                          · skip
                            have kc24700489 : x24700455.toInt ≠ 0 := ne_ti rfl (by decide) c24700489
                            have nzx24700455 : ¬ x24700455 = 0 := c24700489
                            refine lv_aload_n hx hb dX11_choose_139 rfl (lv_at hl 7 rfl) ?_
                            refine lv_iload hx hb dX11_choose_140 (lv_at hl 4 rfl) ?_
                            refine lv_iload hx hb dX11_choose_142 (lv_at hl 0 rfl) ?_
                            refine lv_iload_n hx hb dX11_choose_144 rfl (lv_at hl 8 rfl) ?_
                            refine r_calli (wr := [((z 99), .inl (T 0, 12, .inl g99))]) (r_runV2 (As := [.int x24700316, .int x24700454, .int p1]) (rest := []) (wc := [(a, .inr (11, OX z i1 i2 i3 i4 i5 i6 i7 i8 i30 i43 i45 i46 i47 i48 i49 i50 i51 i58 i59 i65 i68 i69 i72 i78 i80 i81 i82 i87 i92 i96 i100 i103 i104)), ((z 97), .inl (T 0, 12, .inl g97)), ((z 98), .inl (T 0, 12, .inl g98)), ((z 101), .inl (T 0, 8, .inl g101)), ((z 102), .inl (T 0, 8, .inl g102))]) (ci := 11) C0 hE hStr hS (va_free (wc := [(a, .inr (11, OX z i1 i2 i3 i4 i5 i6 i7 i8 i30 i43 i45 i46 i47 i48 i49 i50 i51 i58 i59 i65 i68 i69 i72 i78 i80 i81 i82 i87 i92 i96 i100 i103 i104)), ((z 97), .inl (T 0, 12, .inl g97)), ((z 98), .inl (T 0, 12, .inl g98)), ((z 101), .inl (T 0, 8, .inl g101)), ((z 102), .inl (T 0, 8, .inl g102))]) hD hS hA [0, 1, 2, 4, 5] rfl) (h_X11_holdsForce_24400072 l D T sq sv H.size a z i1 i2 i3 i4 i5 i6 i7 i8 i30 i43 i45 i46 i47 i48 i49 i50 i51 i58 i59 i65 i68 i69 i72 i78 i80 i81 i82 i87 i92 i96 i100 i103 i104 x24700316 x24700454 p1 g97 g98 g101 g102 ⟨by omega, by omega⟩ ⟨by omega, by omega⟩ ⟨by omega, by omega⟩ ⟨by omega, by omega⟩ hbg97 hbg98 hbg101 hbg102) mw_1224 mw_1225 mw_1349 mw_14 mw_1226 dn_1794 rfl rfl ⟨Nat.le_of_ble_eq_true rfl, Nat.le_of_ble_eq_true rfl⟩ (hP.sub (ws' := [(a, .inr (11, OX z i1 i2 i3 i4 i5 i6 i7 i8 i30 i43 i45 i46 i47 i48 i49 i50 i51 i58 i59 i65 i68 i69 i72 i78 i80 i81 i82 i87 i92 i96 i100 i103 i104)), ((z 97), .inl (T 0, 12, .inl g97)), ((z 98), .inl (T 0, 12, .inl g98)), ((z 101), .inl (T 0, 8, .inl g101)), ((z 102), .inl (T 0, 8, .inl g102))]) [0, 1, 2, 4, 5] rfl) (hD.sub (ws' := [(a, .inr (11, OX z i1 i2 i3 i4 i5 i6 i7 i8 i30 i43 i45 i46 i47 i48 i49 i50 i51 i58 i59 i65 i68 i69 i72 i78 i80 i81 i82 i87 i92 i96 i100 i103 i104)), ((z 97), .inl (T 0, 12, .inl g97)), ((z 98), .inl (T 0, 12, .inl g98)), ((z 101), .inl (T 0, 8, .inl g101)), ((z 102), .inl (T 0, 8, .inl g102))]) [0, 1, 2, 4, 5] (by decide +kernel) rfl) rfl rfl rfl hl.1 rfl (Nat.le_of_ble_eq_true rfl) dX11_choose_145 ⟨Nat.le_of_ble_eq_true rfl, Nat.le_of_ble_eq_true rfl⟩) hP hD hS hA [0, 1, 2, 4, 5] [3] rfl rfl (by decide +kernel) (by decide +kernel) (fun x24700492 u H locs hq hP hD hS => ?_)
                            obtain ⟨hg24700493, hx24700492⟩ := hq
                            have hg24700493 : RHO (Int32.toNatClampNeg i96) g97 g98 g101 g102 p1.toInt x24700316 x24700454 x24700492 := hg24700493
                            have hx24700492 : 0 ≤ x24700492.toInt ∧ x24700492.toInt ≤ 1 := hx24700492
                            have hP : va_P D vwCl [((z 99), .inl (T 0, 12, .inl g99)), (a, .inr (11, OX z i1 i2 i3 i4 i5 i6 i7 i8 i30 i43 i45 i46 i47 i48 i49 i50 i51 i58 i59 i65 i68 i69 i72 i78 i80 i81 i82 i87 i92 i96 i100 i103 i104)), ((z 97), .inl (T 0, 12, .inl g97)), ((z 98), .inl (T 0, 12, .inl g98)), ((z 101), .inl (T 0, 8, .inl g101)), ((z 102), .inl (T 0, 8, .inl g102))] H := hP
                            have hD : va_D A [((z 99), .inl (T 0, 12, .inl g99)), (a, .inr (11, OX z i1 i2 i3 i4 i5 i6 i7 i8 i30 i43 i45 i46 i47 i48 i49 i50 i51 i58 i59 i65 i68 i69 i72 i78 i80 i81 i82 i87 i92 i96 i100 i103 i104)), ((z 97), .inl (T 0, 12, .inl g97)), ((z 98), .inl (T 0, 12, .inl g98)), ((z 101), .inl (T 0, 8, .inl g101)), ((z 102), .inl (T 0, 8, .inl g102))] := hD
                            refine W.widen (k := 0) (n := 0) (Nat.le_refl _) (Nat.le_refl _) ?_
                            refine lv_istore (lv' := [(8, .int x24700492), (9, .int x24700454), (7, .int x24700426), (6, .int x24700427), (5, .int x24700316), (4, .int x24700317), (3, .int x24700318), (0, .ref a), (1, .int p1), (2, .int p2)]) hx hb dX11_choose_148 hl (by decide) rfl (fun ls hl => ?_)
                            obtain ⟨x24700494, ex24700494⟩ : ∃ y : Int32, y = x24700454 + 1 := ⟨_, rfl⟩
                            have hx24700494 : x24700494.toInt = x24700454.toInt + 1 := ti_add ex24700494 rfl (by decide) (by omega) (by omega)
                            refine lv_iinc (v := x24700494) (lv' := [(9, .int x24700494), (8, .int x24700492), (7, .int x24700426), (6, .int x24700427), (5, .int x24700316), (4, .int x24700317), (3, .int x24700318), (0, .ref a), (1, .int p1), (2, .int p2)]) hx hb dX11_choose_150 hl (k := 1) rfl (by rw [ex24700494]; rfl) (by decide) rfl (fun ls hl => ?_)
                            refine lv_goto (tgt := 125) hx hb dX11_choose_153 (by decide) ?_
                            exact ih24700462 x24700494 x24700492 _ _ ls ⟨by omega, by omega⟩ ⟨by omega, by omega⟩ (his_step hHI (by omega) hg24700493 (by omega) (by omega) (by have ht100 := tn (x := i100) (by omega); omega)) (by omega) (hP.sub (ws' := [(a, .inr (11, OX z i1 i2 i3 i4 i5 i6 i7 i8 i30 i43 i45 i46 i47 i48 i49 i50 i51 i58 i59 i65 i68 i69 i72 i78 i80 i81 i82 i87 i92 i96 i100 i103 i104)), ((z 97), .inl (T 0, 12, .inl g97)), ((z 98), .inl (T 0, 12, .inl g98)), ((z 99), .inl (T 0, 12, .inl g99)), ((z 101), .inl (T 0, 8, .inl g101)), ((z 102), .inl (T 0, 8, .inl g102))]) [1, 2, 3, 0, 4, 5] rfl) (hD.sub (ws' := [(a, .inr (11, OX z i1 i2 i3 i4 i5 i6 i7 i8 i30 i43 i45 i46 i47 i48 i49 i50 i51 i58 i59 i65 i68 i69 i72 i78 i80 i81 i82 i87 i92 i96 i100 i103 i104)), ((z 97), .inl (T 0, 12, .inl g97)), ((z 98), .inl (T 0, 12, .inl g98)), ((z 99), .inl (T 0, 12, .inl g99)), ((z 101), .inl (T 0, 8, .inl g101)), ((z 102), .inl (T 0, 8, .inl g102))]) [1, 2, 3, 0, 4, 5] (by decide +kernel) rfl) hS (lv_sub hl [0, 1, 2, 3, 4, 5, 6, 7, 8, 9] rfl)
                    have hl24700495 : (0 : Int32).toInt = 0 := by decide
                    have hl24700496 : (1 : Int32).toInt = 1 := by decide
                    exact L24700461 _ 0 1 _ _ ls ⟨by decide, by decide⟩ ⟨by decide, by decide⟩ (his_yes (by decide)) (Nat.lt_succ_self _) (hP.sub (ws' := [(a, .inr (11, OX z i1 i2 i3 i4 i5 i6 i7 i8 i30 i43 i45 i46 i47 i48 i49 i50 i51 i58 i59 i65 i68 i69 i72 i78 i80 i81 i82 i87 i92 i96 i100 i103 i104)), ((z 97), .inl (T 0, 12, .inl g97)), ((z 98), .inl (T 0, 12, .inl g98)), ((z 99), .inl (T 0, 12, .inl g99)), ((z 101), .inl (T 0, 8, .inl g101)), ((z 102), .inl (T 0, 8, .inl g102))]) [0, 1, 2, 3, 4, 5] rfl) (hD.sub (ws' := [(a, .inr (11, OX z i1 i2 i3 i4 i5 i6 i7 i8 i30 i43 i45 i46 i47 i48 i49 i50 i51 i58 i59 i65 i68 i69 i72 i78 i80 i81 i82 i87 i92 i96 i100 i103 i104)), ((z 97), .inl (T 0, 12, .inl g97)), ((z 98), .inl (T 0, 12, .inl g98)), ((z 99), .inl (T 0, 12, .inl g99)), ((z 101), .inl (T 0, 8, .inl g101)), ((z 102), .inl (T 0, 8, .inl g102))]) [0, 1, 2, 3, 4, 5] (by decide +kernel) rfl) hS (lv_sub hl [0, 1, 2, 3, 4, 5, 6, 7, 8, 9] rfl)
                · skip
                  have kc24700443 : x24700425.toInt < i96.toInt := nle_ti rfl rfl c24700443
                  refine lv_iload hx hb dX11_choose_63 (lv_at hl 2 rfl) ?_
                  refine lv_iload hx hb dX11_choose_65 (lv_at hl 3 rfl) ?_
                  refine lv_iload hx hb dX11_choose_67 (lv_at hl 0 rfl) ?_
                  refine lv_ishr hx hb dX11_choose_69 ?_
                  refine lv_topi (fun x24700497 ex24700497 => ?_)
                  refine lv_iconst (v := 1) hx hb dX11_choose_70 (by decide) ?_
                  refine lv_iand hx hb dX11_choose_71 ?_
                  refine lv_topi (fun x24700498 ex24700498 => ?_)
                  have hx24700498 : 0 ≤ x24700498.toInt ∧ x24700498.toInt ≤ 1 := and_ti 1 1 (by decide) (by decide) (by decide) ex24700498
                  refine lv_aload_n hx hb dX11_choose_72 rfl (lv_at hl 6 rfl) ?_
                  refine r_get (v := .ref (z 99)) C0 hE ffX11_99 mw_889 hP 0 rfl ox_99 dX11_choose_73 ?_
                  refine lv_iload hx hb dX11_choose_76 (lv_at hl 0 rfl) ?_
                  refine va_iald hx hb hK hP 3 0 rfl rfl (in_ti rfl (by omega) (by omega)) dX11_choose_78 ?_
                  refine lv_topi (fun x24700499 ex24700499 => ?_)
                  have hx24700499 : 0 ≤ x24700499.toInt ∧ x24700499.toInt ≤ 999 := by rw [ex24700499]; exact hbg99 _
                  refine lv_imul hx hb dX11_choose_79 ?_
                  refine lv_topi (fun x24700500 ex24700500 => ?_)
                  have hx24700500 : 0 ≤ x24700500.toInt ∧ x24700500.toInt ≤ 999 := by have hm := mul_bb (a := x24700498.toInt) (b := x24700499.toInt) (u := 0) (v := 0) (p := 1) (q := 999) (L := 0) (U := 999) (by decide) (by decide) (by omega) (by omega) (by omega) (by omega) (by decide) (by decide); rw [ti_mul ex24700500 rfl rfl (by omega) (by omega)]; exact hm
                  refine lv_iadd hx hb dX11_choose_80 ?_
                  refine lv_topi (fun x24700501 ex24700501 => ?_)
                  have hx24700501 : x24700501.toInt = x24700427.toInt + x24700500.toInt := ti_add ex24700501 rfl rfl (by omega) (by omega)
                  refine lv_istore (lv' := [(6, .int x24700501), (8, .int x24700425), (7, .int x24700426), (5, .int x24700316), (4, .int x24700317), (3, .int x24700318), (0, .ref a), (1, .int p1), (2, .int p2)]) hx hb dX11_choose_81 hl (by decide) rfl (fun ls hl => ?_)
                  refine lv_iload hx hb dX11_choose_83 (lv_at hl 2 rfl) ?_
                  refine lv_iload hx hb dX11_choose_85 (lv_at hl 3 rfl) ?_
                  refine lv_iload hx hb dX11_choose_87 (lv_at hl 1 rfl) ?_
                  refine lv_ishr hx hb dX11_choose_89 ?_
                  refine lv_topi (fun x24700502 ex24700502 => ?_)
                  refine lv_iconst (v := 1) hx hb dX11_choose_90 (by decide) ?_
                  refine lv_iand hx hb dX11_choose_91 ?_
                  refine lv_topi (fun x24700503 ex24700503 => ?_)
                  have hx24700503 : 0 ≤ x24700503.toInt ∧ x24700503.toInt ≤ 1 := and_ti 1 1 (by decide) (by decide) (by decide) ex24700503
                  refine lv_aload_n hx hb dX11_choose_92 rfl (lv_at hl 6 rfl) ?_
                  refine r_get (v := .ref (z 98)) C0 hE ffX11_98 mw_888 hP 0 rfl ox_98 dX11_choose_93 ?_
                  refine lv_iload hx hb dX11_choose_96 (lv_at hl 1 rfl) ?_
                  refine va_iald hx hb hK hP 2 0 rfl rfl (in_ti rfl (by omega) (by omega)) dX11_choose_98 ?_
                  refine lv_topi (fun x24700504 ex24700504 => ?_)
                  have hx24700504 : 0 ≤ x24700504.toInt ∧ x24700504.toInt ≤ 999 := by rw [ex24700504]; exact hbg98 _
                  refine lv_imul hx hb dX11_choose_99 ?_
                  refine lv_topi (fun x24700505 ex24700505 => ?_)
                  have hx24700505 : 0 ≤ x24700505.toInt ∧ x24700505.toInt ≤ 999 := by have hm := mul_bb (a := x24700503.toInt) (b := x24700504.toInt) (u := 0) (v := 0) (p := 1) (q := 999) (L := 0) (U := 999) (by decide) (by decide) (by omega) (by omega) (by omega) (by omega) (by decide) (by decide); rw [ti_mul ex24700505 rfl rfl (by omega) (by omega)]; exact hm
                  refine lv_iadd hx hb dX11_choose_100 ?_
                  refine lv_topi (fun x24700506 ex24700506 => ?_)
                  have hx24700506 : x24700506.toInt = x24700426.toInt + x24700505.toInt := ti_add ex24700506 rfl rfl (by omega) (by omega)
                  refine lv_istore (lv' := [(7, .int x24700506), (6, .int x24700501), (8, .int x24700425), (5, .int x24700316), (4, .int x24700317), (3, .int x24700318), (0, .ref a), (1, .int p1), (2, .int p2)]) hx hb dX11_choose_101 hl (by decide) rfl (fun ls hl => ?_)
                  obtain ⟨x24700507, ex24700507⟩ : ∃ y : Int32, y = x24700425 + 1 := ⟨_, rfl⟩
                  have hx24700507 : x24700507.toInt = x24700425.toInt + 1 := ti_add ex24700507 rfl (by decide) (by omega) (by omega)
                  refine lv_iinc (v := x24700507) (lv' := [(8, .int x24700507), (7, .int x24700506), (6, .int x24700501), (5, .int x24700316), (4, .int x24700317), (3, .int x24700318), (0, .ref a), (1, .int p1), (2, .int p2)]) hx hb dX11_choose_103 hl (k := 2) rfl (by rw [ex24700507]; rfl) (by decide) rfl (fun ls hl => ?_)
                  refine lv_goto (tgt := 54) hx hb dX11_choose_106 (by decide) ?_
                  exact ih24700442 x24700507 x24700506 x24700501 _ _ ls ⟨by omega, by omega⟩ ⟨by omega, by omega⟩ ⟨by omega, by omega⟩ (SMI.step (v := x24700499.toInt) hSC ex24700497 ex24700498 (by omega) (by omega) (by omega) (by omega) (by rw [ex24700499]; rfl) ⟨fun q => by have q2 := mul1 ex24700500 q; omega, fun q => by have q2 := mul0 ex24700500 q; omega⟩) (SMI.step (v := x24700504.toInt) hSB ex24700502 ex24700503 (by omega) (by omega) (by omega) (by omega) (by rw [ex24700504]; rfl) ⟨fun q => by have q2 := mul1 ex24700505 q; omega, fun q => by have q2 := mul0 ex24700505 q; omega⟩) (by omega) (by omega) (hP.sub (ws' := [(a, .inr (11, OX z i1 i2 i3 i4 i5 i6 i7 i8 i30 i43 i45 i46 i47 i48 i49 i50 i51 i58 i59 i65 i68 i69 i72 i78 i80 i81 i82 i87 i92 i96 i100 i103 i104)), ((z 97), .inl (T 0, 12, .inl g97)), ((z 98), .inl (T 0, 12, .inl g98)), ((z 99), .inl (T 0, 12, .inl g99)), ((z 101), .inl (T 0, 8, .inl g101)), ((z 102), .inl (T 0, 8, .inl g102))]) [0, 1, 2, 3, 4, 5] rfl) (hD.sub (ws' := [(a, .inr (11, OX z i1 i2 i3 i4 i5 i6 i7 i8 i30 i43 i45 i46 i47 i48 i49 i50 i51 i58 i59 i65 i68 i69 i72 i78 i80 i81 i82 i87 i92 i96 i100 i103 i104)), ((z 97), .inl (T 0, 12, .inl g97)), ((z 98), .inl (T 0, 12, .inl g98)), ((z 99), .inl (T 0, 12, .inl g99)), ((z 101), .inl (T 0, 8, .inl g101)), ((z 102), .inl (T 0, 8, .inl g102))]) [0, 1, 2, 3, 4, 5] (by decide +kernel) rfl) hS (lv_sub hl [0, 1, 2, 3, 4, 5, 6, 7, 8] rfl)
            have hl24700508 : (0 : Int32).toInt = 0 := by decide
            exact L24700440 _ 0 0 0 _ _ ls ⟨by decide, by decide⟩ ⟨by decide, by decide⟩ ⟨by decide, by decide⟩ SMI.zero SMI.zero (by omega) (Nat.lt_succ_self _) (hP.sub (ws' := [(a, .inr (11, OX z i1 i2 i3 i4 i5 i6 i7 i8 i30 i43 i45 i46 i47 i48 i49 i50 i51 i58 i59 i65 i68 i69 i72 i78 i80 i81 i82 i87 i92 i96 i100 i103 i104)), ((z 97), .inl (T 0, 12, .inl g97)), ((z 98), .inl (T 0, 12, .inl g98)), ((z 99), .inl (T 0, 12, .inl g99)), ((z 101), .inl (T 0, 8, .inl g101)), ((z 102), .inl (T 0, 8, .inl g102))]) [0, 1, 2, 3, 4, 5] rfl) (hD.sub (ws' := [(a, .inr (11, OX z i1 i2 i3 i4 i5 i6 i7 i8 i30 i43 i45 i46 i47 i48 i49 i50 i51 i58 i59 i65 i68 i69 i72 i78 i80 i81 i82 i87 i92 i96 i100 i103 i104)), ((z 97), .inl (T 0, 12, .inl g97)), ((z 98), .inl (T 0, 12, .inl g98)), ((z 99), .inl (T 0, 12, .inl g99)), ((z 101), .inl (T 0, 8, .inl g101)), ((z 102), .inl (T 0, 8, .inl g102))]) [0, 1, 2, 3, 4, 5] (by decide +kernel) rfl) hS (lv_sub hl [0, 1, 2, 3, 4, 5, 6, 7, 8] rfl)
      have hl24700509 : ((-1) : Int32).toInt = -1 := by decide
      have hl24700510 : (0 : Int32).toInt = 0 := by decide
      exact L24700407 _ 0 0 (-1) _ _ ls ⟨by decide, by decide⟩ ⟨by decide, by decide⟩ ⟨by decide, by decide⟩ (BR.zero rfl rfl rfl) (Int.natCast_nonneg _) (Nat.lt_succ_self _) (hP.sub (ws' := [(a, .inr (11, OX z i1 i2 i3 i4 i5 i6 i7 i8 i30 i43 i45 i46 i47 i48 i49 i50 i51 i58 i59 i65 i68 i69 i72 i78 i80 i81 i82 i87 i92 i96 i100 i103 i104)), ((z 97), .inl (T 0, 12, .inl g97)), ((z 98), .inl (T 0, 12, .inl g98)), ((z 99), .inl (T 0, 12, .inl g99)), ((z 101), .inl (T 0, 8, .inl g101)), ((z 102), .inl (T 0, 8, .inl g102))]) [0, 1, 2, 3, 4, 5] rfl) (hD.sub (ws' := [(a, .inr (11, OX z i1 i2 i3 i4 i5 i6 i7 i8 i30 i43 i45 i46 i47 i48 i49 i50 i51 i58 i59 i65 i68 i69 i72 i78 i80 i81 i82 i87 i92 i96 i100 i103 i104)), ((z 97), .inl (T 0, 12, .inl g97)), ((z 98), .inl (T 0, 12, .inl g98)), ((z 99), .inl (T 0, 12, .inl g99)), ((z 101), .inl (T 0, 8, .inl g101)), ((z 102), .inl (T 0, 8, .inl g102))]) [0, 1, 2, 3, 4, 5] (by decide +kernel) rfl) hS (lv_sub hl [0, 1, 2, 3, 4, 5] rfl)
    · skip
      have kc24700258 : x24700254.toInt = 0 := eq_ti rfl (by decide) c24700258
      refine lv_iconst (v := (-1)) hx hb dX11_choose_24 (by decide) ?_
      exact r_iret (i103, i104) C0 hr hlocks hS (Nat.le_refl _) (Nat.le_refl _) dX11_choose_25 ⟨(Or.inr ⟨by omega, by decide, rfl, rfl⟩), ⟨by decide, by decide⟩⟩ (hP.sub (ws' := [(a, .inr (11, OX z i1 i2 i3 i4 i5 i6 i7 i8 i30 i43 i45 i46 i47 i48 i49 i50 i51 i58 i59 i65 i68 i69 i72 i78 i80 i81 i82 i87 i92 i96 i100 i103 i104)), ((z 97), .inl (T 0, 12, .inl g97)), ((z 98), .inl (T 0, 12, .inl g98)), ((z 99), .inl (T 0, 12, .inl g99)), ((z 101), .inl (T 0, 8, .inl g101)), ((z 102), .inl (T 0, 8, .inl g102))]) [0, 1, 2, 3, 4, 5] rfl) (hD.sub (ws' := [(a, .inr (11, OX z i1 i2 i3 i4 i5 i6 i7 i8 i30 i43 i45 i46 i47 i48 i49 i50 i51 i58 i59 i65 i68 i69 i72 i78 i80 i81 i82 i87 i92 i96 i100 i103 i104)), ((z 97), .inl (T 0, 12, .inl g97)), ((z 98), .inl (T 0, 12, .inl g98)), ((z 99), .inl (T 0, 12, .inl g99)), ((z 101), .inl (T 0, 8, .inl g101)), ((z 102), .inl (T 0, 8, .inl g102))]) [0, 1, 2, 3, 4, 5] (by decide +kernel) rfl)
