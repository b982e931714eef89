theorem sx_all : ∀ d : Nat, SX d := by
  intro d
  induction d using Nat.strongRecOn with
  | ind d ih => exact sx_1 d ih
set_option maxHeartbeats 4000000 in
set_option maxRecDepth 100000 in
theorem k_X4_pick_60000374 (l : Launch) (D : va_G) (T : Nat → ClassId) (sq sv sz : Nat) (a : Nat) (z : Nat → Nat) (i5 i6 i7 i8 i9 i10 i11 i12 i13 : Int32) (p1 : Int32) (p2 : Int32) (g0 : Nat → Int32) (g1 : Nat → Int32) (g2 : Nat → Int32) (g3 : Nat → Int32) (g4 : Nat → Int32) (hi5 : 0 ≤ i5.toInt ∧ i5.toInt ≤ 12) (hi6 : 0 ≤ i6.toInt ∧ i6.toInt ≤ 8) (hi8 : 0 ≤ i8.toInt ∧ i8.toInt ≤ 12) (hp1 : 0 ≤ p1.toInt ∧ p1.toInt ≤ 99) (hp2 : 0 ≤ p2.toInt ∧ p2.toInt ≤ 20000) (hbg0 : Bd (0) (99) g0) (hbg1 : Bd (0) (999) g1) (hbg2 : Bd (0) (999) g2) (hbg3 : Bd (0) (99) g3) (hbg4 : Bd (0) (9999) g4) : Met l yX4_pick (.code yX4_pick cX4_pick 4 (some .int) :: TB) { frames := 31, cells := 0, slots := 0, locals := 946 } (PC2 D T sq sv [.ref a, .int p1, .int p2] [(a, .inr (4, O4 z i5 i6 i7 i8 i9 i10 i11 i12 i13)), ((z 0), .inl (T 0, 12, .inl g0)), ((z 1), .inl (T 0, 12, .inl g1)), ((z 2), .inl (T 0, 12, .inl g2)), ((z 3), .inl (T 0, 8, .inl g3)), ((z 4), .inl (T 0, 8, .inl g4))] sz) (Qi (S := Int32 × Int32 × Int32 × Int32 × Int32 × Int32 × Int32) (fun (r : Int32) (u : Int32 × Int32 × Int32 × Int32 × Int32 × Int32 × Int32) => match u with | (ui7, ui8, ui9, ui10, ui11, ui12, ui13) => (0 ≤ ui8.toInt ∧ ui8.toInt ≤ 12) ∧ (0 ≤ ui9.toInt ∧ ui9.toInt ≤ 99) ∧ (0 ≤ ui10.toInt ∧ ui10.toInt ≤ 20000) ∧ (CHS (Int32.toNatClampNeg i5) (Int32.toNatClampNeg i6) g0 g1 g2 g3 g4 p1.toInt p2.toInt i7 i8 r ui7 ui8)) (fun (u : Int32 × Int32 × Int32 × Int32 × Int32 × Int32 × Int32) => match u with | (ui7, ui8, ui9, ui10, ui11, ui12, ui13) => [(a, .inr (4, O4 z i5 i6 ui7 ui8 ui9 ui10 ui11 ui12 ui13)), ((z 0), .inl (T 0, 12, .inl g0)), ((z 1), .inl (T 0, 12, .inl g1)), ((z 2), .inl (T 0, 12, .inl g2)), ((z 3), .inl (T 0, 8, .inl g3)), ((z 4), .inl (T 0, 8, .inl g4))]) D (va_A [(a, .inr (4, O4 z i5 i6 i7 i8 i9 i10 i11 i12 i13)), ((z 0), .inl (T 0, 12, .inl g0)), ((z 1), .inl (T 0, 12, .inl g1)), ((z 2), .inl (T 0, 12, .inl g2)), ((z 3), .inl (T 0, 8, .inl g3)), ((z 4), .inl (T 0, 8, .inl g4))] sz)) 0 0 (va_A [(a, .inr (4, O4 z i5 i6 i7 i8 i9 i10 i11 i12 i13)), ((z 0), .inl (T 0, 12, .inl g0)), ((z 1), .inl (T 0, 12, .inl g1)), ((z 2), .inl (T 0, 12, .inl g2)), ((z 3), .inl (T 0, 8, .inl g3)), ((z 4), .inl (T 0, 8, .inl g4))] sz) := by
  refine ct_begin2 (Qc := Qi (S := Int32 × Int32 × Int32 × Int32 × Int32 × Int32 × Int32) (fun (r : Int32) (u : Int32 × Int32 × Int32 × Int32 × Int32 × Int32 × Int32) => match u with | (ui7, ui8, ui9, ui10, ui11, ui12, ui13) => (0 ≤ ui8.toInt ∧ ui8.toInt ≤ 12) ∧ (0 ≤ ui9.toInt ∧ ui9.toInt ≤ 99) ∧ (0 ≤ ui10.toInt ∧ ui10.toInt ≤ 20000) ∧ (CHS (Int32.toNatClampNeg i5) (Int32.toNatClampNeg i6) g0 g1 g2 g3 g4 p1.toInt p2.toInt i7 i8 r ui7 ui8)) (fun (u : Int32 × Int32 × Int32 × Int32 × Int32 × Int32 × Int32) => match u with | (ui7, ui8, ui9, ui10, ui11, ui12, ui13) => [(a, .inr (4, O4 z i5 i6 ui7 ui8 ui9 ui10 ui11 ui12 ui13)), ((z 0), .inl (T 0, 12, .inl g0)), ((z 1), .inl (T 0, 12, .inl g1)), ((z 2), .inl (T 0, 12, .inl g2)), ((z 3), .inl (T 0, 8, .inl g3)), ((z 4), .inl (T 0, 8, .inl g4))]) D) (by decide +kernel) (Nat.le_of_ble_eq_true rfl) ?_
  intro p e s m below meth c A ls C0 hr hlocks hnm hE hStr hA hP hD hl
  generalize ([.ref a, .int p1, .int p2] : List Value).toArray = args at C0 ⊢
  have hx := C0.1
  have hb := C0.2.1
  have hml := C0.2.2.1
  have hown := C0.2.2.2.1
  have hT := C0.2.2.2.2
  have hK := hE.1
  generalize hH : s.heap = H at hP ⊢
  have hS : va_S A s.heap H [] := by rw [← hH]; exact va_S.rf
  have hP : va_P D vwCl [(a, .inr (4, O4 z i5 i6 i7 i8 i9 i10 i11 i12 i13)), ((z 0), .inl (T 0, 12, .inl g0)), ((z 1), .inl (T 0, 12, .inl g1)), ((z 2), .inl (T 0, 12, .inl g2)), ((z 3), .inl (T 0, 8, .inl g3)), ((z 4), .inl (T 0, 8, .inl g4))] H := hP
  have hD : va_D A [(a, .inr (4, O4 z i5 i6 i7 i8 i9 i10 i11 i12 i13)), ((z 0), .inl (T 0, 12, .inl g0)), ((z 1), .inl (T 0, 12, .inl g1)), ((z 2), .inl (T 0, 12, .inl g2)), ((z 3), .inl (T 0, 8, .inl g3)), ((z 4), .inl (T 0, 8, .inl g4))] := hD
  have hl : lv_has ls 4 [(0, .ref a), (1, .int p1), (2, .int p2)] := hl
  refine lv_aload_n hx hb dX4_pick_0 rfl (lv_at hl 0 rfl) ?_
  refine lv_iload_n hx hb dX4_pick_1 rfl (lv_at hl 1 rfl) ?_
  refine r_put (v := .int p1) (ty := .int) (ws1 := [(a, .inr (4, O4 z i5 i6 i7 i8 p1 i10 i11 i12 i13)), ((z 0), .inl (T 0, 12, .inl g0)), ((z 1), .inl (T 0, 12, .inl g1)), ((z 2), .inl (T 0, 12, .inl g2)), ((z 3), .inl (T 0, 8, .inl g3)), ((z 4), .inl (T 0, 8, .inl g4))]) C0 hE ffX4_9 tyX4 tyX4_ok nmX4 mw_182 pf_1358 hP hD hS 0 rfl rfl rfl o4l_9 o4s_9 rfl dX4_pick_2 (fun H locs hP hD hS => ?_)
  refine lv_aload_n hx hb dX4_pick_5 rfl (lv_at hl 0 rfl) ?_
  refine lv_iload_n hx hb dX4_pick_6 rfl (lv_at hl 2 rfl) ?_
  refine r_put (v := .int p2) (ty := .int) (ws1 := [(a, .inr (4, O4 z i5 i6 i7 i8 p1 p2 i11 i12 i13)), ((z 0), .inl (T 0, 12, .inl g0)), ((z 1), .inl (T 0, 12, .inl g1)), ((z 2), .inl (T 0, 12, .inl g2)), ((z 3), .inl (T 0, 8, .inl g3)), ((z 4), .inl (T 0, 8, .inl g4))]) C0 hE ffX4_10 tyX4 tyX4_ok nmX4 mw_183 pf_1358 hP hD hS 0 rfl rfl rfl o4l_10 o4s_10 rfl dX4_pick_7 (fun H locs hP hD hS => ?_)
  refine lv_aload_n hx hb dX4_pick_10 rfl (lv_at hl 0 rfl) ?_
  refine lv_ldc hx hb hown (hT _ mw_743) dX4_pick_11 ?_
  refine r_put (v := .int 1000000) (ty := .int) (ws1 := [(a, .inr (4, O4 z i5 i6 i7 i8 p1 p2 1000000 i12 i13)), ((z 0), .inl (T 0, 12, .inl g0)), ((z 1), .inl (T 0, 12, .inl g1)), ((z 2), .inl (T 0, 12, .inl g2)), ((z 3), .inl (T 0, 8, .inl g3)), ((z 4), .inl (T 0, 8, .inl g4))]) C0 hE ffX4_11 tyX4 tyX4_ok nmX4 mw_184 pf_1358 hP hD hS 0 rfl rfl rfl o4l_11 o4s_11 rfl dX4_pick_13 (fun H locs hP hD hS => ?_)
  refine lv_aload_n hx hb dX4_pick_16 rfl (lv_at hl 0 rfl) ?_
  refine lv_iconst (v := 0) hx hb dX4_pick_17 (by decide) ?_
  refine r_put (v := .int 0) (ty := .int) (ws1 := [(a, .inr (4, O4 z i5 i6 i7 i8 p1 p2 1000000 0 i13)), ((z 0), .inl (T 0, 12, .inl g0)), ((z 1), .inl (T 0, 12, .inl g1)), ((z 2), .inl (T 0, 12, .inl g2)), ((z 3), .inl (T 0, 8, .inl g3)), ((z 4), .inl (T 0, 8, .inl g4))]) C0 hE ffX4_12 tyX4 tyX4_ok nmX4 mw_185 pf_1358 hP hD hS 0 rfl rfl rfl o4l_12 o4s_12 rfl dX4_pick_18 (fun H locs hP hD hS => ?_)
  refine lv_aload_n hx hb dX4_pick_21 rfl (lv_at hl 0 rfl) ?_
  refine lv_iconst (v := (-1)) hx hb dX4_pick_22 (by decide) ?_
  refine r_put (v := .int (-1)) (ty := .int) (ws1 := [(a, .inr (4, O4 z i5 i6 i7 i8 p1 p2 1000000 0 (-1))), ((z 0), .inl (T 0, 12, .inl g0)), ((z 1), .inl (T 0, 12, .inl g1)), ((z 2), .inl (T 0, 12, .inl g2)), ((z 3), .inl (T 0, 8, .inl g3)), ((z 4), .inl (T 0, 8, .inl g4))]) C0 hE ffX4_13 tyX4 tyX4_ok nmX4 mw_186 pf_1358 hP hD hS 0 rfl rfl rfl o4l_13 o4s_13 rfl dX4_pick_23 (fun H locs hP hD hS => ?_)
  refine lv_iconst (v := 1) hx hb dX4_pick_26 (by decide) ?_
  refine lv_aload_n hx hb dX4_pick_27 rfl (lv_at hl 0 rfl) ?_
  refine r_get (v := .int i5) C0 hE ffX4_5 mw_174 hP 0 rfl o4x_5 dX4_pick_28 ?_
  refine lv_ishl hx hb dX4_pick_31 ?_
  refine lv_topi (fun x60000375 ex60000375 => ?_)
  have hsh := shl_ti ex60000375 (by omega) (by omega)
  have hp12 := pow12 (n := Int32.toNatClampNeg i5) (by have ht5 := tn (x := i5) (by omega); omega)
  have hqx60000375 : 1 ≤ x60000375.toInt ∧ x60000375.toInt ≤ 4096 := ⟨by omega, by omega⟩
  refine lv_iconst (v := 1) hx hb dX4_pick_32 (by decide) ?_
  refine lv_isub hx hb dX4_pick_33 ?_
  refine lv_topi (fun x60000376 ex60000376 => ?_)
  have hx60000376 : x60000376.toInt = x60000375.toInt - 1 := ti_sub ex60000376 rfl (by decide) (by omega) (by omega)
  have hev : Int32.toNatClampNeg x60000376 = 2 ^ Int32.toNatClampNeg i5 - 1 := by have hn1 := tn (x := x60000376) (by omega); omega
  refine lv_istore_n (lv' := [(3, .int x60000376), (0, .ref a), (1, .int p1), (2, .int p2)]) hx hb dX4_pick_34 rfl hl (by decide) rfl (fun ls hl => ?_)
  refine lv_aload_n hx hb dX4_pick_35 rfl (lv_at hl 1 rfl) ?_
  refine lv_iload_n hx hb dX4_pick_36 rfl (lv_at hl 0 rfl) ?_
  refine r_calli (wr := [((z 2), .inl (T 0, 12, .inl g2))]) (r_runV2 (As := [.int x60000376]) (rest := []) (wc := [(a, .inr (4, O4 z i5 i6 i7 i8 p1 p2 1000000 0 (-1))), ((z 0), .inl (T 0, 12, .inl g0)), ((z 1), .inl (T 0, 12, .inl g1)), ((z 3), .inl (T 0, 8, .inl g3)), ((z 4), .inl (T 0, 8, .inl g4))]) (ci := 4) C0 hE hStr hS (va_free (wc := [(a, .inr (4, O4 z i5 i6 i7 i8 p1 p2 1000000 0 (-1))), ((z 0), .inl (T 0, 12, .inl g0)), ((z 1), .inl (T 0, 12, .inl g1)), ((z 3), .inl (T 0, 8, .inl g3)), ((z 4), .inl (T 0, 8, .inl g4))]) hD hS hA [0, 1, 2, 4, 5] rfl) (k_X4_holdsAll_60000201 l D T sq sv H.size a z i5 i6 i7 i8 p1 p2 1000000 0 (-1) x60000376 g0 g1 g3 g4 ⟨by omega, by omega⟩ ⟨by omega, by omega⟩ ⟨by omega, by omega⟩ ⟨by omega, by omega⟩ hbg0 hbg1 hbg3 hbg4) mw_744 mw_745 mw_1294 mw_9 mw_746 dn_1602 rfl rfl ⟨Nat.le_of_ble_eq_true rfl, Nat.le_of_ble_eq_true rfl⟩ (hP.sub (ws' := [(a, .inr (4, O4 z i5 i6 i7 i8 p1 p2 1000000 0 (-1))), ((z 0), .inl (T 0, 12, .inl g0)), ((z 1), .inl (T 0, 12, .inl g1)), ((z 3), .inl (T 0, 8, .inl g3)), ((z 4), .inl (T 0, 8, .inl g4))]) [0, 1, 2, 4, 5] rfl) (hD.sub (ws' := [(a, .inr (4, O4 z i5 i6 i7 i8 p1 p2 1000000 0 (-1))), ((z 0), .inl (T 0, 12, .inl g0)), ((z 1), .inl (T 0, 12, .inl g1)), ((z 3), .inl (T 0, 8, .inl g3)), ((z 4), .inl (T 0, 8, .inl g4))]) [0, 1, 2, 4, 5] (by decide +kernel) rfl) rfl rfl rfl hl.1 rfl (Nat.le_of_ble_eq_true rfl) dX4_pick_37 ⟨Nat.le_of_ble_eq_true rfl, Nat.le_of_ble_eq_true rfl⟩) hP hD hS hA [0, 1, 2, 4, 5] [3] rfl rfl (by decide +kernel) (by decide +kernel) (fun x60000377 u H locs hq hP hD hS => ?_)
  obtain ⟨hg60000378, hx60000377⟩ := hq
  have hg60000378 : RHA (Int32.toNatClampNeg i5) (Int32.toNatClampNeg i6) g0 g1 g3 g4 p1.toInt x60000376 x60000377 := hg60000378
  have hx60000377 : 0 ≤ x60000377.toInt ∧ x60000377.toInt ≤ 1 := hx60000377
  have hP : va_P D vwCl [((z 2), .inl (T 0, 12, .inl g2)), (a, .inr (4, O4 z i5 i6 i7 i8 p1 p2 1000000 0 (-1))), ((z 0), .inl (T 0, 12, .inl g0)), ((z 1), .inl (T 0, 12, .inl g1)), ((z 3), .inl (T 0, 8, .inl g3)), ((z 4), .inl (T 0, 8, .inl g4))] H := hP
  have hD : va_D A [((z 2), .inl (T 0, 12, .inl g2)), (a, .inr (4, O4 z i5 i6 i7 i8 p1 p2 1000000 0 (-1))), ((z 0), .inl (T 0, 12, .inl g0)), ((z 1), .inl (T 0, 12, .inl g1)), ((z 3), .inl (T 0, 8, .inl g3)), ((z 4), .inl (T 0, 8, .inl g4))] := hD
  refine W.widen (k := 0) (n := 0) (Nat.le_refl _) (Nat.le_refl _) ?_
  refine lv_if_eq (tgt := 52) hx hb dX4_pick_40 (by decide) (fun c60000379 => ?_) (fun c60000379 => ?_)
  · skip
    have kc60000379 : x60000377.toInt = 0 := eq_ti rfl (by decide) c60000379
    refine lv_aload_n hx hb dX4_pick_52 rfl (lv_at hl 1 rfl) ?_
    refine r_get (v := .int (-1)) C0 hE ffX4_13 mw_186 hP 1 rfl o4x_13 dX4_pick_53 ?_
    refine lv_iconst (v := (-1)) hx hb dX4_pick_56 (by decide) ?_
    refine lv_icmp_ne (tgt := 62) hx hb dX4_pick_57 (by decide) (fun hc => absurd (by decide +kernel) hc) (fun _ => ?_)
    refine lv_iconst (v := (-1)) hx hb dX4_pick_60 (by decide) ?_
    exact r_iret (i7, i8, p1, p2, 1000000, 0, (-1)) C0 hr hlocks hS (Nat.le_refl _) (Nat.le_refl _) dX4_pick_61 ⟨⟨by omega, by omega⟩, ⟨by omega, by omega⟩, ⟨by omega, by omega⟩, (chs_none (none_of hbg1 hev (rha_f hg60000378 (by omega))) (by decide))⟩ (hP.sub (ws' := [(a, .inr (4, O4 z i5 i6 i7 i8 p1 p2 1000000 0 (-1))), ((z 0), .inl (T 0, 12, .inl g0)), ((z 1), .inl (T 0, 12, .inl g1)), ((z 2), .inl (T 0, 12, .inl g2)), ((z 3), .inl (T 0, 8, .inl g3)), ((z 4), .inl (T 0, 8, .inl g4))]) [1, 2, 3, 0, 4, 5] rfl) (hD.sub (ws' := [(a, .inr (4, O4 z i5 i6 i7 i8 p1 p2 1000000 0 (-1))), ((z 0), .inl (T 0, 12, .inl g0)), ((z 1), .inl (T 0, 12, .inl g1)), ((z 2), .inl (T 0, 12, .inl g2)), ((z 3), .inl (T 0, 8, .inl g3)), ((z 4), .inl (T 0, 8, .inl g4))]) [1, 2, 3, 0, 4, 5] (by decide +kernel) rfl)
  · skip
    have kc60000379 : x60000377.toInt ≠ 0 := ne_ti rfl (by decide) c60000379
    have nzx60000377 : ¬ x60000377 = 0 := c60000379
    refine lv_aload_n hx hb dX4_pick_43 rfl (lv_at hl 1 rfl) ?_
    refine lv_iconst (v := 0) hx hb dX4_pick_44 (by decide) ?_
    refine lv_iload_n hx hb dX4_pick_45 rfl (lv_at hl 0 rfl) ?_
    refine lv_iconst (v := 0) hx hb dX4_pick_46 (by decide) ?_
    refine lv_iconst (v := 0) hx hb dX4_pick_47 (by decide) ?_
    refine lv_iconst (v := 0) hx hb dX4_pick_48 (by decide) ?_
    have hl60000380 : ((-1) : Int32).toInt = -1 := by decide
    have hl60000381 : (0 : Int32).toInt = 0 := by decide
    have hl60000382 : (1000000 : Int32).toInt = 1000000 := by decide
    refine r_callv2 (wr := []) (r_runV2 (As := [.int 0, .int x60000376, .int 0, .int 0, .int 0]) (rest := []) (wc := [(a, .inr (4, O4 z i5 i6 i7 i8 p1 p2 1000000 0 (-1))), ((z 0), .inl (T 0, 12, .inl g0)), ((z 1), .inl (T 0, 12, .inl g1)), ((z 2), .inl (T 0, 12, .inl g2)), ((z 3), .inl (T 0, 8, .inl g3)), ((z 4), .inl (T 0, 8, .inl g4))]) (ci := 4) C0 hE hStr hS (va_free (wc := [(a, .inr (4, O4 z i5 i6 i7 i8 p1 p2 1000000 0 (-1))), ((z 0), .inl (T 0, 12, .inl g0)), ((z 1), .inl (T 0, 12, .inl g1)), ((z 2), .inl (T 0, 12, .inl g2)), ((z 3), .inl (T 0, 8, .inl g3)), ((z 4), .inl (T 0, 8, .inl g4))]) hD hS hA [1, 2, 3, 0, 4, 5] rfl) (sx_all 12 l D T sq sv H.size a z i5 i6 i7 i8 p1 p2 1000000 0 (-1) 0 x60000376 0 0 0 g0 g1 g2 g3 g4 ⟨by omega, by omega⟩ ⟨by omega, by omega⟩ ⟨by omega, by omega⟩ ⟨by decide, by decide⟩ ⟨by omega, by omega⟩ ⟨by decide, by decide⟩ ⟨by decide, by decide⟩ ⟨by decide, by decide⟩ hbg0 hbg1 hbg2 hbg3 hbg4 (by omega) (SIN.startI hev (rha_t hg60000378 (by omega)))) mw_754 mw_755 mw_1296 mw_9 mw_756 dn_1601 rfl rfl ⟨Nat.le_of_ble_eq_true rfl, Nat.le_of_ble_eq_true rfl⟩ (hP.sub (ws' := [(a, .inr (4, O4 z i5 i6 i7 i8 p1 p2 1000000 0 (-1))), ((z 0), .inl (T 0, 12, .inl g0)), ((z 1), .inl (T 0, 12, .inl g1)), ((z 2), .inl (T 0, 12, .inl g2)), ((z 3), .inl (T 0, 8, .inl g3)), ((z 4), .inl (T 0, 8, .inl g4))]) [1, 2, 3, 0, 4, 5] rfl) (hD.sub (ws' := [(a, .inr (4, O4 z i5 i6 i7 i8 p1 p2 1000000 0 (-1))), ((z 0), .inl (T 0, 12, .inl g0)), ((z 1), .inl (T 0, 12, .inl g1)), ((z 2), .inl (T 0, 12, .inl g2)), ((z 3), .inl (T 0, 8, .inl g3)), ((z 4), .inl (T 0, 8, .inl g4))]) [1, 2, 3, 0, 4, 5] (by decide +kernel) rfl) rfl rfl rfl hl.1 rfl (Nat.le_of_ble_eq_true rfl) dX4_pick_49 ⟨Nat.le_of_ble_eq_true rfl, Nat.le_of_ble_eq_true rfl⟩) hP hD hS hA [1, 2, 3, 0, 4, 5] [] rfl rfl (by decide +kernel) (by decide +kernel) (fun u H locs hq hP hD hS => ?_)
    obtain ⟨x60000383, x60000384, x60000385⟩ := u
    have hg60000386 := hq
    have hg60000386 : SR (Int32.toNatClampNeg i5) (cst g2) (VA (Int32.toNatClampNeg i5) (Int32.toNatClampNeg i6) g0 g1 g3 g4 p1.toInt p2.toInt) (Int32.toNatClampNeg 0) (Int32.toNatClampNeg x60000376) 1000000 0 (-1) x60000383.toInt x60000384.toInt x60000385.toInt := hg60000386
    have hP : va_P D vwCl [(a, .inr (4, O4 z i5 i6 i7 i8 p1 p2 x60000383 x60000384 x60000385)), ((z 0), .inl (T 0, 12, .inl g0)), ((z 1), .inl (T 0, 12, .inl g1)), ((z 2), .inl (T 0, 12, .inl g2)), ((z 3), .inl (T 0, 8, .inl g3)), ((z 4), .inl (T 0, 8, .inl g4))] H := hP
    have hD : va_D A [(a, .inr (4, O4 z i5 i6 i7 i8 p1 p2 x60000383 x60000384 x60000385)), ((z 0), .inl (T 0, 12, .inl g0)), ((z 1), .inl (T 0, 12, .inl g1)), ((z 2), .inl (T 0, 12, .inl g2)), ((z 3), .inl (T 0, 8, .inl g3)), ((z 4), .inl (T 0, 8, .inl g4))] := hD
    refine W.widen (k := 0) (n := 0) (Nat.le_refl _) (Nat.le_refl _) ?_
    have hSR0 := hg60000386
    rw [tn0] at hSR0
    refine lv_aload_n hx hb dX4_pick_52 rfl (lv_at hl 1 rfl) ?_
    refine r_get (v := .int x60000385) C0 hE ffX4_13 mw_186 hP 0 rfl o4x_13 dX4_pick_53 ?_
    refine lv_iconst (v := (-1)) hx hb dX4_pick_56 (by decide) ?_
    refine lv_icmp_ne (tgt := 62) hx hb dX4_pick_57 (by decide) (fun c60000387 => ?_) (fun c60000387 => ?_)
    · skip
      have kc60000387 : x60000385.toInt ≠ (-1) := ne_ti rfl (by decide) c60000387
      refine lv_aload_n hx hb dX4_pick_62 rfl (lv_at hl 1 rfl) ?_
      refine lv_aload_n hx hb dX4_pick_63 rfl (lv_at hl 1 rfl) ?_
      refine r_get (v := .int x60000385) C0 hE ffX4_13 mw_186 hP 0 rfl o4x_13 dX4_pick_64 ?_
      refine r_put (v := .int x60000385) (ty := .int) (ws1 := [(a, .inr (4, O4 z i5 i6 x60000385 i8 p1 p2 x60000383 x60000384 x60000385)), ((z 0), .inl (T 0, 12, .inl g0)), ((z 1), .inl (T 0, 12, .inl g1)), ((z 2), .inl (T 0, 12, .inl g2)), ((z 3), .inl (T 0, 8, .inl g3)), ((z 4), .inl (T 0, 8, .inl g4))]) C0 hE ffX4_7 tyX4 tyX4_ok nmX4 mw_178 pf_1358 hP hD hS 0 rfl rfl rfl o4l_7 o4s_7 rfl dX4_pick_67 (fun H locs hP hD hS => ?_)
      refine lv_aload_n hx hb dX4_pick_70 rfl (lv_at hl 1 rfl) ?_
      refine lv_aload_n hx hb dX4_pick_71 rfl (lv_at hl 1 rfl) ?_
      refine r_get (v := .int i5) C0 hE ffX4_5 mw_174 hP 0 rfl o4x_5 dX4_pick_72 ?_
      refine r_put (v := .int i5) (ty := .int) (ws1 := [(a, .inr (4, O4 z i5 i6 x60000385 i5 p1 p2 x60000383 x60000384 x60000385)), ((z 0), .inl (T 0, 12, .inl g0)), ((z 1), .inl (T 0, 12, .inl g1)), ((z 2), .inl (T 0, 12, .inl g2)), ((z 3), .inl (T 0, 8, .inl g3)), ((z 4), .inl (T 0, 8, .inl g4))]) C0 hE ffX4_8 tyX4 tyX4_ok nmX4 mw_180 pf_1358 hP hD hS 0 rfl rfl rfl o4l_8 o4s_8 rfl dX4_pick_75 (fun H locs hP hD hS => ?_)
      refine lv_aload_n hx hb dX4_pick_78 rfl (lv_at hl 1 rfl) ?_
      refine r_get (v := .int x60000383) C0 hE ffX4_11 mw_184 hP 0 rfl o4x_11 dX4_pick_79 ?_
      exact r_iret (x60000385, i5, p1, p2, x60000383, x60000384, x60000385) C0 hr hlocks hS (Nat.le_refl _) (Nat.le_refl _) dX4_pick_82 ⟨⟨by omega, by omega⟩, ⟨by omega, by omega⟩, ⟨by omega, by omega⟩, (chs_srch (by have ht5 := tn (x := i5) (by omega); omega) hbg2 hSR0 rfl (by omega) (by have ht5 := tn (x := i5) (by omega); omega))⟩ (hP.sub (ws' := [(a, .inr (4, O4 z i5 i6 x60000385 i5 p1 p2 x60000383 x60000384 x60000385)), ((z 0), .inl (T 0, 12, .inl g0)), ((z 1), .inl (T 0, 12, .inl g1)), ((z 2), .inl (T 0, 12, .inl g2)), ((z 3), .inl (T 0, 8, .inl g3)), ((z 4), .inl (T 0, 8, .inl g4))]) [0, 1, 2, 3, 4, 5] rfl) (hD.sub (ws' := [(a, .inr (4, O4 z i5 i6 x60000385 i5 p1 p2 x60000383 x60000384 x60000385)), ((z 0), .inl (T 0, 12, .inl g0)), ((z 1), .inl (T 0, 12, .inl g1)), ((z 2), .inl (T 0, 12, .inl g2)), ((z 3), .inl (T 0, 8, .inl g3)), ((z 4), .inl (T 0, 8, .inl g4))]) [0, 1, 2, 3, 4, 5] (by decide +kernel) rfl)
    · skip
      have kc60000387 : x60000385.toInt = (-1) := eq_ti rfl (by decide) c60000387
      refine lv_iconst (v := (-1)) hx hb dX4_pick_60 (by decide) ?_
      exact r_iret (i7, i8, p1, p2, x60000383, x60000384, x60000385) C0 hr hlocks hS (Nat.le_refl _) (Nat.le_refl _) dX4_pick_61 ⟨⟨by omega, by omega⟩, ⟨by omega, by omega⟩, ⟨by omega, by omega⟩, (chs_nsr (by have ht5 := tn (x := i5) (by omega); omega) hbg2 hSR0 (by decide) (by omega))⟩ (hP.sub (ws' := [(a, .inr (4, O4 z i5 i6 i7 i8 p1 p2 x60000383 x60000384 x60000385)), ((z 0), .inl (T 0, 12, .inl g0)), ((z 1), .inl (T 0, 12, .inl g1)), ((z 2), .inl (T 0, 12, .inl g2)), ((z 3), .inl (T 0, 8, .inl g3)), ((z 4), .inl (T 0, 8, .inl g4))]) [0, 1, 2, 3, 4, 5] rfl) (hD.sub (ws' := [(a, .inr (4, O4 z i5 i6 i7 i8 p1 p2 x60000383 x60000384 x60000385)), ((z 0), .inl (T 0, 12, .inl g0)), ((z 1), .inl (T 0, 12, .inl g1)), ((z 2), .inl (T 0, 12, .inl g2)), ((z 3), .inl (T 0, 8, .inl g3)), ((z 4), .inl (T 0, 8, .inl g4))]) [0, 1, 2, 3, 4, 5] (by decide +kernel) rfl)
set_option maxHeartbeats 4000000 in
set_option maxRecDepth 100000 in
theorem k_X10_within_60000398 (l : Launch) (D : va_G) (T : Nat → ClassId) (sq sv sz : Nat) (p0 : Int32) (p1 : Int32) (p2 : Int32) : Met l yX10_within (.code yX10_within cX10_within 3 (some .boolean) :: TB) { frames := 0, cells := 0, slots := 0, locals := 0 } (PC2 D T sq sv [.int p0, .int p1, .int p2] ([] : va_W) sz) (Qi (S := Unit) (fun (r : Int32) (_ : Unit) => ((r.toInt = 0 ∧ (p0.toInt < p1.toInt ∨ p2.toInt < p0.toInt)) ∨ (r.toInt = 1 ∧ p1.toInt ≤ p0.toInt ∧ p0.toInt ≤ p2.toInt)) ∧ (0 ≤ r.toInt ∧ r.toInt ≤ 1)) (fun (_ : Unit) => ([] : va_W)) D (va_A ([] : va_W) sz)) 0 0 (va_A ([] : va_W) sz) := by
  refine ct_begin2 (Qc := Qi (S := Unit) (fun (r : Int32) (_ : Unit) => ((r.toInt = 0 ∧ (p0.toInt < p1.toInt ∨ p2.toInt < p0.toInt)) ∨ (r.toInt = 1 ∧ p1.toInt ≤ p0.toInt ∧ p0.toInt ≤ p2.toInt)) ∧ (0 ≤ r.toInt ∧ r.toInt ≤ 1)) (fun (_ : Unit) => ([] : va_W)) D) (by decide +kernel) (Nat.le_of_ble_eq_true rfl) ?_
  intro p e s m below meth c A ls C0 hr hlocks hnm hE hStr hA hP hD hl
  generalize ([.int p0, .int p1, .int p2] : List Value).toArray = args at C0 ⊢
  have hx := C0.1
  have hb := C0.2.1
  have hml := C0.2.2.1
  have hown := C0.2.2.2.1
  have hT := C0.2.2.2.2
  have hK := hE.1
  generalize hH : s.heap = H at hP ⊢
  have hS : va_S A s.heap H [] := by rw [← hH]; exact va_S.rf
  have hP : va_P D vwCl ([] : va_W) H := hP
  have hD : va_D A ([] : va_W) := hD
  have hl : lv_has ls 3 [(0, .int p0), (1, .int p1), (2, .int p2)] := hl
  refine lv_iload_n hx hb dX10_within_0 rfl (lv_at hl 0 rfl) ?_
  refine lv_iload_n hx hb dX10_within_1 rfl (lv_at hl 1 rfl) ?_
  refine lv_icmp_lt (tgt := 14) hx hb dX10_within_2 (by decide) (fun c60000399 => ?_) (fun c60000399 => ?_)
  · skip
    have kc60000399 : p0.toInt < p1.toInt := lt_ti rfl rfl c60000399
    have rg60000400 := i32_rng p1
    have rg60000401 := i32_rng p0
    refine lv_iconst (v := 0) hx hb dX10_within_14 (by decide) ?_
    have hl60000402 : (0 : Int32).toInt = 0 := by decide
    exact r_zret () C0 hr (by decide +kernel) hlocks hS (Nat.le_refl _) (Nat.le_refl _) dX10_within_15 ⟨(by omega), ⟨by decide, by decide⟩⟩ (hP.sub (ws' := []) [] rfl) (hD.sub (ws' := []) [] (by decide +kernel) rfl)
  · skip
    have kc60000399 : p1.toInt ≤ p0.toInt := nlt_ti rfl rfl c60000399
    refine lv_iload_n hx hb dX10_within_5 rfl (lv_at hl 0 rfl) ?_
    refine lv_iload_n hx hb dX10_within_6 rfl (lv_at hl 2 rfl) ?_
    refine lv_icmp_gt (tgt := 14) hx hb dX10_within_7 (by decide) (fun c60000403 => ?_) (fun c60000403 => ?_)
    · skip
      have kc60000403 : p2.toInt < p0.toInt := lt_ti rfl rfl c60000403
      have rg60000404 := i32_rng p0
      have rg60000405 := i32_rng p2
      refine lv_iconst (v := 0) hx hb dX10_within_14 (by decide) ?_
      have hl60000406 : (0 : Int32).toInt = 0 := by decide
      exact r_zret () C0 hr (by decide +kernel) hlocks hS (Nat.le_refl _) (Nat.le_refl _) dX10_within_15 ⟨(by omega), ⟨by decide, by decide⟩⟩ (hP.sub (ws' := []) [] rfl) (hD.sub (ws' := []) [] (by decide +kernel) rfl)
    · skip
      have kc60000403 : p0.toInt ≤ p2.toInt := nlt_ti rfl rfl c60000403
      refine lv_iconst (v := 1) hx hb dX10_within_10 (by decide) ?_
      refine lv_goto (tgt := 15) hx hb dX10_within_11 (by decide) ?_
      have hl60000407 : (1 : Int32).toInt = 1 := by decide
      exact r_zret () C0 hr (by decide +kernel) hlocks hS (Nat.le_refl _) (Nat.le_refl _) dX10_within_15 ⟨(by omega), ⟨by decide, by decide⟩⟩ (hP.sub (ws' := []) [] rfl) (hD.sub (ws' := []) [] (by decide +kernel) rfl)
set_option maxHeartbeats 4000000 in
set_option maxRecDepth 100000 in
theorem k_X10_patch_60000426 (l : Launch) (D : va_G) (T : Nat → ClassId) (sq sv sz : Nat) (xb b_tape b_reader b_acts b_known b_odds b_draw b_pull b_peel a b_script b_spare : Nat) (w1 : va_W) (hw1 : B_X10 T xb b_tape b_reader b_acts b_known b_odds b_draw b_pull b_peel a b_script b_spare w1) (z : Nat → Nat) (i5 i6 i7 i8 i9 i10 i11 i12 i13 : Int32) (p1 : Int32) (p2 : Int32) (p3 : Int32) (g0 : Nat → Int32) (g1 : Nat → Int32) (g2 : Nat → Int32) (hi5 : 0 ≤ i5.toInt ∧ i5.toInt ≤ 12) (hbg0 : Bd (0) (99) g0) (hbg1 : Bd (0) (999) g1) (hbg2 : Bd (0) (999) g2) : Met l yX10_patch (.code yX10_patch cX10_patch 4 (some .int) :: TB) { frames := 1, cells := 0, slots := 0, locals := 23 } (PC2 D T sq sv [.ref xb, .int p1, .int p2, .int p3] (w1 ++ [(a, .inr (4, O4 z i5 i6 i7 i8 i9 i10 i11 i12 i13)), ((z 0), .inl (T 0, 12, .inl g0)), ((z 1), .inl (T 0, 12, .inl g1)), ((z 2), .inl (T 0, 12, .inl g2))]) sz) (Qi (S := Int32 × (Nat → Int32) × (Nat → Int32) × (Nat → Int32)) (fun (r : Int32) (u : Int32 × (Nat → Int32) × (Nat → Int32) × (Nat → Int32)) => match u with | (ui5, ug0, ug1, ug2) => (0 ≤ ui5.toInt ∧ ui5.toInt ≤ 12) ∧ Bd (0) (99) ug0 ∧ Bd (0) (999) ug1 ∧ Bd (0) (999) ug2 ∧ (PX1 i5 p1 p2 p3 g0 g1 g2 r ui5 ug0 ug1 ug2) ∧ (-1 ≤ r.toInt ∧ r.toInt ≤ 12)) (fun (u : Int32 × (Nat → Int32) × (Nat → Int32) × (Nat → Int32)) => match u with | (ui5, ug0, ug1, ug2) => w1 ++ [(a, .inr (4, O4 z ui5 i6 i7 i8 i9 i10 i11 i12 i13)), ((z 0), .inl (T 0, 12, .inl ug0)), ((z 1), .inl (T 0, 12, .inl ug1)), ((z 2), .inl (T 0, 12, .inl ug2))]) D (va_A (w1 ++ [(a, .inr (4, O4 z i5 i6 i7 i8 i9 i10 i11 i12 i13)), ((z 0), .inl (T 0, 12, .inl g0)), ((z 1), .inl (T 0, 12, .inl g1)), ((z 2), .inl (T 0, 12, .inl g2))]) sz)) 0 0 (va_A (w1 ++ [(a, .inr (4, O4 z i5 i6 i7 i8 i9 i10 i11 i12 i13)), ((z 0), .inl (T 0, 12, .inl g0)), ((z 1), .inl (T 0, 12, .inl g1)), ((z 2), .inl (T 0, 12, .inl g2))]) sz) := by
  obtain ⟨x60000427, x60000428, x60000429, x60000430, rfl, hx60000427, hx60000428⟩ := hw1
  refine ct_begin2 (Qc := Qi (S := Int32 × (Nat → Int32) × (Nat → Int32) × (Nat → Int32)) (fun (r : Int32) (u : Int32 × (Nat → Int32) × (Nat → Int32) × (Nat → Int32)) => match u with | (ui5, ug0, ug1, ug2) => (0 ≤ ui5.toInt ∧ ui5.toInt ≤ 12) ∧ Bd (0) (99) ug0 ∧ Bd (0) (999) ug1 ∧ Bd (0) (999) ug2 ∧ (PX1 i5 p1 p2 p3 g0 g1 g2 r ui5 ug0 ug1 ug2) ∧ (-1 ≤ r.toInt ∧ r.toInt ≤ 12)) (fun (u : Int32 × (Nat → Int32) × (Nat → Int32) × (Nat → Int32)) => match u with | (ui5, ug0, ug1, ug2) => [(xb, .inr (10, (.ref b_tape :: .ref b_reader :: .ref b_acts :: .ref b_known :: .ref b_odds :: .ref b_draw :: .ref b_pull :: .ref b_peel :: .ref a :: .ref b_script :: .ref b_spare :: .int x60000427 :: .int x60000428 :: .int x60000429 :: .int x60000430 :: []))), (a, .inr (4, O4 z ui5 i6 i7 i8 i9 i10 i11 i12 i13)), ((z 0), .inl (T 0, 12, .inl ug0)), ((z 1), .inl (T 0, 12, .inl ug1)), ((z 2), .inl (T 0, 12, .inl ug2))]) D) (by decide +kernel) (Nat.le_of_ble_eq_true rfl) ?_
  intro p e s m below meth c A ls C0 hr hlocks hnm hE hStr hA hP hD hl
  generalize ([.ref xb, .int p1, .int p2, .int p3] : List Value).toArray = args at C0 ⊢
  have hx := C0.1
  have hb := C0.2.1
  have hml := C0.2.2.1
  have hown := C0.2.2.2.1
  have hT := C0.2.2.2.2
  have hK := hE.1
  generalize hH : s.heap = H at hP ⊢
  have hS : va_S A s.heap H [] := by rw [← hH]; exact va_S.rf
  have hP : va_P D vwCl [(xb, .inr (10, (.ref b_tape :: .ref b_reader :: .ref b_acts :: .ref b_known :: .ref b_odds :: .ref b_draw :: .ref b_pull :: .ref b_peel :: .ref a :: .ref b_script :: .ref b_spare :: .int x60000427 :: .int x60000428 :: .int x60000429 :: .int x60000430 :: []))), (a, .inr (4, O4 z i5 i6 i7 i8 i9 i10 i11 i12 i13)), ((z 0), .inl (T 0, 12, .inl g0)), ((z 1), .inl (T 0, 12, .inl g1)), ((z 2), .inl (T 0, 12, .inl g2))] H := hP
  have hD : va_D A [(xb, .inr (10, (.ref b_tape :: .ref b_reader :: .ref b_acts :: .ref b_known :: .ref b_odds :: .ref b_draw :: .ref b_pull :: .ref b_peel :: .ref a :: .ref b_script :: .ref b_spare :: .int x60000427 :: .int x60000428 :: .int x60000429 :: .int x60000430 :: []))), (a, .inr (4, O4 z i5 i6 i7 i8 i9 i10 i11 i12 i13)), ((z 0), .inl (T 0, 12, .inl g0)), ((z 1), .inl (T 0, 12, .inl g1)), ((z 2), .inl (T 0, 12, .inl g2))] := hD
  have hl : lv_has ls 4 [(0, .ref xb), (1, .int p1), (2, .int p2), (3, .int p3)] := hl
  refine lv_iload_n hx hb dX10_patch_0 rfl (lv_at hl 1 rfl) ?_
  refine lv_iconst (v := 0) hx hb dX10_patch_1 (by decide) ?_
  refine lv_bipush (v := 99) hx hb dX10_patch_2 (by decide) ?_
  refine r_calli (wr := [(xb, .inr (10, (.ref b_tape :: .ref b_reader :: .ref b_acts :: .ref b_known :: .ref b_odds :: .ref b_draw :: .ref b_pull :: .ref b_peel :: .ref a :: .ref b_script :: .ref b_spare :: .int x60000427 :: .int x60000428 :: .int x60000429 :: .int x60000430 :: []))), (a, .inr (4, O4 z i5 i6 i7 i8 i9 i10 i11 i12 i13)), ((z 0), .inl (T 0, 12, .inl g0)), ((z 1), .inl (T 0, 12, .inl g1)), ((z 2), .inl (T 0, 12, .inl g2))]) (r_runS2 (As := [.int p1, .int 0, .int 99]) (rest := []) (wc := []) C0 hE hStr hS (va_free (wc := []) hD hS hA [] rfl) (k_X10_within_60000398 l D T sq sv H.size p1 0 99) mw_282 mw_283 mw_1 mw_284 dn_1700 rfl rfl ⟨Nat.le_of_ble_eq_true rfl, Nat.le_of_ble_eq_true rfl⟩ (hP.sub (ws' := []) [] rfl) (hD.sub (ws' := []) [] (by decide +kernel) rfl) hl.1 rfl (Nat.le_of_ble_eq_true rfl) dX10_patch_4 ⟨Nat.le_of_ble_eq_true rfl, Nat.le_of_ble_eq_true rfl⟩) hP hD hS hA [] [0, 1, 2, 3, 4] rfl rfl (by decide +kernel) (by decide +kernel) (fun x60000431 u H locs hq hP hD hS => ?_)
  obtain ⟨hp60000432, hx60000431⟩ := hq
  have hp60000432 : (x60000431.toInt = 0 ∧ (p1.toInt < 0 ∨ 99 < p1.toInt)) ∨ (x60000431.toInt = 1 ∧ 0 ≤ p1.toInt ∧ p1.toInt ≤ 99) := hp60000432
  have hx60000431 : 0 ≤ x60000431.toInt ∧ x60000431.toInt ≤ 1 := hx60000431
  have hl60000433 : (0 : Int32).toInt = 0 := by decide
  have hl60000434 : (99 : Int32).toInt = 99 := by decide
  have hP : va_P D vwCl [(xb, .inr (10, (.ref b_tape :: .ref b_reader :: .ref b_acts :: .ref b_known :: .ref b_odds :: .ref b_draw :: .ref b_pull :: .ref b_peel :: .ref a :: .ref b_script :: .ref b_spare :: .int x60000427 :: .int x60000428 :: .int x60000429 :: .int x60000430 :: []))), (a, .inr (4, O4 z i5 i6 i7 i8 i9 i10 i11 i12 i13)), ((z 0), .inl (T 0, 12, .inl g0)), ((z 1), .inl (T 0, 12, .inl g1)), ((z 2), .inl (T 0, 12, .inl g2))] H := hP
  have hD : va_D A [(xb, .inr (10, (.ref b_tape :: .ref b_reader :: .ref b_acts :: .ref b_known :: .ref b_odds :: .ref b_draw :: .ref b_pull :: .ref b_peel :: .ref a :: .ref b_script :: .ref b_spare :: .int x60000427 :: .int x60000428 :: .int x60000429 :: .int x60000430 :: []))), (a, .inr (4, O4 z i5 i6 i7 i8 i9 i10 i11 i12 i13)), ((z 0), .inl (T 0, 12, .inl g0)), ((z 1), .inl (T 0, 12, .inl g1)), ((z 2), .inl (T 0, 12, .inl g2))] := hD
  refine W.widen (k := 0) (n := 0) (Nat.le_refl _) (Nat.le_refl _) ?_
  refine lv_if_eq (tgt := 32) hx hb dX10_patch_7 (by decide) (fun c60000435 => ?_) (fun c60000435 => ?_)
  · skip
    have kc60000435 : x60000431.toInt = 0 := eq_ti rfl (by decide) c60000435
    refine lv_iconst (v := (-1)) hx hb dX10_patch_32 (by decide) ?_
    exact r_iret (i5, g0, g1, g2) C0 hr hlocks hS (Nat.le_refl _) (Nat.le_refl _) dX10_patch_33 ⟨⟨by omega, by omega⟩, hbg0, hbg1, hbg2, (Or.inr ⟨by omega, by decide, rfl, rfl, rfl, rfl⟩), ⟨by decide, by decide⟩⟩ (hP.sub (ws' := [(xb, .inr (10, (.ref b_tape :: .ref b_reader :: .ref b_acts :: .ref b_known :: .ref b_odds :: .ref b_draw :: .ref b_pull :: .ref b_peel :: .ref a :: .ref b_script :: .ref b_spare :: .int x60000427 :: .int x60000428 :: .int x60000429 :: .int x60000430 :: []))), (a, .inr (4, O4 z i5 i6 i7 i8 i9 i10 i11 i12 i13)), ((z 0), .inl (T 0, 12, .inl g0)), ((z 1), .inl (T 0, 12, .inl g1)), ((z 2), .inl (T 0, 12, .inl g2))]) [0, 1, 2, 3, 4] rfl) (hD.sub (ws' := [(xb, .inr (10, (.ref b_tape :: .ref b_reader :: .ref b_acts :: .ref b_known :: .ref b_odds :: .ref b_draw :: .ref b_pull :: .ref b_peel :: .ref a :: .ref b_script :: .ref b_spare :: .int x60000427 :: .int x60000428 :: .int x60000429 :: .int x60000430 :: []))), (a, .inr (4, O4 z i5 i6 i7 i8 i9 i10 i11 i12 i13)), ((z 0), .inl (T 0, 12, .inl g0)), ((z 1), .inl (T 0, 12, .inl g1)), ((z 2), .inl (T 0, 12, .inl g2))]) [0, 1, 2, 3, 4] (by decide +kernel) rfl)
  · skip
    have kc60000435 : x60000431.toInt ≠ 0 := ne_ti rfl (by decide) c60000435
    have nzx60000431 : ¬ x60000431 = 0 := c60000435
    refine lv_iload_n hx hb dX10_patch_10 rfl (lv_at hl 2 rfl) ?_
    refine lv_iconst (v := 1) hx hb dX10_patch_11 (by decide) ?_
    refine lv_sipush (v := 999) hx hb dX10_patch_12 (by decide) ?_
    refine r_calli (wr := [(xb, .inr (10, (.ref b_tape :: .ref b_reader :: .ref b_acts :: .ref b_known :: .ref b_odds :: .ref b_draw :: .ref b_pull :: .ref b_peel :: .ref a :: .ref b_script :: .ref b_spare :: .int x60000427 :: .int x60000428 :: .int x60000429 :: .int x60000430 :: []))), (a, .inr (4, O4 z i5 i6 i7 i8 i9 i10 i11 i12 i13)), ((z 0), .inl (T 0, 12, .inl g0)), ((z 1), .inl (T 0, 12, .inl g1)), ((z 2), .inl (T 0, 12, .inl g2))]) (r_runS2 (As := [.int p2, .int 1, .int 999]) (rest := []) (wc := []) C0 hE hStr hS (va_free (wc := []) hD hS hA [] rfl) (k_X10_within_60000398 l D T sq sv H.size p2 1 999) mw_282 mw_283 mw_1 mw_284 dn_1700 rfl rfl ⟨Nat.le_of_ble_eq_true rfl, Nat.le_of_ble_eq_true rfl⟩ (hP.sub (ws' := []) [] rfl) (hD.sub (ws' := []) [] (by decide +kernel) rfl) hl.1 rfl (Nat.le_of_ble_eq_true rfl) dX10_patch_15 ⟨Nat.le_of_ble_eq_true rfl, Nat.le_of_ble_eq_true rfl⟩) hP hD hS hA [] [0, 1, 2, 3, 4] rfl rfl (by decide +kernel) (by decide +kernel) (fun x60000436 u H locs hq hP hD hS => ?_)
    obtain ⟨hp60000437, hx60000436⟩ := hq
    have hp60000437 : (x60000436.toInt = 0 ∧ (p2.toInt < 1 ∨ 999 < p2.toInt)) ∨ (x60000436.toInt = 1 ∧ 1 ≤ p2.toInt ∧ p2.toInt ≤ 999) := hp60000437
    have hx60000436 : 0 ≤ x60000436.toInt ∧ x60000436.toInt ≤ 1 := hx60000436
    have hl60000438 : (1 : Int32).toInt = 1 := by decide
    have hl60000439 : (999 : Int32).toInt = 999 := by decide
    have hP : va_P D vwCl [(xb, .inr (10, (.ref b_tape :: .ref b_reader :: .ref b_acts :: .ref b_known :: .ref b_odds :: .ref b_draw :: .ref b_pull :: .ref b_peel :: .ref a :: .ref b_script :: .ref b_spare :: .int x60000427 :: .int x60000428 :: .int x60000429 :: .int x60000430 :: []))), (a, .inr (4, O4 z i5 i6 i7 i8 i9 i10 i11 i12 i13)), ((z 0), .inl (T 0, 12, .inl g0)), ((z 1), .inl (T 0, 12, .inl g1)), ((z 2), .inl (T 0, 12, .inl g2))] H := hP
    have hD : va_D A [(xb, .inr (10, (.ref b_tape :: .ref b_reader :: .ref b_acts :: .ref b_known :: .ref b_odds :: .ref b_draw :: .ref b_pull :: .ref b_peel :: .ref a :: .ref b_script :: .ref b_spare :: .int x60000427 :: .int x60000428 :: .int x60000429 :: .int x60000430 :: []))), (a, .inr (4, O4 z i5 i6 i7 i8 i9 i10 i11 i12 i13)), ((z 0), .inl (T 0, 12, .inl g0)), ((z 1), .inl (T 0, 12, .inl g1)), ((z 2), .inl (T 0, 12, .inl g2))] := hD
    refine W.widen (k := 0) (n := 0) (Nat.le_refl _) (Nat.le_refl _) ?_
    refine lv_if_eq (tgt := 32) hx hb dX10_patch_18 (by decide) (fun c60000440 => ?_) (fun c60000440 => ?_)
    · skip
      have kc60000440 : x60000436.toInt = 0 := eq_ti rfl (by decide) c60000440
      refine lv_iconst (v := (-1)) hx hb dX10_patch_32 (by decide) ?_
      exact r_iret (i5, g0, g1, g2) C0 hr hlocks hS (Nat.le_refl _) (Nat.le_refl _) dX10_patch_33 ⟨⟨by omega, by omega⟩, hbg0, hbg1, hbg2, (Or.inr ⟨by omega, by decide, rfl, rfl, rfl, rfl⟩), ⟨by decide, by decide⟩⟩ (hP.sub (ws' := [(xb, .inr (10, (.ref b_tape :: .ref b_reader :: .ref b_acts :: .ref b_known :: .ref b_odds :: .ref b_draw :: .ref b_pull :: .ref b_peel :: .ref a :: .ref b_script :: .ref b_spare :: .int x60000427 :: .int x60000428 :: .int x60000429 :: .int x60000430 :: []))), (a, .inr (4, O4 z i5 i6 i7 i8 i9 i10 i11 i12 i13)), ((z 0), .inl (T 0, 12, .inl g0)), ((z 1), .inl (T 0, 12, .inl g1)), ((z 2), .inl (T 0, 12, .inl g2))]) [0, 1, 2, 3, 4] rfl) (hD.sub (ws' := [(xb, .inr (10, (.ref b_tape :: .ref b_reader :: .ref b_acts :: .ref b_known :: .ref b_odds :: .ref b_draw :: .ref b_pull :: .ref b_peel :: .ref a :: .ref b_script :: .ref b_spare :: .int x60000427 :: .int x60000428 :: .int x60000429 :: .int x60000430 :: []))), (a, .inr (4, O4 z i5 i6 i7 i8 i9 i10 i11 i12 i13)), ((z 0), .inl (T 0, 12, .inl g0)), ((z 1), .inl (T 0, 12, .inl g1)), ((z 2), .inl (T 0, 12, .inl g2))]) [0, 1, 2, 3, 4] (by decide +kernel) rfl)
    · skip
      have kc60000440 : x60000436.toInt ≠ 0 := ne_ti rfl (by decide) c60000440
      have nzx60000436 : ¬ x60000436 = 0 := c60000440
      refine lv_iload_n hx hb dX10_patch_21 rfl (lv_at hl 3 rfl) ?_
      refine lv_iconst (v := 1) hx hb dX10_patch_22 (by decide) ?_
      refine lv_sipush (v := 999) hx hb dX10_patch_23 (by decide) ?_
      refine r_calli (wr := [(xb, .inr (10, (.ref b_tape :: .ref b_reader :: .ref b_acts :: .ref b_known :: .ref b_odds :: .ref b_draw :: .ref b_pull :: .ref b_peel :: .ref a :: .ref b_script :: .ref b_spare :: .int x60000427 :: .int x60000428 :: .int x60000429 :: .int x60000430 :: []))), (a, .inr (4, O4 z i5 i6 i7 i8 i9 i10 i11 i12 i13)), ((z 0), .inl (T 0, 12, .inl g0)), ((z 1), .inl (T 0, 12, .inl g1)), ((z 2), .inl (T 0, 12, .inl g2))]) (r_runS2 (As := [.int p3, .int 1, .int 999]) (rest := []) (wc := []) C0 hE hStr hS (va_free (wc := []) hD hS hA [] rfl) (k_X10_within_60000398 l D T sq sv H.size p3 1 999) mw_282 mw_283 mw_1 mw_284 dn_1700 rfl rfl ⟨Nat.le_of_ble_eq_true rfl, Nat.le_of_ble_eq_true rfl⟩ (hP.sub (ws' := []) [] rfl) (hD.sub (ws' := []) [] (by decide +kernel) rfl) hl.1 rfl (Nat.le_of_ble_eq_true rfl) dX10_patch_26 ⟨Nat.le_of_ble_eq_true rfl, Nat.le_of_ble_eq_true rfl⟩) hP hD hS hA [] [0, 1, 2, 3, 4] rfl rfl (by decide +kernel) (by decide +kernel) (fun x60000441 u H locs hq hP hD hS => ?_)
      obtain ⟨hp60000442, hx60000441⟩ := hq
      have hp60000442 : (x60000441.toInt = 0 ∧ (p3.toInt < 1 ∨ 999 < p3.toInt)) ∨ (x60000441.toInt = 1 ∧ 1 ≤ p3.toInt ∧ p3.toInt ≤ 999) := hp60000442
      have hx60000441 : 0 ≤ x60000441.toInt ∧ x60000441.toInt ≤ 1 := hx60000441
      have hl60000443 : (1 : Int32).toInt = 1 := by decide
      have hl60000444 : (999 : Int32).toInt = 999 := by decide
      have hP : va_P D vwCl [(xb, .inr (10, (.ref b_tape :: .ref b_reader :: .ref b_acts :: .ref b_known :: .ref b_odds :: .ref b_draw :: .ref b_pull :: .ref b_peel :: .ref a :: .ref b_script :: .ref b_spare :: .int x60000427 :: .int x60000428 :: .int x60000429 :: .int x60000430 :: []))), (a, .inr (4, O4 z i5 i6 i7 i8 i9 i10 i11 i12 i13)), ((z 0), .inl (T 0, 12, .inl g0)), ((z 1), .inl (T 0, 12, .inl g1)), ((z 2), .inl (T 0, 12, .inl g2))] H := hP
      have hD : va_D A [(xb, .inr (10, (.ref b_tape :: .ref b_reader :: .ref b_acts :: .ref b_known :: .ref b_odds :: .ref b_draw :: .ref b_pull :: .ref b_peel :: .ref a :: .ref b_script :: .ref b_spare :: .int x60000427 :: .int x60000428 :: .int x60000429 :: .int x60000430 :: []))), (a, .inr (4, O4 z i5 i6 i7 i8 i9 i10 i11 i12 i13)), ((z 0), .inl (T 0, 12, .inl g0)), ((z 1), .inl (T 0, 12, .inl g1)), ((z 2), .inl (T 0, 12, .inl g2))] := hD
      refine W.widen (k := 0) (n := 0) (Nat.le_refl _) (Nat.le_refl _) ?_
      refine lv_if_ne (tgt := 34) hx hb dX10_patch_29 (by decide) (fun c60000445 => ?_) (fun c60000445 => ?_)
      · skip
        have kc60000445 : x60000441.toInt ≠ 0 := ne_ti rfl (by decide) c60000445
        have nzx60000441 : ¬ x60000441 = 0 := c60000445
        refine lv_aload_n hx hb dX10_patch_34 rfl (lv_at hl 0 rfl) ?_
        refine r_get (v := .ref a) C0 hE ffX10_8 mw_259 hP 0 rfl rfl dX10_patch_35 ?_
        refine lv_iload_n hx hb dX10_patch_38 rfl (lv_at hl 1 rfl) ?_
        refine lv_iload_n hx hb dX10_patch_39 rfl (lv_at hl 2 rfl) ?_
        refine lv_iload_n hx hb dX10_patch_40 rfl (lv_at hl 3 rfl) ?_
        refine r_calli (wr := [(xb, .inr (10, (.ref b_tape :: .ref b_reader :: .ref b_acts :: .ref b_known :: .ref b_odds :: .ref b_draw :: .ref b_pull :: .ref b_peel :: .ref a :: .ref b_script :: .ref b_spare :: .int x60000427 :: .int x60000428 :: .int x60000429 :: .int x60000430 :: [])))]) (r_runV2 (As := [.int p1, .int p2, .int p3]) (rest := []) (wc := [(a, .inr (4, O4 z i5 i6 i7 i8 i9 i10 i11 i12 i13)), ((z 0), .inl (T 0, 12, .inl g0)), ((z 1), .inl (T 0, 12, .inl g1)), ((z 2), .inl (T 0, 12, .inl g2))]) (ci := 4) C0 hE hStr hS (va_free (wc := [(a, .inr (4, O4 z i5 i6 i7 i8 i9 i10 i11 i12 i13)), ((z 0), .inl (T 0, 12, .inl g0)), ((z 1), .inl (T 0, 12, .inl g1)), ((z 2), .inl (T 0, 12, .inl g2))]) hD hS hA [1, 2, 3, 4] rfl) (k_X4_addPatch_60000009 l D T sq sv H.size a z i5 i6 i7 i8 i9 i10 i11 i12 i13 p1 p2 p3 g0 g1 g2 ⟨by omega, by omega⟩ ⟨by omega, by omega⟩ ⟨by omega, by omega⟩ ⟨by omega, by omega⟩ hbg0 hbg1 hbg2) mw_719 mw_720 mw_721 mw_9 mw_722 dn_1598 rfl rfl ⟨Nat.le_of_ble_eq_true rfl, Nat.le_of_ble_eq_true rfl⟩ (hP.sub (ws' := [(a, .inr (4, O4 z i5 i6 i7 i8 i9 i10 i11 i12 i13)), ((z 0), .inl (T 0, 12, .inl g0)), ((z 1), .inl (T 0, 12, .inl g1)), ((z 2), .inl (T 0, 12, .inl g2))]) [1, 2, 3, 4] rfl) (hD.sub (ws' := [(a, .inr (4, O4 z i5 i6 i7 i8 i9 i10 i11 i12 i13)), ((z 0), .inl (T 0, 12, .inl g0)), ((z 1), .inl (T 0, 12, .inl g1)), ((z 2), .inl (T 0, 12, .inl g2))]) [1, 2, 3, 4] (by decide +kernel) rfl) rfl rfl rfl hl.1 rfl (Nat.le_of_ble_eq_true rfl) dX10_patch_41 ⟨Nat.le_of_ble_eq_true rfl, Nat.le_of_ble_eq_true rfl⟩) hP hD hS hA [1, 2, 3, 4] [0] rfl rfl (by decide +kernel) (by decide +kernel) (fun x60000446 u H locs hq hP hD hS => ?_)
        obtain ⟨x60000447, f60000448, f60000449, f60000450⟩ := u
        obtain ⟨hx60000447, hb60000451, hb60000452, hb60000453, hg60000454, hx60000446⟩ := hq
        have hx60000447 : 0 ≤ x60000447.toInt ∧ x60000447.toInt ≤ 12 := hx60000447
        have hb60000451 : Bd (0) (99) f60000448 := hb60000451
        have hb60000452 : Bd (0) (999) f60000449 := hb60000452
        have hb60000453 : Bd (0) (999) f60000450 := hb60000453
        have hg60000454 : PT1 i5 p1 p2 p3 g0 g1 g2 x60000446 x60000447 f60000448 f60000449 f60000450 := hg60000454
        have hx60000446 : -1 ≤ x60000446.toInt ∧ x60000446.toInt ≤ 12 := hx60000446
        have hP : va_P D vwCl [(xb, .inr (10, (.ref b_tape :: .ref b_reader :: .ref b_acts :: .ref b_known :: .ref b_odds :: .ref b_draw :: .ref b_pull :: .ref b_peel :: .ref a :: .ref b_script :: .ref b_spare :: .int x60000427 :: .int x60000428 :: .int x60000429 :: .int x60000430 :: []))), (a, .inr (4, O4 z x60000447 i6 i7 i8 i9 i10 i11 i12 i13)), ((z 0), .inl (T 0, 12, .inl f60000448)), ((z 1), .inl (T 0, 12, .inl f60000449)), ((z 2), .inl (T 0, 12, .inl f60000450))] H := hP
        have hD : va_D A [(xb, .inr (10, (.ref b_tape :: .ref b_reader :: .ref b_acts :: .ref b_known :: .ref b_odds :: .ref b_draw :: .ref b_pull :: .ref b_peel :: .ref a :: .ref b_script :: .ref b_spare :: .int x60000427 :: .int x60000428 :: .int x60000429 :: .int x60000430 :: []))), (a, .inr (4, O4 z x60000447 i6 i7 i8 i9 i10 i11 i12 i13)), ((z 0), .inl (T 0, 12, .inl f60000448)), ((z 1), .inl (T 0, 12, .inl f60000449)), ((z 2), .inl (T 0, 12, .inl f60000450))] := hD
        refine W.widen (k := 0) (n := 0) (Nat.le_refl _) (Nat.le_refl _) ?_
        exact r_iret (x60000447, f60000448, f60000449, f60000450) C0 hr hlocks hS (Nat.le_refl _) (Nat.le_refl _) dX10_patch_44 ⟨⟨by omega, by omega⟩, hb60000451, hb60000452, hb60000453, (Or.inl ⟨by omega, hg60000454⟩), ⟨by omega, by omega⟩⟩ (hP.sub (ws' := [(xb, .inr (10, (.ref b_tape :: .ref b_reader :: .ref b_acts :: .ref b_known :: .ref b_odds :: .ref b_draw :: .ref b_pull :: .ref b_peel :: .ref a :: .ref b_script :: .ref b_spare :: .int x60000427 :: .int x60000428 :: .int x60000429 :: .int x60000430 :: []))), (a, .inr (4, O4 z x60000447 i6 i7 i8 i9 i10 i11 i12 i13)), ((z 0), .inl (T 0, 12, .inl f60000448)), ((z 1), .inl (T 0, 12, .inl f60000449)), ((z 2), .inl (T 0, 12, .inl f60000450))]) [0, 1, 2, 3, 4] rfl) (hD.sub (ws' := [(xb, .inr (10, (.ref b_tape :: .ref b_reader :: .ref b_acts :: .ref b_known :: .ref b_odds :: .ref b_draw :: .ref b_pull :: .ref b_peel :: .ref a :: .ref b_script :: .ref b_spare :: .int x60000427 :: .int x60000428 :: .int x60000429 :: .int x60000430 :: []))), (a, .inr (4, O4 z x60000447 i6 i7 i8 i9 i10 i11 i12 i13)), ((z 0), .inl (T 0, 12, .inl f60000448)), ((z 1), .inl (T 0, 12, .inl f60000449)), ((z 2), .inl (T 0, 12, .inl f60000450))]) [0, 1, 2, 3, 4] (by decide +kernel) rfl)
      · skip
        have kc60000445 : x60000441.toInt = 0 := eq_ti rfl (by decide) c60000445
        refine lv_iconst (v := (-1)) hx hb dX10_patch_32 (by decide) ?_
        exact r_iret (i5, g0, g1, g2) C0 hr hlocks hS (Nat.le_refl _) (Nat.le_refl _) dX10_patch_33 ⟨⟨by omega, by omega⟩, hbg0, hbg1, hbg2, (Or.inr ⟨by omega, by decide, rfl, rfl, rfl, rfl⟩), ⟨by decide, by decide⟩⟩ (hP.sub (ws' := [(xb, .inr (10, (.ref b_tape :: .ref b_reader :: .ref b_acts :: .ref b_known :: .ref b_odds :: .ref b_draw :: .ref b_pull :: .ref b_peel :: .ref a :: .ref b_script :: .ref b_spare :: .int x60000427 :: .int x60000428 :: .int x60000429 :: .int x60000430 :: []))), (a, .inr (4, O4 z i5 i6 i7 i8 i9 i10 i11 i12 i13)), ((z 0), .inl (T 0, 12, .inl g0)), ((z 1), .inl (T 0, 12, .inl g1)), ((z 2), .inl (T 0, 12, .inl g2))]) [0, 1, 2, 3, 4] rfl) (hD.sub (ws' := [(xb, .inr (10, (.ref b_tape :: .ref b_reader :: .ref b_acts :: .ref b_known :: .ref b_odds :: .ref b_draw :: .ref b_pull :: .ref b_peel :: .ref a :: .ref b_script :: .ref b_spare :: .int x60000427 :: .int x60000428 :: .int x60000429 :: .int x60000430 :: []))), (a, .inr (4, O4 z i5 i6 i7 i8 i9 i10 i11 i12 i13)), ((z 0), .inl (T 0, 12, .inl g0)), ((z 1), .inl (T 0, 12, .inl g1)), ((z 2), .inl (T 0, 12, .inl g2))]) [0, 1, 2, 3, 4] (by decide +kernel) rfl)
set_option maxHeartbeats 4000000 in
set_option maxRecDepth 100000 in
theorem k_X10_force_60000472 (l : Launch) (D : va_G) (T : Nat → ClassId) (sq sv sz : Nat) (xb b_tape b_reader b_acts b_known b_odds b_draw b_pull b_peel a b_script b_spare : Nat) (w1 : va_W) (hw1 : B_X10 T xb b_tape b_reader b_acts b_known b_odds b_draw b_pull b_peel a b_script b_spare w1) (z : Nat → Nat) (i5 i6 i7 i8 i9 i10 i11 i12 i13 : Int32) (p1 : Int32) (p2 : Int32) (g3 : Nat → Int32) (g4 : Nat → Int32) (hi6 : 0 ≤ i6.toInt ∧ i6.toInt ≤ 8) (hbg3 : Bd (0) (99) g3) (hbg4 : Bd (0) (9999) g4) : Met l yX10_force (.code yX10_force cX10_force 3 (some .int) :: TB) { frames := 1, cells := 0, slots := 0, locals := 22 } (PC2 D T sq sv [.ref xb, .int p1, .int p2] (w1 ++ [(a, .inr (4, O4 z i5 i6 i7 i8 i9 i10 i11 i12 i13)), ((z 3), .inl (T 0, 8, .inl g3)), ((z 4), .inl (T 0, 8, .inl g4))]) sz) (Qi (S := Int32 × (Nat → Int32) × (Nat → Int32)) (fun (r : Int32) (u : Int32 × (Nat → Int32) × (Nat → Int32)) => match u with | (ui6, ug3, ug4) => (0 ≤ ui6.toInt ∧ ui6.toInt ≤ 8) ∧ Bd (0) (99) ug3 ∧ Bd (0) (9999) ug4 ∧ (PX2 i6 p1 p2 g3 g4 r ui6 ug3 ug4) ∧ (-1 ≤ r.toInt ∧ r.toInt ≤ 8)) (fun (u : Int32 × (Nat → Int32) × (Nat → Int32)) => match u with | (ui6, ug3, ug4) => w1 ++ [(a, .inr (4, O4 z i5 ui6 i7 i8 i9 i10 i11 i12 i13)), ((z 3), .inl (T 0, 8, .inl ug3)), ((z 4), .inl (T 0, 8, .inl ug4))]) D (va_A (w1 ++ [(a, .inr (4, O4 z i5 i6 i7 i8 i9 i10 i11 i12 i13)), ((z 3), .inl (T 0, 8, .inl g3)), ((z 4), .inl (T 0, 8, .inl g4))]) sz)) 0 0 (va_A (w1 ++ [(a, .inr (4, O4 z i5 i6 i7 i8 i9 i10 i11 i12 i13)), ((z 3), .inl (T 0, 8, .inl g3)), ((z 4), .inl (T 0, 8, .inl g4))]) sz) := by
  obtain ⟨x60000473, x60000474, x60000475, x60000476, rfl, hx60000473, hx60000474⟩ := hw1
  refine ct_begin2 (Qc := Qi (S := Int32 × (Nat → Int32) × (Nat → Int32)) (fun (r : Int32) (u : Int32 × (Nat → Int32) × (Nat → Int32)) => match u with | (ui6, ug3, ug4) => (0 ≤ ui6.toInt ∧ ui6.toInt ≤ 8) ∧ Bd (0) (99) ug3 ∧ Bd (0) (9999) ug4 ∧ (PX2 i6 p1 p2 g3 g4 r ui6 ug3 ug4) ∧ (-1 ≤ r.toInt ∧ r.toInt ≤ 8)) (fun (u : Int32 × (Nat → Int32) × (Nat → Int32)) => match u with | (ui6, ug3, ug4) => [(xb, .inr (10, (.ref b_tape :: .ref b_reader :: .ref b_acts :: .ref b_known :: .ref b_odds :: .ref b_draw :: .ref b_pull :: .ref b_peel :: .ref a :: .ref b_script :: .ref b_spare :: .int x60000473 :: .int x60000474 :: .int x60000475 :: .int x60000476 :: []))), (a, .inr (4, O4 z i5 ui6 i7 i8 i9 i10 i11 i12 i13)), ((z 3), .inl (T 0, 8, .inl ug3)), ((z 4), .inl (T 0, 8, .inl ug4))]) D) (by decide +kernel) (Nat.le_of_ble_eq_true rfl) ?_
  intro p e s m below meth c A ls C0 hr hlocks hnm hE hStr hA hP hD hl
  generalize ([.ref xb, .int p1, .int p2] : List Value).toArray = args at C0 ⊢
  have hx := C0.1
  have hb := C0.2.1
  have hml := C0.2.2.1
  have hown := C0.2.2.2.1
  have hT := C0.2.2.2.2
  have hK := hE.1
  generalize hH : s.heap = H at hP ⊢
  have hS : va_S A s.heap H [] := by rw [← hH]; exact va_S.rf
  have hP : va_P D vwCl [(xb, .inr (10, (.ref b_tape :: .ref b_reader :: .ref b_acts :: .ref b_known :: .ref b_odds :: .ref b_draw :: .ref b_pull :: .ref b_peel :: .ref a :: .ref b_script :: .ref b_spare :: .int x60000473 :: .int x60000474 :: .int x60000475 :: .int x60000476 :: []))), (a, .inr (4, O4 z i5 i6 i7 i8 i9 i10 i11 i12 i13)), ((z 3), .inl (T 0, 8, .inl g3)), ((z 4), .inl (T 0, 8, .inl g4))] H := hP
  have hD : va_D A [(xb, .inr (10, (.ref b_tape :: .ref b_reader :: .ref b_acts :: .ref b_known :: .ref b_odds :: .ref b_draw :: .ref b_pull :: .ref b_peel :: .ref a :: .ref b_script :: .ref b_spare :: .int x60000473 :: .int x60000474 :: .int x60000475 :: .int x60000476 :: []))), (a, .inr (4, O4 z i5 i6 i7 i8 i9 i10 i11 i12 i13)), ((z 3), .inl (T 0, 8, .inl g3)), ((z 4), .inl (T 0, 8, .inl g4))] := hD
  have hl : lv_has ls 3 [(0, .ref xb), (1, .int p1), (2, .int p2)] := hl
  refine lv_iload_n hx hb dX10_force_0 rfl (lv_at hl 1 rfl) ?_
  refine lv_iconst (v := 0) hx hb dX10_force_1 (by decide) ?_
  refine lv_bipush (v := 99) hx hb dX10_force_2 (by decide) ?_
  refine r_calli (wr := [(xb, .inr (10, (.ref b_tape :: .ref b_reader :: .ref b_acts :: .ref b_known :: .ref b_odds :: .ref b_draw :: .ref b_pull :: .ref b_peel :: .ref a :: .ref b_script :: .ref b_spare :: .int x60000473 :: .int x60000474 :: .int x60000475 :: .int x60000476 :: []))), (a, .inr (4, O4 z i5 i6 i7 i8 i9 i10 i11 i12 i13)), ((z 3), .inl (T 0, 8, .inl g3)), ((z 4), .inl (T 0, 8, .inl g4))]) (r_runS2 (As := [.int p1, .int 0, .int 99]) (rest := []) (wc := []) C0 hE hStr hS (va_free (wc := []) hD hS hA [] rfl) (k_X10_within_60000398 l D T sq sv H.size p1 0 99) mw_282 mw_283 mw_1 mw_284 dn_1700 rfl rfl ⟨Nat.le_of_ble_eq_true rfl, Nat.le_of_ble_eq_true rfl⟩ (hP.sub (ws' := []) [] rfl) (hD.sub (ws' := []) [] (by decide +kernel) rfl) hl.1 rfl (Nat.le_of_ble_eq_true rfl) dX10_force_4 ⟨Nat.le_of_ble_eq_true rfl, Nat.le_of_ble_eq_true rfl⟩) hP hD hS hA [] [0, 1, 2, 3] rfl rfl (by decide +kernel) (by decide +kernel) (fun x60000477 u H locs hq hP hD hS => ?_)
  obtain ⟨hp60000478, hx60000477⟩ := hq
  have hp60000478 : (x60000477.toInt = 0 ∧ (p1.toInt < 0 ∨ 99 < p1.toInt)) ∨ (x60000477.toInt = 1 ∧ 0 ≤ p1.toInt ∧ p1.toInt ≤ 99) := hp60000478
  have hx60000477 : 0 ≤ x60000477.toInt ∧ x60000477.toInt ≤ 1 := hx60000477
  have hl60000479 : (0 : Int32).toInt = 0 := by decide
  have hl60000480 : (99 : Int32).toInt = 99 := by decide
  have hP : va_P D vwCl [(xb, .inr (10, (.ref b_tape :: .ref b_reader :: .ref b_acts :: .ref b_known :: .ref b_odds :: .ref b_draw :: .ref b_pull :: .ref b_peel :: .ref a :: .ref b_script :: .ref b_spare :: .int x60000473 :: .int x60000474 :: .int x60000475 :: .int x60000476 :: []))), (a, .inr (4, O4 z i5 i6 i7 i8 i9 i10 i11 i12 i13)), ((z 3), .inl (T 0, 8, .inl g3)), ((z 4), .inl (T 0, 8, .inl g4))] H := hP
  have hD : va_D A [(xb, .inr (10, (.ref b_tape :: .ref b_reader :: .ref b_acts :: .ref b_known :: .ref b_odds :: .ref b_draw :: .ref b_pull :: .ref b_peel :: .ref a :: .ref b_script :: .ref b_spare :: .int x60000473 :: .int x60000474 :: .int x60000475 :: .int x60000476 :: []))), (a, .inr (4, O4 z i5 i6 i7 i8 i9 i10 i11 i12 i13)), ((z 3), .inl (T 0, 8, .inl g3)), ((z 4), .inl (T 0, 8, .inl g4))] := hD
  refine W.widen (k := 0) (n := 0) (Nat.le_refl _) (Nat.le_refl _) ?_
  refine lv_if_eq (tgt := 21) hx hb dX10_force_7 (by decide) (fun c60000481 => ?_) (fun c60000481 => ?_)
  · skip
    have kc60000481 : x60000477.toInt = 0 := eq_ti rfl (by decide) c60000481
    refine lv_iconst (v := (-1)) hx hb dX10_force_21 (by decide) ?_
    exact r_iret (i6, g3, g4) C0 hr hlocks hS (Nat.le_refl _) (Nat.le_refl _) dX10_force_22 ⟨⟨by omega, by omega⟩, hbg3, hbg4, (Or.inr ⟨by omega, by decide, rfl, rfl, rfl⟩), ⟨by decide, by decide⟩⟩ (hP.sub (ws' := [(xb, .inr (10, (.ref b_tape :: .ref b_reader :: .ref b_acts :: .ref b_known :: .ref b_odds :: .ref b_draw :: .ref b_pull :: .ref b_peel :: .ref a :: .ref b_script :: .ref b_spare :: .int x60000473 :: .int x60000474 :: .int x60000475 :: .int x60000476 :: []))), (a, .inr (4, O4 z i5 i6 i7 i8 i9 i10 i11 i12 i13)), ((z 3), .inl (T 0, 8, .inl g3)), ((z 4), .inl (T 0, 8, .inl g4))]) [0, 1, 2, 3] rfl) (hD.sub (ws' := [(xb, .inr (10, (.ref b_tape :: .ref b_reader :: .ref b_acts :: .ref b_known :: .ref b_odds :: .ref b_draw :: .ref b_pull :: .ref b_peel :: .ref a :: .ref b_script :: .ref b_spare :: .int x60000473 :: .int x60000474 :: .int x60000475 :: .int x60000476 :: []))), (a, .inr (4, O4 z i5 i6 i7 i8 i9 i10 i11 i12 i13)), ((z 3), .inl (T 0, 8, .inl g3)), ((z 4), .inl (T 0, 8, .inl g4))]) [0, 1, 2, 3] (by decide +kernel) rfl)
  · skip
    have kc60000481 : x60000477.toInt ≠ 0 := ne_ti rfl (by decide) c60000481
    have nzx60000477 : ¬ x60000477 = 0 := c60000481
    refine lv_iload_n hx hb dX10_force_10 rfl (lv_at hl 2 rfl) ?_
    refine lv_iconst (v := 1) hx hb dX10_force_11 (by decide) ?_
    refine lv_sipush (v := 9999) hx hb dX10_force_12 (by decide) ?_
    refine r_calli (wr := [(xb, .inr (10, (.ref b_tape :: .ref b_reader :: .ref b_acts :: .ref b_known :: .ref b_odds :: .ref b_draw :: .ref b_pull :: .ref b_peel :: .ref a :: .ref b_script :: .ref b_spare :: .int x60000473 :: .int x60000474 :: .int x60000475 :: .int x60000476 :: []))), (a, .inr (4, O4 z i5 i6 i7 i8 i9 i10 i11 i12 i13)), ((z 3), .inl (T 0, 8, .inl g3)), ((z 4), .inl (T 0, 8, .inl g4))]) (r_runS2 (As := [.int p2, .int 1, .int 9999]) (rest := []) (wc := []) C0 hE hStr hS (va_free (wc := []) hD hS hA [] rfl) (k_X10_within_60000398 l D T sq sv H.size p2 1 9999) mw_282 mw_283 mw_1 mw_284 dn_1700 rfl rfl ⟨Nat.le_of_ble_eq_true rfl, Nat.le_of_ble_eq_true rfl⟩ (hP.sub (ws' := []) [] rfl) (hD.sub (ws' := []) [] (by decide +kernel) rfl) hl.1 rfl (Nat.le_of_ble_eq_true rfl) dX10_force_15 ⟨Nat.le_of_ble_eq_true rfl, Nat.le_of_ble_eq_true rfl⟩) hP hD hS hA [] [0, 1, 2, 3] rfl rfl (by decide +kernel) (by decide +kernel) (fun x60000482 u H locs hq hP hD hS => ?_)
    obtain ⟨hp60000483, hx60000482⟩ := hq
    have hp60000483 : (x60000482.toInt = 0 ∧ (p2.toInt < 1 ∨ 9999 < p2.toInt)) ∨ (x60000482.toInt = 1 ∧ 1 ≤ p2.toInt ∧ p2.toInt ≤ 9999) := hp60000483
    have hx60000482 : 0 ≤ x60000482.toInt ∧ x60000482.toInt ≤ 1 := hx60000482
    have hl60000484 : (1 : Int32).toInt = 1 := by decide
    have hl60000485 : (9999 : Int32).toInt = 9999 := by decide
    have hP : va_P D vwCl [(xb, .inr (10, (.ref b_tape :: .ref b_reader :: .ref b_acts :: .ref b_known :: .ref b_odds :: .ref b_draw :: .ref b_pull :: .ref b_peel :: .ref a :: .ref b_script :: .ref b_spare :: .int x60000473 :: .int x60000474 :: .int x60000475 :: .int x60000476 :: []))), (a, .inr (4, O4 z i5 i6 i7 i8 i9 i10 i11 i12 i13)), ((z 3), .inl (T 0, 8, .inl g3)), ((z 4), .inl (T 0, 8, .inl g4))] H := hP
    have hD : va_D A [(xb, .inr (10, (.ref b_tape :: .ref b_reader :: .ref b_acts :: .ref b_known :: .ref b_odds :: .ref b_draw :: .ref b_pull :: .ref b_peel :: .ref a :: .ref b_script :: .ref b_spare :: .int x60000473 :: .int x60000474 :: .int x60000475 :: .int x60000476 :: []))), (a, .inr (4, O4 z i5 i6 i7 i8 i9 i10 i11 i12 i13)), ((z 3), .inl (T 0, 8, .inl g3)), ((z 4), .inl (T 0, 8, .inl g4))] := hD
    refine W.widen (k := 0) (n := 0) (Nat.le_refl _) (Nat.le_refl _) ?_
    refine lv_if_ne (tgt := 23) hx hb dX10_force_18 (by decide) (fun c60000486 => ?_) (fun c60000486 => ?_)
    · skip
      have kc60000486 : x60000482.toInt ≠ 0 := ne_ti rfl (by decide) c60000486
      have nzx60000482 : ¬ x60000482 = 0 := c60000486
      refine lv_aload_n hx hb dX10_force_23 rfl (lv_at hl 0 rfl) ?_
      refine r_get (v := .ref a) C0 hE ffX10_8 mw_259 hP 0 rfl rfl dX10_force_24 ?_
      refine lv_iload_n hx hb dX10_force_27 rfl (lv_at hl 1 rfl) ?_
      refine lv_iload_n hx hb dX10_force_28 rfl (lv_at hl 2 rfl) ?_
      refine r_calli (wr := [(xb, .inr (10, (.ref b_tape :: .ref b_reader :: .ref b_acts :: .ref b_known :: .ref b_odds :: .ref b_draw :: .ref b_pull :: .ref b_peel :: .ref a :: .ref b_script :: .ref b_spare :: .int x60000473 :: .int x60000474 :: .int x60000475 :: .int x60000476 :: [])))]) (r_runV2 (As := [.int p1, .int p2]) (rest := []) (wc := [(a, .inr (4, O4 z i5 i6 i7 i8 i9 i10 i11 i12 i13)), ((z 3), .inl (T 0, 8, .inl g3)), ((z 4), .inl (T 0, 8, .inl g4))]) (ci := 4) C0 hE hStr hS (va_free (wc := [(a, .inr (4, O4 z i5 i6 i7 i8 i9 i10 i11 i12 i13)), ((z 3), .inl (T 0, 8, .inl g3)), ((z 4), .inl (T 0, 8, .inl g4))]) hD hS hA [1, 2, 3] rfl) (k_X4_addPull_60000024 l D T sq sv H.size a z i5 i6 i7 i8 i9 i10 i11 i12 i13 p1 p2 g3 g4 ⟨by omega, by omega⟩ ⟨by omega, by omega⟩ ⟨by omega, by omega⟩ hbg3 hbg4) mw_727 mw_728 mw_729 mw_9 mw_730 dn_1599 rfl rfl ⟨Nat.le_of_ble_eq_true rfl, Nat.le_of_ble_eq_true rfl⟩ (hP.sub (ws' := [(a, .inr (4, O4 z i5 i6 i7 i8 i9 i10 i11 i12 i13)), ((z 3), .inl (T 0, 8, .inl g3)), ((z 4), .inl (T 0, 8, .inl g4))]) [1, 2, 3] rfl) (hD.sub (ws' := [(a, .inr (4, O4 z i5 i6 i7 i8 i9 i10 i11 i12 i13)), ((z 3), .inl (T 0, 8, .inl g3)), ((z 4), .inl (T 0, 8, .inl g4))]) [1, 2, 3] (by decide +kernel) rfl) rfl rfl rfl hl.1 rfl (Nat.le_of_ble_eq_true rfl) dX10_force_29 ⟨Nat.le_of_ble_eq_true rfl, Nat.le_of_ble_eq_true rfl⟩) hP hD hS hA [1, 2, 3] [0] rfl rfl (by decide +kernel) (by decide +kernel) (fun x60000487 u H locs hq hP hD hS => ?_)
      obtain ⟨x60000488, f60000489, f60000490⟩ := u
      obtain ⟨hx60000488, hb60000491, hb60000492, hg60000493, hx60000487⟩ := hq
      have hx60000488 : 0 ≤ x60000488.toInt ∧ x60000488.toInt ≤ 8 := hx60000488
      have hb60000491 : Bd (0) (99) f60000489 := hb60000491
      have hb60000492 : Bd (0) (9999) f60000490 := hb60000492
      have hg60000493 : PT2 i6 p1 p2 g3 g4 x60000487 x60000488 f60000489 f60000490 := hg60000493
      have hx60000487 : -1 ≤ x60000487.toInt ∧ x60000487.toInt ≤ 8 := hx60000487
      have hP : va_P D vwCl [(xb, .inr (10, (.ref b_tape :: .ref b_reader :: .ref b_acts :: .ref b_known :: .ref b_odds :: .ref b_draw :: .ref b_pull :: .ref b_peel :: .ref a :: .ref b_script :: .ref b_spare :: .int x60000473 :: .int x60000474 :: .int x60000475 :: .int x60000476 :: []))), (a, .inr (4, O4 z i5 x60000488 i7 i8 i9 i10 i11 i12 i13)), ((z 3), .inl (T 0, 8, .inl f60000489)), ((z 4), .inl (T 0, 8, .inl f60000490))] H := hP
      have hD : va_D A [(xb, .inr (10, (.ref b_tape :: .ref b_reader :: .ref b_acts :: .ref b_known :: .ref b_odds :: .ref b_draw :: .ref b_pull :: .ref b_peel :: .ref a :: .ref b_script :: .ref b_spare :: .int x60000473 :: .int x60000474 :: .int x60000475 :: .int x60000476 :: []))), (a, .inr (4, O4 z i5 x60000488 i7 i8 i9 i10 i11 i12 i13)), ((z 3), .inl (T 0, 8, .inl f60000489)), ((z 4), .inl (T 0, 8, .inl f60000490))] := hD
      refine W.widen (k := 0) (n := 0) (Nat.le_refl _) (Nat.le_refl _) ?_
      exact r_iret (x60000488, f60000489, f60000490) C0 hr hlocks hS (Nat.le_refl _) (Nat.le_refl _) dX10_force_32 ⟨⟨by omega, by omega⟩, hb60000491, hb60000492, (Or.inl ⟨by omega, hg60000493⟩), ⟨by omega, by omega⟩⟩ (hP.sub (ws' := [(xb, .inr (10, (.ref b_tape :: .ref b_reader :: .ref b_acts :: .ref b_known :: .ref b_odds :: .ref b_draw :: .ref b_pull :: .ref b_peel :: .ref a :: .ref b_script :: .ref b_spare :: .int x60000473 :: .int x60000474 :: .int x60000475 :: .int x60000476 :: []))), (a, .inr (4, O4 z i5 x60000488 i7 i8 i9 i10 i11 i12 i13)), ((z 3), .inl (T 0, 8, .inl f60000489)), ((z 4), .inl (T 0, 8, .inl f60000490))]) [0, 1, 2, 3] rfl) (hD.sub (ws' := [(xb, .inr (10, (.ref b_tape :: .ref b_reader :: .ref b_acts :: .ref b_known :: .ref b_odds :: .ref b_draw :: .ref b_pull :: .ref b_peel :: .ref a :: .ref b_script :: .ref b_spare :: .int x60000473 :: .int x60000474 :: .int x60000475 :: .int x60000476 :: []))), (a, .inr (4, O4 z i5 x60000488 i7 i8 i9 i10 i11 i12 i13)), ((z 3), .inl (T 0, 8, .inl f60000489)), ((z 4), .inl (T 0, 8, .inl f60000490))]) [0, 1, 2, 3] (by decide +kernel) rfl)
    · skip
      have kc60000486 : x60000482.toInt = 0 := eq_ti rfl (by decide) c60000486
      refine lv_iconst (v := (-1)) hx hb dX10_force_21 (by decide) ?_
      exact r_iret (i6, g3, g4) C0 hr hlocks hS (Nat.le_refl _) (Nat.le_refl _) dX10_force_22 ⟨⟨by omega, by omega⟩, hbg3, hbg4, (Or.inr ⟨by omega, by decide, rfl, rfl, rfl⟩), ⟨by decide, by decide⟩⟩ (hP.sub (ws' := [(xb, .inr (10, (.ref b_tape :: .ref b_reader :: .ref b_acts :: .ref b_known :: .ref b_odds :: .ref b_draw :: .ref b_pull :: .ref b_peel :: .ref a :: .ref b_script :: .ref b_spare :: .int x60000473 :: .int x60000474 :: .int x60000475 :: .int x60000476 :: []))), (a, .inr (4, O4 z i5 i6 i7 i8 i9 i10 i11 i12 i13)), ((z 3), .inl (T 0, 8, .inl g3)), ((z 4), .inl (T 0, 8, .inl g4))]) [0, 1, 2, 3] rfl) (hD.sub (ws' := [(xb, .inr (10, (.ref b_tape :: .ref b_reader :: .ref b_acts :: .ref b_known :: .ref b_odds :: .ref b_draw :: .ref b_pull :: .ref b_peel :: .ref a :: .ref b_script :: .ref b_spare :: .int x60000473 :: .int x60000474 :: .int x60000475 :: .int x60000476 :: []))), (a, .inr (4, O4 z i5 i6 i7 i8 i9 i10 i11 i12 i13)), ((z 3), .inl (T 0, 8, .inl g3)), ((z 4), .inl (T 0, 8, .inl g4))]) [0, 1, 2, 3] (by decide +kernel) rfl)
