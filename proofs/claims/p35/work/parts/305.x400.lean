set_option maxHeartbeats 4000000 in
set_option maxRecDepth 100000 in
theorem k_X4_addPatch_60000009 (l : Launch) (D : va_G) (T : Nat → ClassId) (sq sv sz : Nat) (a : Nat) (z : Nat → Nat) (i5 i6 i7 i8 i9 i10 i11 i12 i13 : Int32) (p1 : Int32) (p2 : Int32) (p3 : Int32) (g0 : Nat → Int32) (g1 : Nat → Int32) (g2 : Nat → Int32) (hi5 : 0 ≤ i5.toInt ∧ i5.toInt ≤ 12) (hp1 : 0 ≤ p1.toInt ∧ p1.toInt ≤ 99) (hp2 : 0 ≤ p2.toInt ∧ p2.toInt ≤ 999) (hp3 : 0 ≤ p3.toInt ∧ p3.toInt ≤ 999) (hbg0 : Bd (0) (99) g0) (hbg1 : Bd (0) (999) g1) (hbg2 : Bd (0) (999) g2) : Met l yX4_addPatch (.code yX4_addPatch cX4_addPatch 4 (some .int) :: TB) { frames := 0, cells := 0, slots := 0, locals := 0 } (PC2 D T sq sv [.ref a, .int p1, .int p2, .int p3] [(a, .inr (4, O4 z i5 i6 i7 i8 i9 i10 i11 i12 i13)), ((z 0), .inl (T 0, 12, .inl g0)), ((z 1), .inl (T 0, 12, .inl g1)), ((z 2), .inl (T 0, 12, .inl g2))] sz) (Qi (S := Int32 × (Nat → Int32) × (Nat → Int32) × (Nat → Int32)) (fun (r : Int32) (u : Int32 × (Nat → Int32) × (Nat → Int32) × (Nat → Int32)) => match u with | (ui5, ug0, ug1, ug2) => (0 ≤ ui5.toInt ∧ ui5.toInt ≤ 12) ∧ Bd (0) (99) ug0 ∧ Bd (0) (999) ug1 ∧ Bd (0) (999) ug2 ∧ (PT1 i5 p1 p2 p3 g0 g1 g2 r ui5 ug0 ug1 ug2) ∧ (-1 ≤ r.toInt ∧ r.toInt ≤ 12)) (fun (u : Int32 × (Nat → Int32) × (Nat → Int32) × (Nat → Int32)) => match u with | (ui5, ug0, ug1, ug2) => [(a, .inr (4, O4 z ui5 i6 i7 i8 i9 i10 i11 i12 i13)), ((z 0), .inl (T 0, 12, .inl ug0)), ((z 1), .inl (T 0, 12, .inl ug1)), ((z 2), .inl (T 0, 12, .inl ug2))]) D (va_A [(a, .inr (4, O4 z i5 i6 i7 i8 i9 i10 i11 i12 i13)), ((z 0), .inl (T 0, 12, .inl g0)), ((z 1), .inl (T 0, 12, .inl g1)), ((z 2), .inl (T 0, 12, .inl g2))] sz)) 0 0 (va_A [(a, .inr (4, O4 z i5 i6 i7 i8 i9 i10 i11 i12 i13)), ((z 0), .inl (T 0, 12, .inl g0)), ((z 1), .inl (T 0, 12, .inl g1)), ((z 2), .inl (T 0, 12, .inl g2))] sz) := by
  refine ct_begin2 (Qc := Qi (S := Int32 × (Nat → Int32) × (Nat → Int32) × (Nat → Int32)) (fun (r : Int32) (u : Int32 × (Nat → Int32) × (Nat → Int32) × (Nat → Int32)) => match u with | (ui5, ug0, ug1, ug2) => (0 ≤ ui5.toInt ∧ ui5.toInt ≤ 12) ∧ Bd (0) (99) ug0 ∧ Bd (0) (999) ug1 ∧ Bd (0) (999) ug2 ∧ (PT1 i5 p1 p2 p3 g0 g1 g2 r ui5 ug0 ug1 ug2) ∧ (-1 ≤ r.toInt ∧ r.toInt ≤ 12)) (fun (u : Int32 × (Nat → Int32) × (Nat → Int32) × (Nat → Int32)) => match u with | (ui5, ug0, ug1, ug2) => [(a, .inr (4, O4 z ui5 i6 i7 i8 i9 i10 i11 i12 i13)), ((z 0), .inl (T 0, 12, .inl ug0)), ((z 1), .inl (T 0, 12, .inl ug1)), ((z 2), .inl (T 0, 12, .inl ug2))]) D) (by decide +kernel) (Nat.le_of_ble_eq_true rfl) ?_
  intro p e s m below meth c A ls C0 hr hlocks hnm hE hStr hA hP hD hl
  generalize ([.ref a, .int p1, .int p2, .int p3] : List Value).toArray = args at C0 ⊢
  have hx := C0.1
  have hb := C0.2.1
  have hml := C0.2.2.1
  have hown := C0.2.2.2.1
  have hT := C0.2.2.2.2
  have hK := hE.1
  generalize hH : s.heap = H at hP ⊢
  have hS : va_S A s.heap H [] := by rw [← hH]; exact va_S.rf
  have hP : va_P D vwCl [(a, .inr (4, O4 z i5 i6 i7 i8 i9 i10 i11 i12 i13)), ((z 0), .inl (T 0, 12, .inl g0)), ((z 1), .inl (T 0, 12, .inl g1)), ((z 2), .inl (T 0, 12, .inl g2))] H := hP
  have hD : va_D A [(a, .inr (4, O4 z i5 i6 i7 i8 i9 i10 i11 i12 i13)), ((z 0), .inl (T 0, 12, .inl g0)), ((z 1), .inl (T 0, 12, .inl g1)), ((z 2), .inl (T 0, 12, .inl g2))] := hD
  have hl : lv_has ls 4 [(0, .ref a), (1, .int p1), (2, .int p2), (3, .int p3)] := hl
  refine lv_aload_n hx hb dX4_addPatch_0 rfl (lv_at hl 0 rfl) ?_
  refine r_get (v := .int i5) C0 hE ffX4_5 mw_174 hP 0 rfl o4x_5 dX4_addPatch_1 ?_
  refine lv_bipush (v := 12) hx hb dX4_addPatch_4 (by decide) ?_
  refine lv_icmp_lt (tgt := 11) hx hb dX4_addPatch_6 (by decide) (fun c60000010 => ?_) (fun c60000010 => ?_)
  · skip
    have kc60000010 : i5.toInt < 12 := lt_ti rfl (by decide) c60000010
    refine lv_aload_n hx hb dX4_addPatch_11 rfl (lv_at hl 0 rfl) ?_
    refine r_get (v := .ref (z 0)) C0 hE ffX4_0 mw_169 hP 0 rfl o4x_0 dX4_addPatch_12 ?_
    refine lv_aload_n hx hb dX4_addPatch_15 rfl (lv_at hl 0 rfl) ?_
    refine r_get (v := .int i5) C0 hE ffX4_5 mw_174 hP 0 rfl o4x_5 dX4_addPatch_16 ?_
    refine lv_iload_n hx hb dX4_addPatch_19 rfl (lv_at hl 1 rfl) ?_
    refine r_iastX hx hb hK hP hD hS 1 rfl (in_ti rfl (by omega) (by omega)) dX4_addPatch_20 (fun f60000011 ef60000011 H locs hP hD hS => ?_)
    have hb60000012 : Bd (0) (99) f60000011 := by rw [ef60000011]; exact Bd.upd hbg0 rfl (by omega) (by omega)
    have hP : va_P D vwCl [(a, .inr (4, O4 z i5 i6 i7 i8 i9 i10 i11 i12 i13)), ((z 0), .inl (T 0, 12, .inl f60000011)), ((z 1), .inl (T 0, 12, .inl g1)), ((z 2), .inl (T 0, 12, .inl g2))] H := hP
    have hD : va_D A [(a, .inr (4, O4 z i5 i6 i7 i8 i9 i10 i11 i12 i13)), ((z 0), .inl (T 0, 12, .inl f60000011)), ((z 1), .inl (T 0, 12, .inl g1)), ((z 2), .inl (T 0, 12, .inl g2))] := hD
    refine lv_aload_n hx hb dX4_addPatch_21 rfl (lv_at hl 0 rfl) ?_
    refine r_get (v := .ref (z 1)) C0 hE ffX4_1 mw_170 hP 0 rfl o4x_1 dX4_addPatch_22 ?_
    refine lv_aload_n hx hb dX4_addPatch_25 rfl (lv_at hl 0 rfl) ?_
    refine r_get (v := .int i5) C0 hE ffX4_5 mw_174 hP 0 rfl o4x_5 dX4_addPatch_26 ?_
    refine lv_iload_n hx hb dX4_addPatch_29 rfl (lv_at hl 2 rfl) ?_
    refine r_iastX hx hb hK hP hD hS 2 rfl (in_ti rfl (by omega) (by omega)) dX4_addPatch_30 (fun f60000013 ef60000013 H locs hP hD hS => ?_)
    have hb60000014 : Bd (0) (999) f60000013 := by rw [ef60000013]; exact Bd.upd hbg1 rfl (by omega) (by omega)
    have hP : va_P D vwCl [(a, .inr (4, O4 z i5 i6 i7 i8 i9 i10 i11 i12 i13)), ((z 0), .inl (T 0, 12, .inl f60000011)), ((z 1), .inl (T 0, 12, .inl f60000013)), ((z 2), .inl (T 0, 12, .inl g2))] H := hP
    have hD : va_D A [(a, .inr (4, O4 z i5 i6 i7 i8 i9 i10 i11 i12 i13)), ((z 0), .inl (T 0, 12, .inl f60000011)), ((z 1), .inl (T 0, 12, .inl f60000013)), ((z 2), .inl (T 0, 12, .inl g2))] := hD
    refine lv_aload_n hx hb dX4_addPatch_31 rfl (lv_at hl 0 rfl) ?_
    refine r_get (v := .ref (z 2)) C0 hE ffX4_2 mw_171 hP 0 rfl o4x_2 dX4_addPatch_32 ?_
    refine lv_aload_n hx hb dX4_addPatch_35 rfl (lv_at hl 0 rfl) ?_
    refine r_get (v := .int i5) C0 hE ffX4_5 mw_174 hP 0 rfl o4x_5 dX4_addPatch_36 ?_
    refine lv_iload_n hx hb dX4_addPatch_39 rfl (lv_at hl 3 rfl) ?_
    refine r_iastX hx hb hK hP hD hS 3 rfl (in_ti rfl (by omega) (by omega)) dX4_addPatch_40 (fun f60000015 ef60000015 H locs hP hD hS => ?_)
    have hb60000016 : Bd (0) (999) f60000015 := by rw [ef60000015]; exact Bd.upd hbg2 rfl (by omega) (by omega)
    have hP : va_P D vwCl [(a, .inr (4, O4 z i5 i6 i7 i8 i9 i10 i11 i12 i13)), ((z 0), .inl (T 0, 12, .inl f60000011)), ((z 1), .inl (T 0, 12, .inl f60000013)), ((z 2), .inl (T 0, 12, .inl f60000015))] H := hP
    have hD : va_D A [(a, .inr (4, O4 z i5 i6 i7 i8 i9 i10 i11 i12 i13)), ((z 0), .inl (T 0, 12, .inl f60000011)), ((z 1), .inl (T 0, 12, .inl f60000013)), ((z 2), .inl (T 0, 12, .inl f60000015))] := hD
    refine lv_aload_n hx hb dX4_addPatch_41 rfl (lv_at hl 0 rfl) ?_
    refine lv_dup hx hb dX4_addPatch_42 rfl ?_
    refine r_get (v := .int i5) C0 hE ffX4_5 mw_174 hP 0 rfl o4x_5 dX4_addPatch_43 ?_
    refine lv_iconst (v := 1) hx hb dX4_addPatch_46 (by decide) ?_
    refine lv_iadd hx hb dX4_addPatch_47 ?_
    refine lv_topi (fun x60000017 ex60000017 => ?_)
    have hx60000017 : x60000017.toInt = i5.toInt + 1 := ti_add ex60000017 rfl (by decide) (by omega) (by omega)
    refine r_put (v := .int x60000017) (ty := .int) (ws1 := [(a, .inr (4, O4 z x60000017 i6 i7 i8 i9 i10 i11 i12 i13)), ((z 0), .inl (T 0, 12, .inl f60000011)), ((z 1), .inl (T 0, 12, .inl f60000013)), ((z 2), .inl (T 0, 12, .inl f60000015))]) C0 hE ffX4_5 tyX4 tyX4_ok nmX4 mw_174 pf_1358 hP hD hS 0 rfl rfl rfl o4l_5 o4s_5 rfl dX4_addPatch_48 (fun H locs hP hD hS => ?_)
    refine lv_aload_n hx hb dX4_addPatch_51 rfl (lv_at hl 0 rfl) ?_
    refine r_get (v := .int x60000017) C0 hE ffX4_5 mw_174 hP 0 rfl o4x_5 dX4_addPatch_52 ?_
    exact r_iret (x60000017, f60000011, f60000013, f60000015) C0 hr hlocks hS (Nat.le_refl _) (Nat.le_refl _) dX4_addPatch_55 ⟨⟨by omega, by omega⟩, hb60000012, hb60000014, hb60000016, (Or.inl ⟨by omega, by omega, by omega, ef60000011, ef60000013, ef60000015⟩), ⟨by omega, by omega⟩⟩ (hP.sub (ws' := [(a, .inr (4, O4 z x60000017 i6 i7 i8 i9 i10 i11 i12 i13)), ((z 0), .inl (T 0, 12, .inl f60000011)), ((z 1), .inl (T 0, 12, .inl f60000013)), ((z 2), .inl (T 0, 12, .inl f60000015))]) [0, 1, 2, 3] rfl) (hD.sub (ws' := [(a, .inr (4, O4 z x60000017 i6 i7 i8 i9 i10 i11 i12 i13)), ((z 0), .inl (T 0, 12, .inl f60000011)), ((z 1), .inl (T 0, 12, .inl f60000013)), ((z 2), .inl (T 0, 12, .inl f60000015))]) [0, 1, 2, 3] (by decide +kernel) rfl)
  · skip
    have kc60000010 : 12 ≤ i5.toInt := nlt_ti rfl (by decide) c60000010
    refine lv_iconst (v := (-1)) hx hb dX4_addPatch_9 (by decide) ?_
    exact r_iret (i5, g0, g1, g2) C0 hr hlocks hS (Nat.le_refl _) (Nat.le_refl _) dX4_addPatch_10 ⟨⟨by omega, by omega⟩, hbg0, hbg1, hbg2, (Or.inr ⟨by omega, by decide, rfl, rfl, rfl, rfl⟩), ⟨by decide, by decide⟩⟩ (hP.sub (ws' := [(a, .inr (4, O4 z i5 i6 i7 i8 i9 i10 i11 i12 i13)), ((z 0), .inl (T 0, 12, .inl g0)), ((z 1), .inl (T 0, 12, .inl g1)), ((z 2), .inl (T 0, 12, .inl g2))]) [0, 1, 2, 3] rfl) (hD.sub (ws' := [(a, .inr (4, O4 z i5 i6 i7 i8 i9 i10 i11 i12 i13)), ((z 0), .inl (T 0, 12, .inl g0)), ((z 1), .inl (T 0, 12, .inl g1)), ((z 2), .inl (T 0, 12, .inl g2))]) [0, 1, 2, 3] (by decide +kernel) rfl)
set_option maxHeartbeats 4000000 in
set_option maxRecDepth 100000 in
theorem k_X4_addPull_60000024 (l : Launch) (D : va_G) (T : Nat → ClassId) (sq sv sz : Nat) (a : Nat) (z : Nat → Nat) (i5 i6 i7 i8 i9 i10 i11 i12 i13 : Int32) (p1 : Int32) (p2 : Int32) (g3 : Nat → Int32) (g4 : Nat → Int32) (hi6 : 0 ≤ i6.toInt ∧ i6.toInt ≤ 8) (hp1 : 0 ≤ p1.toInt ∧ p1.toInt ≤ 99) (hp2 : 0 ≤ p2.toInt ∧ p2.toInt ≤ 9999) (hbg3 : Bd (0) (99) g3) (hbg4 : Bd (0) (9999) g4) : Met l yX4_addPull (.code yX4_addPull cX4_addPull 3 (some .int) :: TB) { frames := 0, cells := 0, slots := 0, locals := 0 } (PC2 D T sq sv [.ref a, .int p1, .int p2] [(a, .inr (4, O4 z i5 i6 i7 i8 i9 i10 i11 i12 i13)), ((z 3), .inl (T 0, 8, .inl g3)), ((z 4), .inl (T 0, 8, .inl g4))] sz) (Qi (S := Int32 × (Nat → Int32) × (Nat → Int32)) (fun (r : Int32) (u : Int32 × (Nat → Int32) × (Nat → Int32)) => match u with | (ui6, ug3, ug4) => (0 ≤ ui6.toInt ∧ ui6.toInt ≤ 8) ∧ Bd (0) (99) ug3 ∧ Bd (0) (9999) ug4 ∧ (PT2 i6 p1 p2 g3 g4 r ui6 ug3 ug4) ∧ (-1 ≤ r.toInt ∧ r.toInt ≤ 8)) (fun (u : Int32 × (Nat → Int32) × (Nat → Int32)) => match u with | (ui6, ug3, ug4) => [(a, .inr (4, O4 z i5 ui6 i7 i8 i9 i10 i11 i12 i13)), ((z 3), .inl (T 0, 8, .inl ug3)), ((z 4), .inl (T 0, 8, .inl ug4))]) D (va_A [(a, .inr (4, O4 z i5 i6 i7 i8 i9 i10 i11 i12 i13)), ((z 3), .inl (T 0, 8, .inl g3)), ((z 4), .inl (T 0, 8, .inl g4))] sz)) 0 0 (va_A [(a, .inr (4, O4 z i5 i6 i7 i8 i9 i10 i11 i12 i13)), ((z 3), .inl (T 0, 8, .inl g3)), ((z 4), .inl (T 0, 8, .inl g4))] sz) := by
  refine ct_begin2 (Qc := Qi (S := Int32 × (Nat → Int32) × (Nat → Int32)) (fun (r : Int32) (u : Int32 × (Nat → Int32) × (Nat → Int32)) => match u with | (ui6, ug3, ug4) => (0 ≤ ui6.toInt ∧ ui6.toInt ≤ 8) ∧ Bd (0) (99) ug3 ∧ Bd (0) (9999) ug4 ∧ (PT2 i6 p1 p2 g3 g4 r ui6 ug3 ug4) ∧ (-1 ≤ r.toInt ∧ r.toInt ≤ 8)) (fun (u : Int32 × (Nat → Int32) × (Nat → Int32)) => match u with | (ui6, ug3, ug4) => [(a, .inr (4, O4 z i5 ui6 i7 i8 i9 i10 i11 i12 i13)), ((z 3), .inl (T 0, 8, .inl ug3)), ((z 4), .inl (T 0, 8, .inl ug4))]) D) (by decide +kernel) (Nat.le_of_ble_eq_true rfl) ?_
  intro p e s m below meth c A ls C0 hr hlocks hnm hE hStr hA hP hD hl
  generalize ([.ref a, .int p1, .int p2] : List Value).toArray = args at C0 ⊢
  have hx := C0.1
  have hb := C0.2.1
  have hml := C0.2.2.1
  have hown := C0.2.2.2.1
  have hT := C0.2.2.2.2
  have hK := hE.1
  generalize hH : s.heap = H at hP ⊢
  have hS : va_S A s.heap H [] := by rw [← hH]; exact va_S.rf
  have hP : va_P D vwCl [(a, .inr (4, O4 z i5 i6 i7 i8 i9 i10 i11 i12 i13)), ((z 3), .inl (T 0, 8, .inl g3)), ((z 4), .inl (T 0, 8, .inl g4))] H := hP
  have hD : va_D A [(a, .inr (4, O4 z i5 i6 i7 i8 i9 i10 i11 i12 i13)), ((z 3), .inl (T 0, 8, .inl g3)), ((z 4), .inl (T 0, 8, .inl g4))] := hD
  have hl : lv_has ls 3 [(0, .ref a), (1, .int p1), (2, .int p2)] := hl
  refine lv_aload_n hx hb dX4_addPull_0 rfl (lv_at hl 0 rfl) ?_
  refine r_get (v := .int i6) C0 hE ffX4_6 mw_176 hP 0 rfl o4x_6 dX4_addPull_1 ?_
  refine lv_bipush (v := 8) hx hb dX4_addPull_4 (by decide) ?_
  refine lv_icmp_lt (tgt := 11) hx hb dX4_addPull_6 (by decide) (fun c60000025 => ?_) (fun c60000025 => ?_)
  · skip
    have kc60000025 : i6.toInt < 8 := lt_ti rfl (by decide) c60000025
    refine lv_aload_n hx hb dX4_addPull_11 rfl (lv_at hl 0 rfl) ?_
    refine r_get (v := .ref (z 3)) C0 hE ffX4_3 mw_172 hP 0 rfl o4x_3 dX4_addPull_12 ?_
    refine lv_aload_n hx hb dX4_addPull_15 rfl (lv_at hl 0 rfl) ?_
    refine r_get (v := .int i6) C0 hE ffX4_6 mw_176 hP 0 rfl o4x_6 dX4_addPull_16 ?_
    refine lv_iload_n hx hb dX4_addPull_19 rfl (lv_at hl 1 rfl) ?_
    refine r_iastX hx hb hK hP hD hS 1 rfl (in_ti rfl (by omega) (by omega)) dX4_addPull_20 (fun f60000026 ef60000026 H locs hP hD hS => ?_)
    have hb60000027 : Bd (0) (99) f60000026 := by rw [ef60000026]; exact Bd.upd hbg3 rfl (by omega) (by omega)
    have hP : va_P D vwCl [(a, .inr (4, O4 z i5 i6 i7 i8 i9 i10 i11 i12 i13)), ((z 3), .inl (T 0, 8, .inl f60000026)), ((z 4), .inl (T 0, 8, .inl g4))] H := hP
    have hD : va_D A [(a, .inr (4, O4 z i5 i6 i7 i8 i9 i10 i11 i12 i13)), ((z 3), .inl (T 0, 8, .inl f60000026)), ((z 4), .inl (T 0, 8, .inl g4))] := hD
    refine lv_aload_n hx hb dX4_addPull_21 rfl (lv_at hl 0 rfl) ?_
    refine r_get (v := .ref (z 4)) C0 hE ffX4_4 mw_173 hP 0 rfl o4x_4 dX4_addPull_22 ?_
    refine lv_aload_n hx hb dX4_addPull_25 rfl (lv_at hl 0 rfl) ?_
    refine r_get (v := .int i6) C0 hE ffX4_6 mw_176 hP 0 rfl o4x_6 dX4_addPull_26 ?_
    refine lv_iload_n hx hb dX4_addPull_29 rfl (lv_at hl 2 rfl) ?_
    refine r_iastX hx hb hK hP hD hS 2 rfl (in_ti rfl (by omega) (by omega)) dX4_addPull_30 (fun f60000028 ef60000028 H locs hP hD hS => ?_)
    have hb60000029 : Bd (0) (9999) f60000028 := by rw [ef60000028]; exact Bd.upd hbg4 rfl (by omega) (by omega)
    have hP : va_P D vwCl [(a, .inr (4, O4 z i5 i6 i7 i8 i9 i10 i11 i12 i13)), ((z 3), .inl (T 0, 8, .inl f60000026)), ((z 4), .inl (T 0, 8, .inl f60000028))] H := hP
    have hD : va_D A [(a, .inr (4, O4 z i5 i6 i7 i8 i9 i10 i11 i12 i13)), ((z 3), .inl (T 0, 8, .inl f60000026)), ((z 4), .inl (T 0, 8, .inl f60000028))] := hD
    refine lv_aload_n hx hb dX4_addPull_31 rfl (lv_at hl 0 rfl) ?_
    refine lv_dup hx hb dX4_addPull_32 rfl ?_
    refine r_get (v := .int i6) C0 hE ffX4_6 mw_176 hP 0 rfl o4x_6 dX4_addPull_33 ?_
    refine lv_iconst (v := 1) hx hb dX4_addPull_36 (by decide) ?_
    refine lv_iadd hx hb dX4_addPull_37 ?_
    refine lv_topi (fun x60000030 ex60000030 => ?_)
    have hx60000030 : x60000030.toInt = i6.toInt + 1 := ti_add ex60000030 rfl (by decide) (by omega) (by omega)
    refine r_put (v := .int x60000030) (ty := .int) (ws1 := [(a, .inr (4, O4 z i5 x60000030 i7 i8 i9 i10 i11 i12 i13)), ((z 3), .inl (T 0, 8, .inl f60000026)), ((z 4), .inl (T 0, 8, .inl f60000028))]) C0 hE ffX4_6 tyX4 tyX4_ok nmX4 mw_176 pf_1358 hP hD hS 0 rfl rfl rfl o4l_6 o4s_6 rfl dX4_addPull_38 (fun H locs hP hD hS => ?_)
    refine lv_aload_n hx hb dX4_addPull_41 rfl (lv_at hl 0 rfl) ?_
    refine r_get (v := .int x60000030) C0 hE ffX4_6 mw_176 hP 0 rfl o4x_6 dX4_addPull_42 ?_
    exact r_iret (x60000030, f60000026, f60000028) C0 hr hlocks hS (Nat.le_refl _) (Nat.le_refl _) dX4_addPull_45 ⟨⟨by omega, by omega⟩, hb60000027, hb60000029, (Or.inl ⟨by omega, by omega, by omega, ef60000026, ef60000028⟩), ⟨by omega, by omega⟩⟩ (hP.sub (ws' := [(a, .inr (4, O4 z i5 x60000030 i7 i8 i9 i10 i11 i12 i13)), ((z 3), .inl (T 0, 8, .inl f60000026)), ((z 4), .inl (T 0, 8, .inl f60000028))]) [0, 1, 2] rfl) (hD.sub (ws' := [(a, .inr (4, O4 z i5 x60000030 i7 i8 i9 i10 i11 i12 i13)), ((z 3), .inl (T 0, 8, .inl f60000026)), ((z 4), .inl (T 0, 8, .inl f60000028))]) [0, 1, 2] (by decide +kernel) rfl)
  · skip
    have kc60000025 : 8 ≤ i6.toInt := nlt_ti rfl (by decide) c60000025
    refine lv_iconst (v := (-1)) hx hb dX4_addPull_9 (by decide) ?_
    exact r_iret (i6, g3, g4) C0 hr hlocks hS (Nat.le_refl _) (Nat.le_refl _) dX4_addPull_10 ⟨⟨by omega, by omega⟩, hbg3, hbg4, (Or.inr ⟨by omega, by decide, rfl, rfl, rfl⟩), ⟨by decide, by decide⟩⟩ (hP.sub (ws' := [(a, .inr (4, O4 z i5 i6 i7 i8 i9 i10 i11 i12 i13)), ((z 3), .inl (T 0, 8, .inl g3)), ((z 4), .inl (T 0, 8, .inl g4))]) [0, 1, 2] rfl) (hD.sub (ws' := [(a, .inr (4, O4 z i5 i6 i7 i8 i9 i10 i11 i12 i13)), ((z 3), .inl (T 0, 8, .inl g3)), ((z 4), .inl (T 0, 8, .inl g4))]) [0, 1, 2] (by decide +kernel) rfl)
set_option maxHeartbeats 4000000 in
set_option maxRecDepth 100000 in
theorem k_X4_holds_60000085 (l : Launch) (D : va_G) (T : Nat → ClassId) (sq sv sz : Nat) (a : Nat) (z : Nat → Nat) (i5 i6 i7 i8 i9 i10 i11 i12 i13 : Int32) (p1 : Int32) (p2 : Int32) (g0 : Nat → Int32) (g1 : Nat → Int32) (g3 : Nat → Int32) (g4 : Nat → Int32) (hi5 : 0 ≤ i5.toInt ∧ i5.toInt ≤ 12) (hi9 : 0 ≤ i9.toInt ∧ i9.toInt ≤ 99) (hp1 : 0 ≤ p1.toInt ∧ p1.toInt ≤ 4095) (hp2 : 0 ≤ p2.toInt ∧ p2.toInt ≤ 7) (hbg0 : Bd (0) (99) g0) (hbg1 : Bd (0) (999) g1) (hbg3 : Bd (0) (99) g3) (hbg4 : Bd (0) (9999) g4) : Met l yX4_holds (.code yX4_holds cX4_holds 6 (some .boolean) :: TB) { frames := 1, cells := 0, slots := 0, locals := 13 } (PC2 D T sq sv [.ref a, .int p1, .int p2] [(a, .inr (4, O4 z i5 i6 i7 i8 i9 i10 i11 i12 i13)), ((z 0), .inl (T 0, 12, .inl g0)), ((z 1), .inl (T 0, 12, .inl g1)), ((z 3), .inl (T 0, 8, .inl g3)), ((z 4), .inl (T 0, 8, .inl g4))] sz) (Qi (S := Unit) (fun (r : Int32) (_ : Unit) => (RHO (Int32.toNatClampNeg i5) g0 g1 g3 g4 i9.toInt p1 p2 r) ∧ (0 ≤ r.toInt ∧ r.toInt ≤ 1)) (fun (_ : Unit) => [(a, .inr (4, O4 z i5 i6 i7 i8 i9 i10 i11 i12 i13)), ((z 0), .inl (T 0, 12, .inl g0)), ((z 1), .inl (T 0, 12, .inl g1)), ((z 3), .inl (T 0, 8, .inl g3)), ((z 4), .inl (T 0, 8, .inl g4))]) D (va_A [(a, .inr (4, O4 z i5 i6 i7 i8 i9 i10 i11 i12 i13)), ((z 0), .inl (T 0, 12, .inl g0)), ((z 1), .inl (T 0, 12, .inl g1)), ((z 3), .inl (T 0, 8, .inl g3)), ((z 4), .inl (T 0, 8, .inl g4))] sz)) 0 0 (va_A [(a, .inr (4, O4 z i5 i6 i7 i8 i9 i10 i11 i12 i13)), ((z 0), .inl (T 0, 12, .inl g0)), ((z 1), .inl (T 0, 12, .inl g1)), ((z 3), .inl (T 0, 8, .inl g3)), ((z 4), .inl (T 0, 8, .inl g4))] sz) := by
  refine ct_begin2 (Qc := Qi (S := Unit) (fun (r : Int32) (_ : Unit) => (RHO (Int32.toNatClampNeg i5) g0 g1 g3 g4 i9.toInt p1 p2 r) ∧ (0 ≤ r.toInt ∧ r.toInt ≤ 1)) (fun (_ : Unit) => [(a, .inr (4, O4 z i5 i6 i7 i8 i9 i10 i11 i12 i13)), ((z 0), .inl (T 0, 12, .inl g0)), ((z 1), .inl (T 0, 12, .inl g1)), ((z 3), .inl (T 0, 8, .inl g3)), ((z 4), .inl (T 0, 8, .inl g4))]) D) (by decide +kernel) (Nat.le_of_ble_eq_true rfl) ?_
  intro p e s m below meth c A ls C0 hr hlocks hnm hE hStr hA hP hD hl
  generalize ([.ref a, .int p1, .int p2] : List Value).toArray = args at C0 ⊢
  have hx := C0.1
  have hb := C0.2.1
  have hml := C0.2.2.1
  have hown := C0.2.2.2.1
  have hT := C0.2.2.2.2
  have hK := hE.1
  generalize hH : s.heap = H at hP ⊢
  have hS : va_S A s.heap H [] := by rw [← hH]; exact va_S.rf
  have hP : va_P D vwCl [(a, .inr (4, O4 z i5 i6 i7 i8 i9 i10 i11 i12 i13)), ((z 0), .inl (T 0, 12, .inl g0)), ((z 1), .inl (T 0, 12, .inl g1)), ((z 3), .inl (T 0, 8, .inl g3)), ((z 4), .inl (T 0, 8, .inl g4))] H := hP
  have hD : va_D A [(a, .inr (4, O4 z i5 i6 i7 i8 i9 i10 i11 i12 i13)), ((z 0), .inl (T 0, 12, .inl g0)), ((z 1), .inl (T 0, 12, .inl g1)), ((z 3), .inl (T 0, 8, .inl g3)), ((z 4), .inl (T 0, 8, .inl g4))] := hD
  have hl : lv_has ls 6 [(0, .ref a), (1, .int p1), (2, .int p2)] := hl
  refine lv_iconst (v := 0) hx hb dX4_holds_0 (by decide) ?_
  refine lv_istore_n (lv' := [(3, .int 0), (0, .ref a), (1, .int p1), (2, .int p2)]) hx hb dX4_holds_1 rfl hl (by decide) rfl (fun ls hl => ?_)
  refine lv_iconst (v := 0) hx hb dX4_holds_2 (by decide) ?_
  refine lv_istore (lv' := [(4, .int 0), (3, .int 0), (0, .ref a), (1, .int p1), (2, .int p2)]) hx hb dX4_holds_3 hl (by decide) rfl (fun ls hl => ?_)
  refine lv_iconst (v := 0) hx hb dX4_holds_5 (by decide) ?_
  refine lv_istore (lv' := [(5, .int 0), (4, .int 0), (3, .int 0), (0, .ref a), (1, .int p1), (2, .int p2)]) hx hb dX4_holds_6 hl (by decide) rfl (fun ls hl => ?_)
  have L60000120 : ∀ (n : Nat) (x60000100 : Int32) (x60000101 : Int32) (x60000102 : Int32) (H : Heap) (locs : List Loc) (ls : Array Slot), (0 ≤ x60000100.toInt ∧ x60000100.toInt ≤ 12) → (0 ≤ x60000101.toInt ∧ x60000101.toInt ≤ 999) → (0 ≤ x60000102.toInt ∧ x60000102.toInt ≤ 11988) → (HLI g0 g1 g3 i9.toInt p1 p2 x60000100 x60000102 x60000101) → (x60000100.toInt ≤ i5.toInt ∧ x60000102.toInt ≤ 999 * x60000100.toInt) → (13 - x60000100.toInt).toNat < n → va_P D vwCl [(a, .inr (4, O4 z i5 i6 i7 i8 i9 i10 i11 i12 i13)), ((z 0), .inl (T 0, 12, .inl g0)), ((z 1), .inl (T 0, 12, .inl g1)), ((z 3), .inl (T 0, 8, .inl g3)), ((z 4), .inl (T 0, 8, .inl g4))] H → va_D A [(a, .inr (4, O4 z i5 i6 i7 i8 i9 i10 i11 i12 i13)), ((z 0), .inl (T 0, 12, .inl g0)), ((z 1), .inl (T 0, 12, .inl g1)), ((z 3), .inl (T 0, 8, .inl g3)), ((z 4), .inl (T 0, 8, .inl g4))] → va_S A s.heap H locs → lv_has ls 6 [(5, .int x60000100), (4, .int x60000101), (3, .int x60000102), (0, .ref a), (1, .int p1), (2, .int p2)] → W p l e { frames := 1, cells := 0, slots := 0, locals := 13 } s m args below meth c H locs 0 0 (MQ below ((Qi (S := Unit) (fun (r : Int32) (_ : Unit) => (RHO (Int32.toNatClampNeg i5) g0 g1 g3 g4 i9.toInt p1 p2 r) ∧ (0 ≤ r.toInt ∧ r.toInt ≤ 1)) (fun (_ : Unit) => [(a, .inr (4, O4 z i5 i6 i7 i8 i9 i10 i11 i12 i13)), ((z 0), .inl (T 0, 12, .inl g0)), ((z 1), .inl (T 0, 12, .inl g1)), ((z 3), .inl (T 0, 8, .inl g3)), ((z 4), .inl (T 0, 8, .inl g4))]) D) A) args s 0 0 A) (F0 m 8 ls []) := by
    intro n
    induction n with
    | zero =>
      intro x60000100 x60000101 x60000102 H locs ls hx60000100 hx60000101 hx60000102 hHL hr60000121 hms hP hD hS hl
      exact absurd hms (Nat.not_lt_zero _)
    | succ n ih60000122 =>
      intro x60000100 x60000101 x60000102 H locs ls hx60000100 hx60000101 hx60000102 hHL hr60000121 hms hP hD hS hl
      refine lv_iload hx hb dX4_holds_8 (lv_at hl 0 rfl) ?_
      refine lv_aload_n hx hb dX4_holds_10 rfl (lv_at hl 3 rfl) ?_
      refine r_get (v := .int i5) C0 hE ffX4_5 mw_174 hP 0 rfl o4x_5 dX4_holds_11 ?_
      refine lv_icmp_ge (tgt := 81) hx hb dX4_holds_14 (by decide) (fun c60000123 => ?_) (fun c60000123 => ?_)
      · skip
        have kc60000123 : i5.toInt ≤ x60000100.toInt := le_ti rfl rfl c60000123
        refine lv_iload_n hx hb dX4_holds_81 rfl (lv_at hl 2 rfl) ?_
        refine lv_iload hx hb dX4_holds_82 (lv_at hl 1 rfl) ?_
        refine lv_isub hx hb dX4_holds_84 ?_
        refine lv_topi (fun x60000124 ex60000124 => ?_)
        have hx60000124 : x60000124.toInt = x60000102.toInt - x60000101.toInt := ti_sub ex60000124 rfl rfl (by omega) (by omega)
        refine lv_aload_n hx hb dX4_holds_85 rfl (lv_at hl 3 rfl) ?_
        refine r_get (v := .ref (z 4)) C0 hE ffX4_4 mw_173 hP 0 rfl o4x_4 dX4_holds_86 ?_
        refine lv_iload_n hx hb dX4_holds_89 rfl (lv_at hl 5 rfl) ?_
        refine va_iald hx hb hK hP 4 0 rfl rfl (in_ti rfl (by omega) (by omega)) dX4_holds_90 ?_
        refine lv_topi (fun x60000125 ex60000125 => ?_)
        have hx60000125 : 0 ≤ x60000125.toInt ∧ x60000125.toInt ≤ 9999 := by rw [ex60000125]; exact hbg4 _
        refine lv_icmp_lt (tgt := 98) hx hb dX4_holds_91 (by decide) (fun c60000126 => ?_) (fun c60000126 => ?_)
        · skip
          have kc60000126 : x60000124.toInt < x60000125.toInt := lt_ti rfl rfl c60000126
          refine lv_iconst (v := 0) hx hb dX4_holds_98 (by decide) ?_
          exact r_zret () C0 hr (by decide +kernel) hlocks hS (Nat.le_refl _) (Nat.le_refl _) dX4_holds_99 ⟨(HLI.end hHL (by have ht5 := tn (x := i5) (by omega); omega) ex60000125 (by omega) (Or.inr ⟨by decide, by omega⟩)), ⟨by decide, by decide⟩⟩ (hP.sub (ws' := [(a, .inr (4, O4 z i5 i6 i7 i8 i9 i10 i11 i12 i13)), ((z 0), .inl (T 0, 12, .inl g0)), ((z 1), .inl (T 0, 12, .inl g1)), ((z 3), .inl (T 0, 8, .inl g3)), ((z 4), .inl (T 0, 8, .inl g4))]) [0, 1, 2, 3, 4] rfl) (hD.sub (ws' := [(a, .inr (4, O4 z i5 i6 i7 i8 i9 i10 i11 i12 i13)), ((z 0), .inl (T 0, 12, .inl g0)), ((z 1), .inl (T 0, 12, .inl g1)), ((z 3), .inl (T 0, 8, .inl g3)), ((z 4), .inl (T 0, 8, .inl g4))]) [0, 1, 2, 3, 4] (by decide +kernel) rfl)
        · skip
          have kc60000126 : x60000125.toInt ≤ x60000124.toInt := nlt_ti rfl rfl c60000126
          refine lv_iconst (v := 1) hx hb dX4_holds_94 (by decide) ?_
          refine lv_goto (tgt := 99) hx hb dX4_holds_95 (by decide) ?_
          exact r_zret () C0 hr (by decide +kernel) hlocks hS (Nat.le_refl _) (Nat.le_refl _) dX4_holds_99 ⟨(HLI.end hHL (by have ht5 := tn (x := i5) (by omega); omega) ex60000125 (by omega) (Or.inl ⟨by decide, by omega⟩)), ⟨by decide, by decide⟩⟩ (hP.sub (ws' := [(a, .inr (4, O4 z i5 i6 i7 i8 i9 i10 i11 i12 i13)), ((z 0), .inl (T 0, 12, .inl g0)), ((z 1), .inl (T 0, 12, .inl g1)), ((z 3), .inl (T 0, 8, .inl g3)), ((z 4), .inl (T 0, 8, .inl g4))]) [0, 1, 2, 3, 4] rfl) (hD.sub (ws' := [(a, .inr (4, O4 z i5 i6 i7 i8 i9 i10 i11 i12 i13)), ((z 0), .inl (T 0, 12, .inl g0)), ((z 1), .inl (T 0, 12, .inl g1)), ((z 3), .inl (T 0, 8, .inl g3)), ((z 4), .inl (T 0, 8, .inl g4))]) [0, 1, 2, 3, 4] (by decide +kernel) rfl)
      · skip
        have kc60000123 : x60000100.toInt < i5.toInt := nle_ti rfl rfl c60000123
        refine lv_iload_n hx hb dX4_holds_17 rfl (lv_at hl 4 rfl) ?_
        refine lv_iload hx hb dX4_holds_18 (lv_at hl 0 rfl) ?_
        refine lv_ishr hx hb dX4_holds_20 ?_
        refine lv_topi (fun x60000127 ex60000127 => ?_)
        refine lv_iconst (v := 1) hx hb dX4_holds_21 (by decide) ?_
        refine lv_iand hx hb dX4_holds_22 ?_
        refine lv_topi (fun x60000128 ex60000128 => ?_)
        have hx60000128 : 0 ≤ x60000128.toInt ∧ x60000128.toInt ≤ 1 := and_ti 1 1 (by decide) (by decide) (by decide) ex60000128
        refine lv_iconst (v := 1) hx hb dX4_holds_23 (by decide) ?_
        refine lv_icmp_ne (tgt := 75) hx hb dX4_holds_24 (by decide) (fun c60000129 => ?_) (fun c60000129 => ?_)
        · skip
          have kc60000129 : x60000128.toInt ≠ 1 := ne_ti rfl (by decide) c60000129
          obtain ⟨x60000130, ex60000130⟩ : ∃ y : Int32, y = x60000100 + 1 := ⟨_, rfl⟩
          have hx60000130 : x60000130.toInt = x60000100.toInt + 1 := ti_add ex60000130 rfl (by decide) (by omega) (by omega)
          refine lv_iinc (v := x60000130) (lv' := [(5, .int x60000130), (4, .int x60000101), (3, .int x60000102), (0, .ref a), (1, .int p1), (2, .int p2)]) hx hb dX4_holds_75 hl (k := 0) rfl (by rw [ex60000130]; rfl) (by decide) rfl (fun ls hl => ?_)
          refine lv_goto (tgt := 8) hx hb dX4_holds_78 (by decide) ?_
          exact ih60000122 x60000130 x60000101 x60000102 _ _ ls ⟨by omega, by omega⟩ ⟨by omega, by omega⟩ ⟨by omega, by omega⟩ (HLI.no hHL ex60000127 ex60000128 (by omega) (by omega) (by omega) (by omega) (by omega)) (by omega) (by omega) (hP.sub (ws' := [(a, .inr (4, O4 z i5 i6 i7 i8 i9 i10 i11 i12 i13)), ((z 0), .inl (T 0, 12, .inl g0)), ((z 1), .inl (T 0, 12, .inl g1)), ((z 3), .inl (T 0, 8, .inl g3)), ((z 4), .inl (T 0, 8, .inl g4))]) [0, 1, 2, 3, 4] rfl) (hD.sub (ws' := [(a, .inr (4, O4 z i5 i6 i7 i8 i9 i10 i11 i12 i13)), ((z 0), .inl (T 0, 12, .inl g0)), ((z 1), .inl (T 0, 12, .inl g1)), ((z 3), .inl (T 0, 8, .inl g3)), ((z 4), .inl (T 0, 8, .inl g4))]) [0, 1, 2, 3, 4] (by decide +kernel) rfl) hS (lv_sub hl [0, 1, 2, 3, 4, 5] rfl)
        · skip
          have kc60000129 : x60000128.toInt = 1 := eq_ti rfl (by decide) c60000129
          refine lv_aload_n hx hb dX4_holds_27 rfl (lv_at hl 3 rfl) ?_
          refine r_get (v := .ref (z 0)) C0 hE ffX4_0 mw_169 hP 0 rfl o4x_0 dX4_holds_28 ?_
          refine lv_iload hx hb dX4_holds_31 (lv_at hl 0 rfl) ?_
          refine va_iald hx hb hK hP 1 0 rfl rfl (in_ti rfl (by omega) (by omega)) dX4_holds_33 ?_
          refine lv_topi (fun x60000131 ex60000131 => ?_)
          have hx60000131 : 0 ≤ x60000131.toInt ∧ x60000131.toInt ≤ 99 := by rw [ex60000131]; exact hbg0 _
          refine lv_aload_n hx hb dX4_holds_34 rfl (lv_at hl 3 rfl) ?_
          refine r_get (v := .ref (z 3)) C0 hE ffX4_3 mw_172 hP 0 rfl o4x_3 dX4_holds_35 ?_
          refine lv_iload_n hx hb dX4_holds_38 rfl (lv_at hl 5 rfl) ?_
          refine va_iald hx hb hK hP 3 0 rfl rfl (in_ti rfl (by omega) (by omega)) dX4_holds_39 ?_
          refine lv_topi (fun x60000132 ex60000132 => ?_)
          have hx60000132 : 0 ≤ x60000132.toInt ∧ x60000132.toInt ≤ 99 := by rw [ex60000132]; exact hbg3 _
          refine lv_isub hx hb dX4_holds_40 ?_
          refine lv_topi (fun x60000133 ex60000133 => ?_)
          have hx60000133 : x60000133.toInt = x60000131.toInt - x60000132.toInt := ti_sub ex60000133 rfl rfl (by omega) (by omega)
          refine va_mabs hx hb (by rw [hml]; exact hl.1.symm) hown (hT _ mw_750) (hT _ mw_751) (hT _ mw_12) (hT _ mw_752) (Nat.le_of_ble_eq_true rfl) (Nat.le_of_ble_eq_true rfl) (Nat.le_of_ble_eq_true rfl) (Nat.le_of_ble_eq_true rfl) dX4_holds_41 ?_
          refine lv_topi (fun x60000134 ex60000134 => ?_)
          have hx60000134 := abs_ti ex60000134 rfl (by omega)
          refine lv_aload_n hx hb dX4_holds_44 rfl (lv_at hl 3 rfl) ?_
          refine r_get (v := .int i9) C0 hE ffX4_9 mw_182 hP 0 rfl o4x_9 dX4_holds_45 ?_
          refine lv_icmp_gt (tgt := 75) hx hb dX4_holds_48 (by decide) (fun c60000135 => ?_) (fun c60000135 => ?_)
          · skip
            have kc60000135 : i9.toInt < x60000134.toInt := lt_ti rfl rfl c60000135
            have rg60000136 := i32_rng x60000134
            obtain ⟨x60000137, ex60000137⟩ : ∃ y : Int32, y = x60000100 + 1 := ⟨_, rfl⟩
            have hx60000137 : x60000137.toInt = x60000100.toInt + 1 := ti_add ex60000137 rfl (by decide) (by omega) (by omega)
            refine lv_iinc (v := x60000137) (lv' := [(5, .int x60000137), (4, .int x60000101), (3, .int x60000102), (0, .ref a), (1, .int p1), (2, .int p2)]) hx hb dX4_holds_75 hl (k := 0) rfl (by rw [ex60000137]; rfl) (by decide) rfl (fun ls hl => ?_)
            refine lv_goto (tgt := 8) hx hb dX4_holds_78 (by decide) ?_
            exact ih60000122 x60000137 x60000101 x60000102 _ _ ls ⟨by omega, by omega⟩ ⟨by omega, by omega⟩ ⟨by omega, by omega⟩ (HLI.far hHL ex60000127 ex60000128 (by omega) (by omega) (by omega) (by omega) ex60000131 ex60000132 (by omega)) (by omega) (by omega) (hP.sub (ws' := [(a, .inr (4, O4 z i5 i6 i7 i8 i9 i10 i11 i12 i13)), ((z 0), .inl (T 0, 12, .inl g0)), ((z 1), .inl (T 0, 12, .inl g1)), ((z 3), .inl (T 0, 8, .inl g3)), ((z 4), .inl (T 0, 8, .inl g4))]) [0, 1, 2, 3, 4] rfl) (hD.sub (ws' := [(a, .inr (4, O4 z i5 i6 i7 i8 i9 i10 i11 i12 i13)), ((z 0), .inl (T 0, 12, .inl g0)), ((z 1), .inl (T 0, 12, .inl g1)), ((z 3), .inl (T 0, 8, .inl g3)), ((z 4), .inl (T 0, 8, .inl g4))]) [0, 1, 2, 3, 4] (by decide +kernel) rfl) hS (lv_sub hl [0, 1, 2, 3, 4, 5] rfl)
          · skip
            have kc60000135 : x60000134.toInt ≤ i9.toInt := nlt_ti rfl rfl c60000135
            refine lv_iload_n hx hb dX4_holds_51 rfl (lv_at hl 2 rfl) ?_
            refine lv_aload_n hx hb dX4_holds_52 rfl (lv_at hl 3 rfl) ?_
            refine r_get (v := .ref (z 1)) C0 hE ffX4_1 mw_170 hP 0 rfl o4x_1 dX4_holds_53 ?_
            refine lv_iload hx hb dX4_holds_56 (lv_at hl 0 rfl) ?_
            refine va_iald hx hb hK hP 2 0 rfl rfl (in_ti rfl (by omega) (by omega)) dX4_holds_58 ?_
            refine lv_topi (fun x60000138 ex60000138 => ?_)
            have hx60000138 : 0 ≤ x60000138.toInt ∧ x60000138.toInt ≤ 999 := by rw [ex60000138]; exact hbg1 _
            refine lv_iadd hx hb dX4_holds_59 ?_
            refine lv_topi (fun x60000139 ex60000139 => ?_)
            have hx60000139 : x60000139.toInt = x60000102.toInt + x60000138.toInt := ti_add ex60000139 rfl rfl (by omega) (by omega)
            refine lv_istore_n (lv' := [(3, .int x60000139), (5, .int x60000100), (4, .int x60000101), (0, .ref a), (1, .int p1), (2, .int p2)]) hx hb dX4_holds_60 rfl hl (by decide) rfl (fun ls hl => ?_)
            refine lv_iload hx hb dX4_holds_61 (lv_at hl 2 rfl) ?_
            refine lv_aload_n hx hb dX4_holds_63 rfl (lv_at hl 3 rfl) ?_
            refine r_get (v := .ref (z 1)) C0 hE ffX4_1 mw_170 hP 0 rfl o4x_1 dX4_holds_64 ?_
            refine lv_iload hx hb dX4_holds_67 (lv_at hl 1 rfl) ?_
            refine va_iald hx hb hK hP 2 0 rfl rfl (in_ti rfl (by omega) (by omega)) dX4_holds_69 ?_
            refine lv_topi (fun x60000140 ex60000140 => ?_)
            have hx60000140 : 0 ≤ x60000140.toInt ∧ x60000140.toInt ≤ 999 := by rw [ex60000140]; exact hbg1 _
            refine va_mmax hx hb (by rw [hml]; exact hl.1.symm) hown (hT _ mw_753) (hT _ mw_239) (hT _ mw_12) (hT _ mw_240) (Nat.le_of_ble_eq_true rfl) (Nat.le_of_ble_eq_true rfl) (Nat.le_of_ble_eq_true rfl) (Nat.le_of_ble_eq_true rfl) dX4_holds_70 ?_
            refine lv_topi (fun x60000141 ex60000141 => ?_)
            have hx60000141 := max_ti (a := x60000101.toInt) (b := x60000140.toInt) ex60000141 rfl rfl
            refine lv_istore (lv' := [(4, .int x60000141), (3, .int x60000139), (5, .int x60000100), (0, .ref a), (1, .int p1), (2, .int p2)]) hx hb dX4_holds_73 hl (by decide) rfl (fun ls hl => ?_)
            obtain ⟨x60000142, ex60000142⟩ : ∃ y : Int32, y = x60000100 + 1 := ⟨_, rfl⟩
            have hx60000142 : x60000142.toInt = x60000100.toInt + 1 := ti_add ex60000142 rfl (by decide) (by omega) (by omega)
            refine lv_iinc (v := x60000142) (lv' := [(5, .int x60000142), (4, .int x60000141), (3, .int x60000139), (0, .ref a), (1, .int p1), (2, .int p2)]) hx hb dX4_holds_75 hl (k := 2) rfl (by rw [ex60000142]; rfl) (by decide) rfl (fun ls hl => ?_)
            refine lv_goto (tgt := 8) hx hb dX4_holds_78 (by decide) ?_
            exact ih60000122 x60000142 x60000141 x60000139 _ _ ls ⟨by omega, by omega⟩ ⟨by omega, by omega⟩ ⟨by omega, by omega⟩ (HLI.near hHL ex60000127 ex60000128 (by omega) (by omega) (by omega) (by omega) (by omega) ex60000131 ex60000132 ⟨by omega, by omega⟩ ex60000138 (by omega) (by have hh := congrArg Int32.toInt (ex60000140.trans ex60000138.symm); omega)) (by omega) (by omega) (hP.sub (ws' := [(a, .inr (4, O4 z i5 i6 i7 i8 i9 i10 i11 i12 i13)), ((z 0), .inl (T 0, 12, .inl g0)), ((z 1), .inl (T 0, 12, .inl g1)), ((z 3), .inl (T 0, 8, .inl g3)), ((z 4), .inl (T 0, 8, .inl g4))]) [0, 1, 2, 3, 4] rfl) (hD.sub (ws' := [(a, .inr (4, O4 z i5 i6 i7 i8 i9 i10 i11 i12 i13)), ((z 0), .inl (T 0, 12, .inl g0)), ((z 1), .inl (T 0, 12, .inl g1)), ((z 3), .inl (T 0, 8, .inl g3)), ((z 4), .inl (T 0, 8, .inl g4))]) [0, 1, 2, 3, 4] (by decide +kernel) rfl) hS (lv_sub hl [0, 1, 2, 3, 4, 5] rfl)
  have hl60000143 : (0 : Int32).toInt = 0 := by decide
  exact L60000120 _ 0 0 0 _ _ ls ⟨by decide, by decide⟩ ⟨by decide, by decide⟩ ⟨by decide, by decide⟩ HLI.zero (by omega) (Nat.lt_succ_self _) (hP.sub (ws' := [(a, .inr (4, O4 z i5 i6 i7 i8 i9 i10 i11 i12 i13)), ((z 0), .inl (T 0, 12, .inl g0)), ((z 1), .inl (T 0, 12, .inl g1)), ((z 3), .inl (T 0, 8, .inl g3)), ((z 4), .inl (T 0, 8, .inl g4))]) [0, 1, 2, 3, 4] rfl) (hD.sub (ws' := [(a, .inr (4, O4 z i5 i6 i7 i8 i9 i10 i11 i12 i13)), ((z 0), .inl (T 0, 12, .inl g0)), ((z 1), .inl (T 0, 12, .inl g1)), ((z 3), .inl (T 0, 8, .inl g3)), ((z 4), .inl (T 0, 8, .inl g4))]) [0, 1, 2, 3, 4] (by decide +kernel) rfl) hS (lv_sub hl [0, 1, 2, 3, 4, 5] rfl)
set_option maxHeartbeats 4000000 in
set_option maxRecDepth 100000 in
theorem k_X4_holdsAll_60000201 (l : Launch) (D : va_G) (T : Nat → ClassId) (sq sv sz : Nat) (a : Nat) (z : Nat → Nat) (i5 i6 i7 i8 i9 i10 i11 i12 i13 : Int32) (p1 : Int32) (g0 : Nat → Int32) (g1 : Nat → Int32) (g3 : Nat → Int32) (g4 : Nat → Int32) (hi5 : 0 ≤ i5.toInt ∧ i5.toInt ≤ 12) (hi6 : 0 ≤ i6.toInt ∧ i6.toInt ≤ 8) (hi9 : 0 ≤ i9.toInt ∧ i9.toInt ≤ 99) (hp1 : 0 ≤ p1.toInt ∧ p1.toInt ≤ 4095) (hbg0 : Bd (0) (99) g0) (hbg1 : Bd (0) (999) g1) (hbg3 : Bd (0) (99) g3) (hbg4 : Bd (0) (9999) g4) : Met l yX4_holdsAll (.code yX4_holdsAll cX4_holdsAll 3 (some .boolean) :: TB) { frames := 2, cells := 0, slots := 0, locals := 38 } (PC2 D T sq sv [.ref a, .int p1] [(a, .inr (4, O4 z i5 i6 i7 i8 i9 i10 i11 i12 i13)), ((z 0), .inl (T 0, 12, .inl g0)), ((z 1), .inl (T 0, 12, .inl g1)), ((z 3), .inl (T 0, 8, .inl g3)), ((z 4), .inl (T 0, 8, .inl g4))] sz) (Qi (S := Unit) (fun (r : Int32) (_ : Unit) => (RHA (Int32.toNatClampNeg i5) (Int32.toNatClampNeg i6) g0 g1 g3 g4 i9.toInt p1 r) ∧ (0 ≤ r.toInt ∧ r.toInt ≤ 1)) (fun (_ : Unit) => [(a, .inr (4, O4 z i5 i6 i7 i8 i9 i10 i11 i12 i13)), ((z 0), .inl (T 0, 12, .inl g0)), ((z 1), .inl (T 0, 12, .inl g1)), ((z 3), .inl (T 0, 8, .inl g3)), ((z 4), .inl (T 0, 8, .inl g4))]) D (va_A [(a, .inr (4, O4 z i5 i6 i7 i8 i9 i10 i11 i12 i13)), ((z 0), .inl (T 0, 12, .inl g0)), ((z 1), .inl (T 0, 12, .inl g1)), ((z 3), .inl (T 0, 8, .inl g3)), ((z 4), .inl (T 0, 8, .inl g4))] sz)) 0 0 (va_A [(a, .inr (4, O4 z i5 i6 i7 i8 i9 i10 i11 i12 i13)), ((z 0), .inl (T 0, 12, .inl g0)), ((z 1), .inl (T 0, 12, .inl g1)), ((z 3), .inl (T 0, 8, .inl g3)), ((z 4), .inl (T 0, 8, .inl g4))] sz) := by
  refine ct_begin2 (Qc := Qi (S := Unit) (fun (r : Int32) (_ : Unit) => (RHA (Int32.toNatClampNeg i5) (Int32.toNatClampNeg i6) g0 g1 g3 g4 i9.toInt p1 r) ∧ (0 ≤ r.toInt ∧ r.toInt ≤ 1)) (fun (_ : Unit) => [(a, .inr (4, O4 z i5 i6 i7 i8 i9 i10 i11 i12 i13)), ((z 0), .inl (T 0, 12, .inl g0)), ((z 1), .inl (T 0, 12, .inl g1)), ((z 3), .inl (T 0, 8, .inl g3)), ((z 4), .inl (T 0, 8, .inl g4))]) D) (by decide +kernel) (Nat.le_of_ble_eq_true rfl) ?_
  intro p e s m below meth c A ls C0 hr hlocks hnm hE hStr hA hP hD hl
  generalize ([.ref a, .int p1] : List Value).toArray = args at C0 ⊢
  have hx := C0.1
  have hb := C0.2.1
  have hml := C0.2.2.1
  have hown := C0.2.2.2.1
  have hT := C0.2.2.2.2
  have hK := hE.1
  generalize hH : s.heap = H at hP ⊢
  have hS : va_S A s.heap H [] := by rw [← hH]; exact va_S.rf
  have hP : va_P D vwCl [(a, .inr (4, O4 z i5 i6 i7 i8 i9 i10 i11 i12 i13)), ((z 0), .inl (T 0, 12, .inl g0)), ((z 1), .inl (T 0, 12, .inl g1)), ((z 3), .inl (T 0, 8, .inl g3)), ((z 4), .inl (T 0, 8, .inl g4))] H := hP
  have hD : va_D A [(a, .inr (4, O4 z i5 i6 i7 i8 i9 i10 i11 i12 i13)), ((z 0), .inl (T 0, 12, .inl g0)), ((z 1), .inl (T 0, 12, .inl g1)), ((z 3), .inl (T 0, 8, .inl g3)), ((z 4), .inl (T 0, 8, .inl g4))] := hD
  have hl : lv_has ls 3 [(0, .ref a), (1, .int p1)] := hl
  refine lv_iconst (v := 0) hx hb dX4_holdsAll_0 (by decide) ?_
  refine lv_istore_n (lv' := [(2, .int 0), (0, .ref a), (1, .int p1)]) hx hb dX4_holdsAll_1 rfl hl (by decide) rfl (fun ls hl => ?_)
  have L60000254 : ∀ (n : Nat) (x60000248 : Int32) (H : Heap) (locs : List Loc) (ls : Array Slot), (0 ≤ x60000248.toInt ∧ x60000248.toInt ≤ 8) → (HA (Int32.toNatClampNeg i5) (Int32.toNatClampNeg x60000248) g0 g1 g3 g4 i9.toInt (Int32.toNatClampNeg p1)) → (9 - x60000248.toInt).toNat < n → va_P D vwCl [(a, .inr (4, O4 z i5 i6 i7 i8 i9 i10 i11 i12 i13)), ((z 0), .inl (T 0, 12, .inl g0)), ((z 1), .inl (T 0, 12, .inl g1)), ((z 3), .inl (T 0, 8, .inl g3)), ((z 4), .inl (T 0, 8, .inl g4))] H → va_D A [(a, .inr (4, O4 z i5 i6 i7 i8 i9 i10 i11 i12 i13)), ((z 0), .inl (T 0, 12, .inl g0)), ((z 1), .inl (T 0, 12, .inl g1)), ((z 3), .inl (T 0, 8, .inl g3)), ((z 4), .inl (T 0, 8, .inl g4))] → va_S A s.heap H locs → lv_has ls 3 [(2, .int x60000248), (0, .ref a), (1, .int p1)] → W p l e { frames := 2, cells := 0, slots := 0, locals := 38 } s m args below meth c H locs 0 0 (MQ below ((Qi (S := Unit) (fun (r : Int32) (_ : Unit) => (RHA (Int32.toNatClampNeg i5) (Int32.toNatClampNeg i6) g0 g1 g3 g4 i9.toInt p1 r) ∧ (0 ≤ r.toInt ∧ r.toInt ≤ 1)) (fun (_ : Unit) => [(a, .inr (4, O4 z i5 i6 i7 i8 i9 i10 i11 i12 i13)), ((z 0), .inl (T 0, 12, .inl g0)), ((z 1), .inl (T 0, 12, .inl g1)), ((z 3), .inl (T 0, 8, .inl g3)), ((z 4), .inl (T 0, 8, .inl g4))]) D) A) args s 0 0 A) (F0 m 2 ls []) := by
    intro n
    induction n with
    | zero =>
      intro x60000248 H locs ls hx60000248 hHA hms hP hD hS hl
      exact absurd hms (Nat.not_lt_zero _)
    | succ n ih60000255 =>
      intro x60000248 H locs ls hx60000248 hHA hms hP hD hS hl
      refine lv_iload_n hx hb dX4_holdsAll_2 rfl (lv_at hl 0 rfl) ?_
      refine lv_aload_n hx hb dX4_holdsAll_3 rfl (lv_at hl 1 rfl) ?_
      refine r_get (v := .int i6) C0 hE ffX4_6 mw_176 hP 0 rfl o4x_6 dX4_holdsAll_4 ?_
      refine lv_icmp_ge (tgt := 27) hx hb dX4_holdsAll_7 (by decide) (fun c60000256 => ?_) (fun c60000256 => ?_)
      · skip
        have kc60000256 : i6.toInt ≤ x60000248.toInt := le_ti rfl rfl c60000256
        refine lv_iconst (v := 1) hx hb dX4_holdsAll_27 (by decide) ?_
        exact r_zret () C0 hr (by decide +kernel) hlocks hS (Nat.le_refl _) (Nat.le_refl _) dX4_holdsAll_28 ⟨(rha_yes hHA (by omega) (by have ht6 := tn (x := i6) (by omega); omega)), ⟨by decide, by decide⟩⟩ (hP.sub (ws' := [(a, .inr (4, O4 z i5 i6 i7 i8 i9 i10 i11 i12 i13)), ((z 0), .inl (T 0, 12, .inl g0)), ((z 1), .inl (T 0, 12, .inl g1)), ((z 3), .inl (T 0, 8, .inl g3)), ((z 4), .inl (T 0, 8, .inl g4))]) [0, 1, 2, 3, 4] rfl) (hD.sub (ws' := [(a, .inr (4, O4 z i5 i6 i7 i8 i9 i10 i11 i12 i13)), ((z 0), .inl (T 0, 12, .inl g0)), ((z 1), .inl (T 0, 12, .inl g1)), ((z 3), .inl (T 0, 8, .inl g3)), ((z 4), .inl (T 0, 8, .inl g4))]) [0, 1, 2, 3, 4] (by decide +kernel) rfl)
      · skip
        have kc60000256 : x60000248.toInt < i6.toInt := nle_ti rfl rfl c60000256
        refine lv_aload_n hx hb dX4_holdsAll_10 rfl (lv_at hl 1 rfl) ?_
        refine lv_iload_n hx hb dX4_holdsAll_11 rfl (lv_at hl 2 rfl) ?_
        refine lv_iload_n hx hb dX4_holdsAll_12 rfl (lv_at hl 0 rfl) ?_
        refine r_calli (wr := []) (r_runV2 (As := [.int p1, .int x60000248]) (rest := []) (wc := [(a, .inr (4, O4 z i5 i6 i7 i8 i9 i10 i11 i12 i13)), ((z 0), .inl (T 0, 12, .inl g0)), ((z 1), .inl (T 0, 12, .inl g1)), ((z 3), .inl (T 0, 8, .inl g3)), ((z 4), .inl (T 0, 8, .inl g4))]) (ci := 4) C0 hE hStr hS (va_free (wc := [(a, .inr (4, O4 z i5 i6 i7 i8 i9 i10 i11 i12 i13)), ((z 0), .inl (T 0, 12, .inl g0)), ((z 1), .inl (T 0, 12, .inl g1)), ((z 3), .inl (T 0, 8, .inl g3)), ((z 4), .inl (T 0, 8, .inl g4))]) hD hS hA [0, 1, 2, 3, 4] rfl) (k_X4_holds_60000085 l D T sq sv H.size a z i5 i6 i7 i8 i9 i10 i11 i12 i13 p1 x60000248 g0 g1 g3 g4 ⟨by omega, by omega⟩ ⟨by omega, by omega⟩ ⟨by omega, by omega⟩ ⟨by omega, by omega⟩ hbg0 hbg1 hbg3 hbg4) mw_747 mw_748 mw_1295 mw_9 mw_749 dn_1603 rfl rfl ⟨Nat.le_of_ble_eq_true rfl, Nat.le_of_ble_eq_true rfl⟩ (hP.sub (ws' := [(a, .inr (4, O4 z i5 i6 i7 i8 i9 i10 i11 i12 i13)), ((z 0), .inl (T 0, 12, .inl g0)), ((z 1), .inl (T 0, 12, .inl g1)), ((z 3), .inl (T 0, 8, .inl g3)), ((z 4), .inl (T 0, 8, .inl g4))]) [0, 1, 2, 3, 4] rfl) (hD.sub (ws' := [(a, .inr (4, O4 z i5 i6 i7 i8 i9 i10 i11 i12 i13)), ((z 0), .inl (T 0, 12, .inl g0)), ((z 1), .inl (T 0, 12, .inl g1)), ((z 3), .inl (T 0, 8, .inl g3)), ((z 4), .inl (T 0, 8, .inl g4))]) [0, 1, 2, 3, 4] (by decide +kernel) rfl) rfl rfl rfl hl.1 rfl (Nat.le_of_ble_eq_true rfl) dX4_holdsAll_13 ⟨Nat.le_of_ble_eq_true rfl, Nat.le_of_ble_eq_true rfl⟩) hP hD hS hA [0, 1, 2, 3, 4] [] rfl rfl (by decide +kernel) (by decide +kernel) (fun x60000257 u H locs hq hP hD hS => ?_)
        obtain ⟨hg60000258, hx60000257⟩ := hq
        have hg60000258 : RHO (Int32.toNatClampNeg i5) g0 g1 g3 g4 i9.toInt p1 x60000248 x60000257 := hg60000258
        have hx60000257 : 0 ≤ x60000257.toInt ∧ x60000257.toInt ≤ 1 := hx60000257
        have hP : va_P D vwCl [(a, .inr (4, O4 z i5 i6 i7 i8 i9 i10 i11 i12 i13)), ((z 0), .inl (T 0, 12, .inl g0)), ((z 1), .inl (T 0, 12, .inl g1)), ((z 3), .inl (T 0, 8, .inl g3)), ((z 4), .inl (T 0, 8, .inl g4))] H := hP
        have hD : va_D A [(a, .inr (4, O4 z i5 i6 i7 i8 i9 i10 i11 i12 i13)), ((z 0), .inl (T 0, 12, .inl g0)), ((z 1), .inl (T 0, 12, .inl g1)), ((z 3), .inl (T 0, 8, .inl g3)), ((z 4), .inl (T 0, 8, .inl g4))] := hD
        refine W.widen (k := 0) (n := 0) (Nat.le_refl _) (Nat.le_refl _) ?_
        refine lv_if_ne (tgt := 21) hx hb dX4_holdsAll_16 (by decide) (fun c60000259 => ?_) (fun c60000259 => ?_)
        · skip
          have kc60000259 : x60000257.toInt ≠ 0 := ne_ti rfl (by decide) c60000259
          have nzx60000257 : ¬ x60000257 = 0 := c60000259
          obtain ⟨x60000260, ex60000260⟩ : ∃ y : Int32, y = x60000248 + 1 := ⟨_, rfl⟩
          have hx60000260 : x60000260.toInt = x60000248.toInt + 1 := ti_add ex60000260 rfl (by decide) (by omega) (by omega)
          refine lv_iinc (v := x60000260) (lv' := [(2, .int x60000260), (0, .ref a), (1, .int p1)]) hx hb dX4_holdsAll_21 hl (k := 0) rfl (by rw [ex60000260]; rfl) (by decide) rfl (fun ls hl => ?_)
          refine lv_goto (tgt := 2) hx hb dX4_holdsAll_24 (by decide) ?_
          exact ih60000255 x60000260 _ _ ls ⟨by omega, by omega⟩ (ha_step hHA hg60000258 (by omega) (by omega) (by omega)) (by omega) (hP.sub (ws' := [(a, .inr (4, O4 z i5 i6 i7 i8 i9 i10 i11 i12 i13)), ((z 0), .inl (T 0, 12, .inl g0)), ((z 1), .inl (T 0, 12, .inl g1)), ((z 3), .inl (T 0, 8, .inl g3)), ((z 4), .inl (T 0, 8, .inl g4))]) [0, 1, 2, 3, 4] rfl) (hD.sub (ws' := [(a, .inr (4, O4 z i5 i6 i7 i8 i9 i10 i11 i12 i13)), ((z 0), .inl (T 0, 12, .inl g0)), ((z 1), .inl (T 0, 12, .inl g1)), ((z 3), .inl (T 0, 8, .inl g3)), ((z 4), .inl (T 0, 8, .inl g4))]) [0, 1, 2, 3, 4] (by decide +kernel) rfl) hS (lv_sub hl [0, 1, 2] rfl)
        · skip
          have kc60000259 : x60000257.toInt = 0 := eq_ti rfl (by decide) c60000259
          refine lv_iconst (v := 0) hx hb dX4_holdsAll_19 (by decide) ?_
          exact r_zret () C0 hr (by decide +kernel) hlocks hS (Nat.le_refl _) (Nat.le_refl _) dX4_holdsAll_20 ⟨(rha_no hg60000258 (by omega) (by have ht6 := tn (x := i6) (by omega); omega) (by omega)), ⟨by decide, by decide⟩⟩ (hP.sub (ws' := [(a, .inr (4, O4 z i5 i6 i7 i8 i9 i10 i11 i12 i13)), ((z 0), .inl (T 0, 12, .inl g0)), ((z 1), .inl (T 0, 12, .inl g1)), ((z 3), .inl (T 0, 8, .inl g3)), ((z 4), .inl (T 0, 8, .inl g4))]) [0, 1, 2, 3, 4] rfl) (hD.sub (ws' := [(a, .inr (4, O4 z i5 i6 i7 i8 i9 i10 i11 i12 i13)), ((z 0), .inl (T 0, 12, .inl g0)), ((z 1), .inl (T 0, 12, .inl g1)), ((z 3), .inl (T 0, 8, .inl g3)), ((z 4), .inl (T 0, 8, .inl g4))]) [0, 1, 2, 3, 4] (by decide +kernel) rfl)
  have hl60000261 : (0 : Int32).toInt = 0 := by decide
  exact L60000254 _ 0 _ _ ls ⟨by decide, by decide⟩ ha_zero (Nat.lt_succ_self _) (hP.sub (ws' := [(a, .inr (4, O4 z i5 i6 i7 i8 i9 i10 i11 i12 i13)), ((z 0), .inl (T 0, 12, .inl g0)), ((z 1), .inl (T 0, 12, .inl g1)), ((z 3), .inl (T 0, 8, .inl g3)), ((z 4), .inl (T 0, 8, .inl g4))]) [0, 1, 2, 3, 4] rfl) (hD.sub (ws' := [(a, .inr (4, O4 z i5 i6 i7 i8 i9 i10 i11 i12 i13)), ((z 0), .inl (T 0, 12, .inl g0)), ((z 1), .inl (T 0, 12, .inl g1)), ((z 3), .inl (T 0, 8, .inl g3)), ((z 4), .inl (T 0, 8, .inl g4))]) [0, 1, 2, 3, 4] (by decide +kernel) rfl) hS (lv_sub hl [0, 1, 2] rfl)
def SX (d : Nat) : Prop := ∀ (l : Launch) (D : va_G) (T : Nat → ClassId) (sq sv sz : Nat) (a : Nat) (z : Nat → Nat) (i5 i6 i7 i8 i9 i10 i11 i12 i13 : Int32) (p1 : Int32) (p2 : Int32) (p3 : Int32) (p4 : Int32) (p5 : Int32) (g0 : Nat → Int32) (g1 : Nat → Int32) (g2 : Nat → Int32) (g3 : Nat → Int32) (g4 : Nat → Int32) (hi5 : 0 ≤ i5.toInt ∧ i5.toInt ≤ 12) (hi6 : 0 ≤ i6.toInt ∧ i6.toInt ≤ 8) (hi9 : 0 ≤ i9.toInt ∧ i9.toInt ≤ 99) (hp1 : 0 ≤ p1.toInt ∧ p1.toInt ≤ 12) (hp2 : 0 ≤ p2.toInt ∧ p2.toInt ≤ 4095) (hp3 : 0 ≤ p3.toInt ∧ p3.toInt ≤ 11988) (hp4 : 0 ≤ p4.toInt ∧ p4.toInt ≤ 12) (hp5 : 0 ≤ p5.toInt ∧ p5.toInt ≤ 11988) (hbg0 : Bd (0) (99) g0) (hbg1 : Bd (0) (999) g1) (hbg2 : Bd (0) (999) g2) (hbg3 : Bd (0) (99) g3) (hbg4 : Bd (0) (9999) g4) (hpre0 : p1.toInt + d = 12) (hSIN : SIN (Int32.toNatClampNeg i5) (Int32.toNatClampNeg i6) g0 g1 g2 g3 g4 i9.toInt (Int32.toNatClampNeg p1) (Int32.toNatClampNeg p2) p3.toInt p4.toInt p5.toInt), Met l yX4_search (.code yX4_search cX4_search 7 none :: TB) { frames := 2 * d + 6, cells := 0, slots := 0, locals := 60 * d + 200 } (PC2 D T sq sv [.ref a, .int p1, .int p2, .int p3, .int p4, .int p5] [(a, .inr (4, O4 z i5 i6 i7 i8 i9 i10 i11 i12 i13)), ((z 0), .inl (T 0, 12, .inl g0)), ((z 1), .inl (T 0, 12, .inl g1)), ((z 2), .inl (T 0, 12, .inl g2)), ((z 3), .inl (T 0, 8, .inl g3)), ((z 4), .inl (T 0, 8, .inl g4))] sz) (Qv2 (S := Int32 × Int32 × Int32) (fun (u : Int32 × Int32 × Int32) => match u with | (ui11, ui12, ui13) => (SR (Int32.toNatClampNeg i5) (cst g2) (VA (Int32.toNatClampNeg i5) (Int32.toNatClampNeg i6) g0 g1 g3 g4 i9.toInt i10.toInt) (Int32.toNatClampNeg p1) (Int32.toNatClampNeg p2) i11.toInt i12.toInt i13.toInt ui11.toInt ui12.toInt ui13.toInt)) (fun (u : Int32 × Int32 × Int32) => match u with | (ui11, ui12, ui13) => [(a, .inr (4, O4 z i5 i6 i7 i8 i9 i10 ui11 ui12 ui13)), ((z 0), .inl (T 0, 12, .inl g0)), ((z 1), .inl (T 0, 12, .inl g1)), ((z 2), .inl (T 0, 12, .inl g2)), ((z 3), .inl (T 0, 8, .inl g3)), ((z 4), .inl (T 0, 8, .inl g4))]) D (va_A [(a, .inr (4, O4 z i5 i6 i7 i8 i9 i10 i11 i12 i13)), ((z 0), .inl (T 0, 12, .inl g0)), ((z 1), .inl (T 0, 12, .inl g1)), ((z 2), .inl (T 0, 12, .inl g2)), ((z 3), .inl (T 0, 8, .inl g3)), ((z 4), .inl (T 0, 8, .inl g4))] sz)) 0 0 (va_A [(a, .inr (4, O4 z i5 i6 i7 i8 i9 i10 i11 i12 i13)), ((z 0), .inl (T 0, 12, .inl g0)), ((z 1), .inl (T 0, 12, .inl g1)), ((z 2), .inl (T 0, 12, .inl g2)), ((z 3), .inl (T 0, 8, .inl g3)), ((z 4), .inl (T 0, 8, .inl g4))] sz)
set_option maxHeartbeats 4000000 in
set_option maxRecDepth 100000 in
theorem sx_1 (d : Nat) (ih : ∀ q, q < d → SX q) : SX d := by
  intro l D T sq sv sz a z i5 i6 i7 i8 i9 i10 i11 i12 i13 p1 p2 p3 p4 p5 g0 g1 g2 g3 g4 hi5 hi6 hi9 hp1 hp2 hp3 hp4 hp5 hbg0 hbg1 hbg2 hbg3 hbg4 hpre0 hSIN
  refine ct_begin2 (Qc := Qv2 (S := Int32 × Int32 × Int32) (fun (u : Int32 × Int32 × Int32) => match u with | (ui11, ui12, ui13) => (SR (Int32.toNatClampNeg i5) (cst g2) (VA (Int32.toNatClampNeg i5) (Int32.toNatClampNeg i6) g0 g1 g3 g4 i9.toInt i10.toInt) (Int32.toNatClampNeg p1) (Int32.toNatClampNeg p2) i11.toInt i12.toInt i13.toInt ui11.toInt ui12.toInt ui13.toInt)) (fun (u : Int32 × Int32 × Int32) => match u with | (ui11, ui12, ui13) => [(a, .inr (4, O4 z i5 i6 i7 i8 i9 i10 ui11 ui12 ui13)), ((z 0), .inl (T 0, 12, .inl g0)), ((z 1), .inl (T 0, 12, .inl g1)), ((z 2), .inl (T 0, 12, .inl g2)), ((z 3), .inl (T 0, 8, .inl g3)), ((z 4), .inl (T 0, 8, .inl g4))]) D) (by decide +kernel) (Nat.le_of_ble_eq_true rfl) ?_
  intro p e s m below meth c A ls C0 hr hlocks hnm hE hStr hA hP hD hl
  generalize ([.ref a, .int p1, .int p2, .int p3, .int p4, .int p5] : List Value).toArray = args at C0 ⊢
  have hx := C0.1
  have hb := C0.2.1
  have hml := C0.2.2.1
  have hown := C0.2.2.2.1
  have hT := C0.2.2.2.2
  have hK := hE.1
  generalize hH : s.heap = H at hP ⊢
  have hS : va_S A s.heap H [] := by rw [← hH]; exact va_S.rf
  have hP : va_P D vwCl [(a, .inr (4, O4 z i5 i6 i7 i8 i9 i10 i11 i12 i13)), ((z 0), .inl (T 0, 12, .inl g0)), ((z 1), .inl (T 0, 12, .inl g1)), ((z 2), .inl (T 0, 12, .inl g2)), ((z 3), .inl (T 0, 8, .inl g3)), ((z 4), .inl (T 0, 8, .inl g4))] H := hP
  have hD : va_D A [(a, .inr (4, O4 z i5 i6 i7 i8 i9 i10 i11 i12 i13)), ((z 0), .inl (T 0, 12, .inl g0)), ((z 1), .inl (T 0, 12, .inl g1)), ((z 2), .inl (T 0, 12, .inl g2)), ((z 3), .inl (T 0, 8, .inl g3)), ((z 4), .inl (T 0, 8, .inl g4))] := hD
  have hl : lv_has ls 7 [(0, .ref a), (1, .int p1), (2, .int p2), (3, .int p3), (4, .int p4), (5, .int p5)] := hl
  have hrg := SIN.rng hbg1 hbg2 hSIN; have hn1 := tn (x := p1) (by omega); have hn5 := tn (x := i5) (by omega)
  refine lv_iload hx hb dX4_search_0 (lv_at hl 5 rfl) ?_
  refine lv_aload_n hx hb dX4_search_2 rfl (lv_at hl 0 rfl) ?_
  refine r_get (v := .int i10) C0 hE ffX4_10 mw_183 hP 0 rfl o4x_10 dX4_search_3 ?_
  refine lv_icmp_gt (tgt := 34) hx hb dX4_search_6 (by decide) (fun c60000313 => ?_) (fun c60000313 => ?_)
  · skip
    have kc60000313 : i10.toInt < p5.toInt := lt_ti rfl rfl c60000313
    have rg60000314 := i32_rng i10
    exact r_vret2 (i11, i12, i13) C0 hr hlocks hS (Nat.le_refl _) (Nat.le_refl _) dX4_search_34 (SIN.bore hbg1 hSIN (by omega)) (hP.sub (ws' := [(a, .inr (4, O4 z i5 i6 i7 i8 i9 i10 i11 i12 i13)), ((z 0), .inl (T 0, 12, .inl g0)), ((z 1), .inl (T 0, 12, .inl g1)), ((z 2), .inl (T 0, 12, .inl g2)), ((z 3), .inl (T 0, 8, .inl g3)), ((z 4), .inl (T 0, 8, .inl g4))]) [0, 1, 2, 3, 4, 5] rfl) (hD.sub (ws' := [(a, .inr (4, O4 z i5 i6 i7 i8 i9 i10 i11 i12 i13)), ((z 0), .inl (T 0, 12, .inl g0)), ((z 1), .inl (T 0, 12, .inl g1)), ((z 2), .inl (T 0, 12, .inl g2)), ((z 3), .inl (T 0, 8, .inl g3)), ((z 4), .inl (T 0, 8, .inl g4))]) [0, 1, 2, 3, 4, 5] (by decide +kernel) rfl)
  · skip
    have kc60000313 : p5.toInt ≤ i10.toInt := nlt_ti rfl rfl c60000313
    refine lv_iload_n hx hb dX4_search_9 rfl (lv_at hl 3 rfl) ?_
    refine lv_aload_n hx hb dX4_search_10 rfl (lv_at hl 0 rfl) ?_
    refine r_get (v := .int i11) C0 hE ffX4_11 mw_184 hP 0 rfl o4x_11 dX4_search_11 ?_
    refine lv_icmp_gt (tgt := 34) hx hb dX4_search_14 (by decide) (fun c60000315 => ?_) (fun c60000315 => ?_)
    · skip
      have kc60000315 : i11.toInt < p3.toInt := lt_ti rfl rfl c60000315
      have rg60000316 := i32_rng i11
      exact r_vret2 (i11, i12, i13) C0 hr hlocks hS (Nat.le_refl _) (Nat.le_refl _) dX4_search_34 (SIN.paid hbg2 hSIN (by omega)) (hP.sub (ws' := [(a, .inr (4, O4 z i5 i6 i7 i8 i9 i10 i11 i12 i13)), ((z 0), .inl (T 0, 12, .inl g0)), ((z 1), .inl (T 0, 12, .inl g1)), ((z 2), .inl (T 0, 12, .inl g2)), ((z 3), .inl (T 0, 8, .inl g3)), ((z 4), .inl (T 0, 8, .inl g4))]) [0, 1, 2, 3, 4, 5] rfl) (hD.sub (ws' := [(a, .inr (4, O4 z i5 i6 i7 i8 i9 i10 i11 i12 i13)), ((z 0), .inl (T 0, 12, .inl g0)), ((z 1), .inl (T 0, 12, .inl g1)), ((z 2), .inl (T 0, 12, .inl g2)), ((z 3), .inl (T 0, 8, .inl g3)), ((z 4), .inl (T 0, 8, .inl g4))]) [0, 1, 2, 3, 4, 5] (by decide +kernel) rfl)
    · skip
      have kc60000315 : p3.toInt ≤ i11.toInt := nlt_ti rfl rfl c60000315
      refine lv_iload_n hx hb dX4_search_17 rfl (lv_at hl 3 rfl) ?_
      refine lv_aload_n hx hb dX4_search_18 rfl (lv_at hl 0 rfl) ?_
      refine r_get (v := .int i11) C0 hE ffX4_11 mw_184 hP 0 rfl o4x_11 dX4_search_19 ?_
      refine lv_icmp_ne (tgt := 35) hx hb dX4_search_22 (by decide) (fun c60000317 => ?_) (fun c60000317 => ?_)
      · skip
        have kc60000317 : p3.toInt ≠ i11.toInt := ne_ti rfl rfl c60000317
        refine lv_iload_n hx hb dX4_search_35 rfl (lv_at hl 1 rfl) ?_
        refine lv_aload_n hx hb dX4_search_36 rfl (lv_at hl 0 rfl) ?_
        refine r_get (v := .int i5) C0 hE ffX4_5 mw_174 hP 0 rfl o4x_5 dX4_search_37 ?_
        refine lv_icmp_lt (tgt := 60) hx hb dX4_search_40 (by decide) (fun c60000318 => ?_) (fun c60000318 => ?_)
        · skip
          have kc60000318 : p1.toInt < i5.toInt := lt_ti rfl rfl c60000318
          refine lv_aload_n hx hb dX4_search_60 rfl (lv_at hl 0 rfl) ?_
          refine lv_iload_n hx hb dX4_search_61 rfl (lv_at hl 1 rfl) ?_
          refine lv_iconst (v := 1) hx hb dX4_search_62 (by decide) ?_
          refine lv_iadd hx hb dX4_search_63 ?_
          refine lv_topi (fun x60000319 ex60000319 => ?_)
          have hx60000319 : x60000319.toInt = p1.toInt + 1 := ti_add ex60000319 rfl (by decide) (by omega) (by omega)
          refine lv_iload_n hx hb dX4_search_64 rfl (lv_at hl 2 rfl) ?_
          refine lv_iload_n hx hb dX4_search_65 rfl (lv_at hl 3 rfl) ?_
          refine lv_aload_n hx hb dX4_search_66 rfl (lv_at hl 0 rfl) ?_
          refine r_get (v := .ref (z 2)) C0 hE ffX4_2 mw_171 hP 0 rfl o4x_2 dX4_search_67 ?_
          refine lv_iload_n hx hb dX4_search_70 rfl (lv_at hl 1 rfl) ?_
          refine va_iald hx hb hK hP 3 0 rfl rfl (in_ti rfl (by omega) (by omega)) dX4_search_71 ?_
          refine lv_topi (fun x60000320 ex60000320 => ?_)
          have hx60000320 : 0 ≤ x60000320.toInt ∧ x60000320.toInt ≤ 999 := by rw [ex60000320]; exact hbg2 _
          refine lv_iadd hx hb dX4_search_72 ?_
          refine lv_topi (fun x60000321 ex60000321 => ?_)
          have hx60000321 : x60000321.toInt = p3.toInt + x60000320.toInt := ti_add ex60000321 rfl rfl (by omega) (by omega)
          refine lv_iload hx hb dX4_search_73 (lv_at hl 4 rfl) ?_
          refine lv_iconst (v := 1) hx hb dX4_search_75 (by decide) ?_
          refine lv_iadd hx hb dX4_search_76 ?_
          refine lv_topi (fun x60000322 ex60000322 => ?_)
          have hx60000322 : x60000322.toInt = p4.toInt + 1 := ti_add ex60000322 rfl (by decide) (by omega) (by omega)
          refine lv_iload hx hb dX4_search_77 (lv_at hl 5 rfl) ?_
          refine lv_aload_n hx hb dX4_search_79 rfl (lv_at hl 0 rfl) ?_
          refine r_get (v := .ref (z 1)) C0 hE ffX4_1 mw_170 hP 0 rfl o4x_1 dX4_search_80 ?_
          refine lv_iload_n hx hb dX4_search_83 rfl (lv_at hl 1 rfl) ?_
          refine va_iald hx hb hK hP 2 0 rfl rfl (in_ti rfl (by omega) (by omega)) dX4_search_84 ?_
          refine lv_topi (fun x60000323 ex60000323 => ?_)
          have hx60000323 : 0 ≤ x60000323.toInt ∧ x60000323.toInt ≤ 999 := by rw [ex60000323]; exact hbg1 _
          refine lv_iadd hx hb dX4_search_85 ?_
          refine lv_topi (fun x60000324 ex60000324 => ?_)
          have hx60000324 : x60000324.toInt = p5.toInt + x60000323.toInt := ti_add ex60000324 rfl rfl (by omega) (by omega)
          refine r_callv2 (wr := []) (r_runV2 (As := [.int x60000319, .int p2, .int x60000321, .int x60000322, .int x60000324]) (rest := []) (wc := [(a, .inr (4, O4 z i5 i6 i7 i8 i9 i10 i11 i12 i13)), ((z 0), .inl (T 0, 12, .inl g0)), ((z 1), .inl (T 0, 12, .inl g1)), ((z 2), .inl (T 0, 12, .inl g2)), ((z 3), .inl (T 0, 8, .inl g3)), ((z 4), .inl (T 0, 8, .inl g4))]) (ci := 4) C0 hE hStr hS (va_free (wc := [(a, .inr (4, O4 z i5 i6 i7 i8 i9 i10 i11 i12 i13)), ((z 0), .inl (T 0, 12, .inl g0)), ((z 1), .inl (T 0, 12, .inl g1)), ((z 2), .inl (T 0, 12, .inl g2)), ((z 3), .inl (T 0, 8, .inl g3)), ((z 4), .inl (T 0, 8, .inl g4))]) hD hS hA [0, 1, 2, 3, 4, 5] rfl) (ih (d - 1) (by omega) l D T sq sv H.size a z i5 i6 i7 i8 i9 i10 i11 i12 i13 x60000319 p2 x60000321 x60000322 x60000324 g0 g1 g2 g3 g4 ⟨by omega, by omega⟩ ⟨by omega, by omega⟩ ⟨by omega, by omega⟩ ⟨by omega, by omega⟩ ⟨by omega, by omega⟩ ⟨by omega, by omega⟩ ⟨by omega, by omega⟩ ⟨by omega, by omega⟩ hbg0 hbg1 hbg2 hbg3 hbg4 (by omega) (SIN.keepI hSIN (by omega) (by omega) (by have ht5 := tn (x := i5) (by omega); have hn1 := tn (x := p1) (by omega); omega) (by rw [← ex60000320]; omega) (by omega) (by rw [← ex60000323]; omega))) mw_754 mw_755 mw_1296 mw_9 mw_756 dn_1601 rfl rfl ⟨by show 2 * (d - 1) + 6 + 1 ≤ 2 * d + 6; omega, by show 8 + (7 + 11) + (60 * (d - 1) + 200) ≤ 60 * d + 200; omega⟩ (hP.sub (ws' := [(a, .inr (4, O4 z i5 i6 i7 i8 i9 i10 i11 i12 i13)), ((z 0), .inl (T 0, 12, .inl g0)), ((z 1), .inl (T 0, 12, .inl g1)), ((z 2), .inl (T 0, 12, .inl g2)), ((z 3), .inl (T 0, 8, .inl g3)), ((z 4), .inl (T 0, 8, .inl g4))]) [0, 1, 2, 3, 4, 5] rfl) (hD.sub (ws' := [(a, .inr (4, O4 z i5 i6 i7 i8 i9 i10 i11 i12 i13)), ((z 0), .inl (T 0, 12, .inl g0)), ((z 1), .inl (T 0, 12, .inl g1)), ((z 2), .inl (T 0, 12, .inl g2)), ((z 3), .inl (T 0, 8, .inl g3)), ((z 4), .inl (T 0, 8, .inl g4))]) [0, 1, 2, 3, 4, 5] (by decide +kernel) rfl) rfl rfl rfl hl.1 rfl (Nat.le_of_ble_eq_true rfl) dX4_search_86 ⟨Nat.le_of_ble_eq_true rfl, Nat.le_of_ble_eq_true rfl⟩) hP hD hS hA [0, 1, 2, 3, 4, 5] [] rfl rfl (by decide +kernel) (by decide +kernel) (fun u H locs hq hP hD hS => ?_)
          obtain ⟨x60000325, x60000326, x60000327⟩ := u
          have hg60000328 := hq
          have hg60000328 : SR (Int32.toNatClampNeg i5) (cst g2) (VA (Int32.toNatClampNeg i5) (Int32.toNatClampNeg i6) g0 g1 g3 g4 i9.toInt i10.toInt) (Int32.toNatClampNeg x60000319) (Int32.toNatClampNeg p2) i11.toInt i12.toInt i13.toInt x60000325.toInt x60000326.toInt x60000327.toInt := hg60000328
          have hP : va_P D vwCl [(a, .inr (4, O4 z i5 i6 i7 i8 i9 i10 x60000325 x60000326 x60000327)), ((z 0), .inl (T 0, 12, .inl g0)), ((z 1), .inl (T 0, 12, .inl g1)), ((z 2), .inl (T 0, 12, .inl g2)), ((z 3), .inl (T 0, 8, .inl g3)), ((z 4), .inl (T 0, 8, .inl g4))] H := hP
          have hD : va_D A [(a, .inr (4, O4 z i5 i6 i7 i8 i9 i10 x60000325 x60000326 x60000327)), ((z 0), .inl (T 0, 12, .inl g0)), ((z 1), .inl (T 0, 12, .inl g1)), ((z 2), .inl (T 0, 12, .inl g2)), ((z 3), .inl (T 0, 8, .inl g3)), ((z 4), .inl (T 0, 8, .inl g4))] := hD
          refine W.widen (k := 0) (n := 0) (Nat.le_refl _) (Nat.le_refl _) ?_
          refine lv_iload_n hx hb dX4_search_89 rfl (lv_at hl 2 rfl) ?_
          refine lv_iconst (v := 1) hx hb dX4_search_90 (by decide) ?_
          refine lv_iload_n hx hb dX4_search_91 rfl (lv_at hl 1 rfl) ?_
          refine lv_ishl hx hb dX4_search_92 ?_
          refine lv_topi (fun x60000329 ex60000329 => ?_)
          refine lv_iconst (v := (-1)) hx hb dX4_search_93 (by decide) ?_
          refine lv_ixor hx hb dX4_search_94 ?_
          refine lv_topi (fun x60000330 ex60000330 => ?_)
          refine lv_iand hx hb dX4_search_95 ?_
          refine lv_topi (fun x60000331 ex60000331 => ?_)
          have hwo := wo_ti ex60000329 ex60000330 ex60000331 (by omega) (by omega) (by omega) (by omega)
          refine lv_istore (lv' := [(6, .int x60000331), (0, .ref a), (1, .int p1), (2, .int p2), (3, .int p3), (4, .int p4), (5, .int p5)]) hx hb dX4_search_96 hl (by decide) rfl (fun ls hl => ?_)
          refine lv_aload_n hx hb dX4_search_98 rfl (lv_at hl 1 rfl) ?_
          refine lv_iload hx hb dX4_search_99 (lv_at hl 0 rfl) ?_
          refine r_calli (wr := [((z 2), .inl (T 0, 12, .inl g2))]) (r_runV2 (As := [.int x60000331]) (rest := []) (wc := [(a, .inr (4, O4 z i5 i6 i7 i8 i9 i10 x60000325 x60000326 x60000327)), ((z 0), .inl (T 0, 12, .inl g0)), ((z 1), .inl (T 0, 12, .inl g1)), ((z 3), .inl (T 0, 8, .inl g3)), ((z 4), .inl (T 0, 8, .inl g4))]) (ci := 4) C0 hE hStr hS (va_free (wc := [(a, .inr (4, O4 z i5 i6 i7 i8 i9 i10 x60000325 x60000326 x60000327)), ((z 0), .inl (T 0, 12, .inl g0)), ((z 1), .inl (T 0, 12, .inl g1)), ((z 3), .inl (T 0, 8, .inl g3)), ((z 4), .inl (T 0, 8, .inl g4))]) hD hS hA [0, 1, 2, 4, 5] rfl) (k_X4_holdsAll_60000201 l D T sq sv H.size a z i5 i6 i7 i8 i9 i10 x60000325 x60000326 x60000327 x60000331 g0 g1 g3 g4 ⟨by omega, by omega⟩ ⟨by omega, by omega⟩ ⟨by omega, by omega⟩ ⟨by omega, by omega⟩ hbg0 hbg1 hbg3 hbg4) mw_744 mw_745 mw_1294 mw_9 mw_746 dn_1602 rfl rfl ⟨by show 2 + 1 ≤ 2 * d + 6; omega, by show 8 + (3 + 11) + 38 ≤ 60 * d + 200; omega⟩ (hP.sub (ws' := [(a, .inr (4, O4 z i5 i6 i7 i8 i9 i10 x60000325 x60000326 x60000327)), ((z 0), .inl (T 0, 12, .inl g0)), ((z 1), .inl (T 0, 12, .inl g1)), ((z 3), .inl (T 0, 8, .inl g3)), ((z 4), .inl (T 0, 8, .inl g4))]) [0, 1, 2, 4, 5] rfl) (hD.sub (ws' := [(a, .inr (4, O4 z i5 i6 i7 i8 i9 i10 x60000325 x60000326 x60000327)), ((z 0), .inl (T 0, 12, .inl g0)), ((z 1), .inl (T 0, 12, .inl g1)), ((z 3), .inl (T 0, 8, .inl g3)), ((z 4), .inl (T 0, 8, .inl g4))]) [0, 1, 2, 4, 5] (by decide +kernel) rfl) rfl rfl rfl hl.1 rfl (Nat.le_of_ble_eq_true rfl) dX4_search_101 ⟨Nat.le_of_ble_eq_true rfl, Nat.le_of_ble_eq_true rfl⟩) hP hD hS hA [0, 1, 2, 4, 5] [3] rfl rfl (by decide +kernel) (by decide +kernel) (fun x60000332 u H locs hq hP hD hS => ?_)
          obtain ⟨hg60000333, hx60000332⟩ := hq
          have hg60000333 : RHA (Int32.toNatClampNeg i5) (Int32.toNatClampNeg i6) g0 g1 g3 g4 i9.toInt x60000331 x60000332 := hg60000333
          have hx60000332 : 0 ≤ x60000332.toInt ∧ x60000332.toInt ≤ 1 := hx60000332
          have hP : va_P D vwCl [((z 2), .inl (T 0, 12, .inl g2)), (a, .inr (4, O4 z i5 i6 i7 i8 i9 i10 x60000325 x60000326 x60000327)), ((z 0), .inl (T 0, 12, .inl g0)), ((z 1), .inl (T 0, 12, .inl g1)), ((z 3), .inl (T 0, 8, .inl g3)), ((z 4), .inl (T 0, 8, .inl g4))] H := hP
          have hD : va_D A [((z 2), .inl (T 0, 12, .inl g2)), (a, .inr (4, O4 z i5 i6 i7 i8 i9 i10 x60000325 x60000326 x60000327)), ((z 0), .inl (T 0, 12, .inl g0)), ((z 1), .inl (T 0, 12, .inl g1)), ((z 3), .inl (T 0, 8, .inl g3)), ((z 4), .inl (T 0, 8, .inl g4))] := hD
          refine W.widen (k := 0) (n := 0) (Nat.le_refl _) (Nat.le_refl _) ?_
          refine lv_if_eq (tgt := 121) hx hb dX4_search_104 (by decide) (fun c60000334 => ?_) (fun c60000334 => ?_)
          · skip
            have kc60000334 : x60000332.toInt = 0 := eq_ti rfl (by decide) c60000334
            exact r_vret2 (x60000325, x60000326, x60000327) C0 hr hlocks hS (Nat.le_refl _) (Nat.le_refl _) dX4_search_121 (SIN.compJ hSIN (by omega) (by omega) (by have ht5 := tn (x := i5) (by omega); have hn1 := tn (x := p1) (by omega); omega) hwo.2 hg60000328 (SIN.cut hbg1 hSIN hwo.2 (rha_f hg60000333 (by omega)))) (hP.sub (ws' := [(a, .inr (4, O4 z i5 i6 i7 i8 i9 i10 x60000325 x60000326 x60000327)), ((z 0), .inl (T 0, 12, .inl g0)), ((z 1), .inl (T 0, 12, .inl g1)), ((z 2), .inl (T 0, 12, .inl g2)), ((z 3), .inl (T 0, 8, .inl g3)), ((z 4), .inl (T 0, 8, .inl g4))]) [1, 2, 3, 0, 4, 5] rfl) (hD.sub (ws' := [(a, .inr (4, O4 z i5 i6 i7 i8 i9 i10 x60000325 x60000326 x60000327)), ((z 0), .inl (T 0, 12, .inl g0)), ((z 1), .inl (T 0, 12, .inl g1)), ((z 2), .inl (T 0, 12, .inl g2)), ((z 3), .inl (T 0, 8, .inl g3)), ((z 4), .inl (T 0, 8, .inl g4))]) [1, 2, 3, 0, 4, 5] (by decide +kernel) rfl)
          · skip
            have kc60000334 : x60000332.toInt ≠ 0 := ne_ti rfl (by decide) c60000334
            have nzx60000332 : ¬ x60000332 = 0 := c60000334
            refine lv_aload_n hx hb dX4_search_107 rfl (lv_at hl 1 rfl) ?_
            refine lv_iload_n hx hb dX4_search_108 rfl (lv_at hl 2 rfl) ?_
            refine lv_iconst (v := 1) hx hb dX4_search_109 (by decide) ?_
            refine lv_iadd hx hb dX4_search_110 ?_
            refine lv_topi (fun x60000335 ex60000335 => ?_)
            have hx60000335 : x60000335.toInt = p1.toInt + 1 := ti_add ex60000335 rfl (by decide) (by omega) (by omega)
            refine lv_iload hx hb dX4_search_111 (lv_at hl 0 rfl) ?_
            refine lv_iload_n hx hb dX4_search_113 rfl (lv_at hl 4 rfl) ?_
            refine lv_iload hx hb dX4_search_114 (lv_at hl 5 rfl) ?_
            refine lv_iload hx hb dX4_search_116 (lv_at hl 6 rfl) ?_
            refine r_callv2 (wr := []) (r_runV2 (As := [.int x60000335, .int x60000331, .int p3, .int p4, .int p5]) (rest := []) (wc := [(a, .inr (4, O4 z i5 i6 i7 i8 i9 i10 x60000325 x60000326 x60000327)), ((z 0), .inl (T 0, 12, .inl g0)), ((z 1), .inl (T 0, 12, .inl g1)), ((z 2), .inl (T 0, 12, .inl g2)), ((z 3), .inl (T 0, 8, .inl g3)), ((z 4), .inl (T 0, 8, .inl g4))]) (ci := 4) C0 hE hStr hS (va_free (wc := [(a, .inr (4, O4 z i5 i6 i7 i8 i9 i10 x60000325 x60000326 x60000327)), ((z 0), .inl (T 0, 12, .inl g0)), ((z 1), .inl (T 0, 12, .inl g1)), ((z 2), .inl (T 0, 12, .inl g2)), ((z 3), .inl (T 0, 8, .inl g3)), ((z 4), .inl (T 0, 8, .inl g4))]) hD hS hA [1, 2, 3, 0, 4, 5] rfl) (ih (d - 1) (by omega) l D T sq sv H.size a z i5 i6 i7 i8 i9 i10 x60000325 x60000326 x60000327 x60000335 x60000331 p3 p4 p5 g0 g1 g2 g3 g4 ⟨by omega, by omega⟩ ⟨by omega, by omega⟩ ⟨by omega, by omega⟩ ⟨by omega, by omega⟩ ⟨by omega, by omega⟩ ⟨by omega, by omega⟩ ⟨by omega, by omega⟩ ⟨by omega, by omega⟩ hbg0 hbg1 hbg2 hbg3 hbg4 (by omega) (SIN.leaveI hSIN (by omega) (by omega) (by have ht5 := tn (x := i5) (by omega); have hn1 := tn (x := p1) (by omega); omega) hwo.2 (rha_t hg60000333 (by omega)))) mw_754 mw_755 mw_1296 mw_9 mw_756 dn_1601 rfl rfl ⟨by show 2 * (d - 1) + 6 + 1 ≤ 2 * d + 6; omega, by show 8 + (7 + 11) + (60 * (d - 1) + 200) ≤ 60 * d + 200; omega⟩ (hP.sub (ws' := [(a, .inr (4, O4 z i5 i6 i7 i8 i9 i10 x60000325 x60000326 x60000327)), ((z 0), .inl (T 0, 12, .inl g0)), ((z 1), .inl (T 0, 12, .inl g1)), ((z 2), .inl (T 0, 12, .inl g2)), ((z 3), .inl (T 0, 8, .inl g3)), ((z 4), .inl (T 0, 8, .inl g4))]) [1, 2, 3, 0, 4, 5] rfl) (hD.sub (ws' := [(a, .inr (4, O4 z i5 i6 i7 i8 i9 i10 x60000325 x60000326 x60000327)), ((z 0), .inl (T 0, 12, .inl g0)), ((z 1), .inl (T 0, 12, .inl g1)), ((z 2), .inl (T 0, 12, .inl g2)), ((z 3), .inl (T 0, 8, .inl g3)), ((z 4), .inl (T 0, 8, .inl g4))]) [1, 2, 3, 0, 4, 5] (by decide +kernel) rfl) rfl rfl rfl hl.1 rfl (Nat.le_of_ble_eq_true rfl) dX4_search_118 ⟨Nat.le_of_ble_eq_true rfl, Nat.le_of_ble_eq_true rfl⟩) hP hD hS hA [1, 2, 3, 0, 4, 5] [] rfl rfl (by decide +kernel) (by decide +kernel) (fun u H locs hq hP hD hS => ?_)
            obtain ⟨x60000336, x60000337, x60000338⟩ := u
            have hg60000339 := hq
            have hg60000339 : SR (Int32.toNatClampNeg i5) (cst g2) (VA (Int32.toNatClampNeg i5) (Int32.toNatClampNeg i6) g0 g1 g3 g4 i9.toInt i10.toInt) (Int32.toNatClampNeg x60000335) (Int32.toNatClampNeg x60000331) x60000325.toInt x60000326.toInt x60000327.toInt x60000336.toInt x60000337.toInt x60000338.toInt := hg60000339
            have hP : va_P D vwCl [(a, .inr (4, O4 z i5 i6 i7 i8 i9 i10 x60000336 x60000337 x60000338)), ((z 0), .inl (T 0, 12, .inl g0)), ((z 1), .inl (T 0, 12, .inl g1)), ((z 2), .inl (T 0, 12, .inl g2)), ((z 3), .inl (T 0, 8, .inl g3)), ((z 4), .inl (T 0, 8, .inl g4))] H := hP
            have hD : va_D A [(a, .inr (4, O4 z i5 i6 i7 i8 i9 i10 x60000336 x60000337 x60000338)), ((z 0), .inl (T 0, 12, .inl g0)), ((z 1), .inl (T 0, 12, .inl g1)), ((z 2), .inl (T 0, 12, .inl g2)), ((z 3), .inl (T 0, 8, .inl g3)), ((z 4), .inl (T 0, 8, .inl g4))] := hD
            refine W.widen (k := 0) (n := 0) (Nat.le_refl _) (Nat.le_refl _) ?_
            exact r_vret2 (x60000336, x60000337, x60000338) C0 hr hlocks hS (Nat.le_refl _) (Nat.le_refl _) dX4_search_121 (SIN.compI hSIN (by omega) (by omega) (by omega) (by have ht5 := tn (x := i5) (by omega); have hn1 := tn (x := p1) (by omega); omega) hwo.2 hg60000328 hg60000339) (hP.sub (ws' := [(a, .inr (4, O4 z i5 i6 i7 i8 i9 i10 x60000336 x60000337 x60000338)), ((z 0), .inl (T 0, 12, .inl g0)), ((z 1), .inl (T 0, 12, .inl g1)), ((z 2), .inl (T 0, 12, .inl g2)), ((z 3), .inl (T 0, 8, .inl g3)), ((z 4), .inl (T 0, 8, .inl g4))]) [0, 1, 2, 3, 4, 5] rfl) (hD.sub (ws' := [(a, .inr (4, O4 z i5 i6 i7 i8 i9 i10 x60000336 x60000337 x60000338)), ((z 0), .inl (T 0, 12, .inl g0)), ((z 1), .inl (T 0, 12, .inl g1)), ((z 2), .inl (T 0, 12, .inl g2)), ((z 3), .inl (T 0, 8, .inl g3)), ((z 4), .inl (T 0, 8, .inl g4))]) [0, 1, 2, 3, 4, 5] (by decide +kernel) rfl)
        · skip
          have kc60000318 : i5.toInt ≤ p1.toInt := nlt_ti rfl rfl c60000318
          refine lv_aload_n hx hb dX4_search_43 rfl (lv_at hl 0 rfl) ?_
          refine lv_iload_n hx hb dX4_search_44 rfl (lv_at hl 3 rfl) ?_
          refine r_put (v := .int p3) (ty := .int) (ws1 := [(a, .inr (4, O4 z i5 i6 i7 i8 i9 i10 p3 i12 i13)), ((z 0), .inl (T 0, 12, .inl g0)), ((z 1), .inl (T 0, 12, .inl g1)), ((z 2), .inl (T 0, 12, .inl g2)), ((z 3), .inl (T 0, 8, .inl g3)), ((z 4), .inl (T 0, 8, .inl g4))]) C0 hE ffX4_11 tyX4 tyX4_ok nmX4 mw_184 pf_1358 hP hD hS 0 rfl rfl rfl o4l_11 o4s_11 rfl dX4_search_45 (fun H locs hP hD hS => ?_)
          refine lv_aload_n hx hb dX4_search_48 rfl (lv_at hl 0 rfl) ?_
          refine lv_iload hx hb dX4_search_49 (lv_at hl 4 rfl) ?_
          refine r_put (v := .int p4) (ty := .int) (ws1 := [(a, .inr (4, O4 z i5 i6 i7 i8 i9 i10 p3 p4 i13)), ((z 0), .inl (T 0, 12, .inl g0)), ((z 1), .inl (T 0, 12, .inl g1)), ((z 2), .inl (T 0, 12, .inl g2)), ((z 3), .inl (T 0, 8, .inl g3)), ((z 4), .inl (T 0, 8, .inl g4))]) C0 hE ffX4_12 tyX4 tyX4_ok nmX4 mw_185 pf_1358 hP hD hS 0 rfl rfl rfl o4l_12 o4s_12 rfl dX4_search_51 (fun H locs hP hD hS => ?_)
          refine lv_aload_n hx hb dX4_search_54 rfl (lv_at hl 0 rfl) ?_
          refine lv_iload_n hx hb dX4_search_55 rfl (lv_at hl 2 rfl) ?_
          refine r_put (v := .int p2) (ty := .int) (ws1 := [(a, .inr (4, O4 z i5 i6 i7 i8 i9 i10 p3 p4 p2)), ((z 0), .inl (T 0, 12, .inl g0)), ((z 1), .inl (T 0, 12, .inl g1)), ((z 2), .inl (T 0, 12, .inl g2)), ((z 3), .inl (T 0, 8, .inl g3)), ((z 4), .inl (T 0, 8, .inl g4))]) C0 hE ffX4_13 tyX4 tyX4_ok nmX4 mw_186 pf_1358 hP hD hS 0 rfl rfl rfl o4l_13 o4s_13 rfl dX4_search_56 (fun H locs hP hD hS => ?_)
          exact r_vret2 (p3, p4, p2) C0 hr hlocks hS (Nat.le_refl _) (Nat.le_refl _) dX4_search_59 (SIN.leafI hSIN (by have ht5 := tn (x := i5) (by omega); have hn1 := tn (x := p1) (by omega); omega) (by omega) (by omega) (by omega) (tn (x := p2) (by omega)).symm) (hP.sub (ws' := [(a, .inr (4, O4 z i5 i6 i7 i8 i9 i10 p3 p4 p2)), ((z 0), .inl (T 0, 12, .inl g0)), ((z 1), .inl (T 0, 12, .inl g1)), ((z 2), .inl (T 0, 12, .inl g2)), ((z 3), .inl (T 0, 8, .inl g3)), ((z 4), .inl (T 0, 8, .inl g4))]) [0, 1, 2, 3, 4, 5] rfl) (hD.sub (ws' := [(a, .inr (4, O4 z i5 i6 i7 i8 i9 i10 p3 p4 p2)), ((z 0), .inl (T 0, 12, .inl g0)), ((z 1), .inl (T 0, 12, .inl g1)), ((z 2), .inl (T 0, 12, .inl g2)), ((z 3), .inl (T 0, 8, .inl g3)), ((z 4), .inl (T 0, 8, .inl g4))]) [0, 1, 2, 3, 4, 5] (by decide +kernel) rfl)
      · skip
        have kc60000317 : p3.toInt = i11.toInt := eq_ti rfl rfl c60000317
        refine lv_iload hx hb dX4_search_25 (lv_at hl 4 rfl) ?_
        refine lv_aload_n hx hb dX4_search_27 rfl (lv_at hl 0 rfl) ?_
        refine r_get (v := .int i12) C0 hE ffX4_12 mw_185 hP 0 rfl o4x_12 dX4_search_28 ?_
        refine lv_icmp_lt (tgt := 35) hx hb dX4_search_31 (by decide) (fun c60000340 => ?_) (fun c60000340 => ?_)
        · skip
          have kc60000340 : p4.toInt < i12.toInt := lt_ti rfl rfl c60000340
          have rg60000341 := i32_rng i12
          refine lv_iload_n hx hb dX4_search_35 rfl (lv_at hl 1 rfl) ?_
          refine lv_aload_n hx hb dX4_search_36 rfl (lv_at hl 0 rfl) ?_
          refine r_get (v := .int i5) C0 hE ffX4_5 mw_174 hP 0 rfl o4x_5 dX4_search_37 ?_
          refine lv_icmp_lt (tgt := 60) hx hb dX4_search_40 (by decide) (fun c60000342 => ?_) (fun c60000342 => ?_)
          · skip
            have kc60000342 : p1.toInt < i5.toInt := lt_ti rfl rfl c60000342
            refine lv_aload_n hx hb dX4_search_60 rfl (lv_at hl 0 rfl) ?_
            refine lv_iload_n hx hb dX4_search_61 rfl (lv_at hl 1 rfl) ?_
            refine lv_iconst (v := 1) hx hb dX4_search_62 (by decide) ?_
            refine lv_iadd hx hb dX4_search_63 ?_
            refine lv_topi (fun x60000343 ex60000343 => ?_)
            have hx60000343 : x60000343.toInt = p1.toInt + 1 := ti_add ex60000343 rfl (by decide) (by omega) (by omega)
            refine lv_iload_n hx hb dX4_search_64 rfl (lv_at hl 2 rfl) ?_
            refine lv_iload_n hx hb dX4_search_65 rfl (lv_at hl 3 rfl) ?_
            refine lv_aload_n hx hb dX4_search_66 rfl (lv_at hl 0 rfl) ?_
            refine r_get (v := .ref (z 2)) C0 hE ffX4_2 mw_171 hP 0 rfl o4x_2 dX4_search_67 ?_
            refine lv_iload_n hx hb dX4_search_70 rfl (lv_at hl 1 rfl) ?_
            refine va_iald hx hb hK hP 3 0 rfl rfl (in_ti rfl (by omega) (by omega)) dX4_search_71 ?_
            refine lv_topi (fun x60000344 ex60000344 => ?_)
            have hx60000344 : 0 ≤ x60000344.toInt ∧ x60000344.toInt ≤ 999 := by rw [ex60000344]; exact hbg2 _
            refine lv_iadd hx hb dX4_search_72 ?_
            refine lv_topi (fun x60000345 ex60000345 => ?_)
            have hx60000345 : x60000345.toInt = p3.toInt + x60000344.toInt := ti_add ex60000345 rfl rfl (by omega) (by omega)
            refine lv_iload hx hb dX4_search_73 (lv_at hl 4 rfl) ?_
            refine lv_iconst (v := 1) hx hb dX4_search_75 (by decide) ?_
            refine lv_iadd hx hb dX4_search_76 ?_
            refine lv_topi (fun x60000346 ex60000346 => ?_)
            have hx60000346 : x60000346.toInt = p4.toInt + 1 := ti_add ex60000346 rfl (by decide) (by omega) (by omega)
            refine lv_iload hx hb dX4_search_77 (lv_at hl 5 rfl) ?_
            refine lv_aload_n hx hb dX4_search_79 rfl (lv_at hl 0 rfl) ?_
            refine r_get (v := .ref (z 1)) C0 hE ffX4_1 mw_170 hP 0 rfl o4x_1 dX4_search_80 ?_
            refine lv_iload_n hx hb dX4_search_83 rfl (lv_at hl 1 rfl) ?_
            refine va_iald hx hb hK hP 2 0 rfl rfl (in_ti rfl (by omega) (by omega)) dX4_search_84 ?_
            refine lv_topi (fun x60000347 ex60000347 => ?_)
            have hx60000347 : 0 ≤ x60000347.toInt ∧ x60000347.toInt ≤ 999 := by rw [ex60000347]; exact hbg1 _
            refine lv_iadd hx hb dX4_search_85 ?_
            refine lv_topi (fun x60000348 ex60000348 => ?_)
            have hx60000348 : x60000348.toInt = p5.toInt + x60000347.toInt := ti_add ex60000348 rfl rfl (by omega) (by omega)
            refine r_callv2 (wr := []) (r_runV2 (As := [.int x60000343, .int p2, .int x60000345, .int x60000346, .int x60000348]) (rest := []) (wc := [(a, .inr (4, O4 z i5 i6 i7 i8 i9 i10 i11 i12 i13)), ((z 0), .inl (T 0, 12, .inl g0)), ((z 1), .inl (T 0, 12, .inl g1)), ((z 2), .inl (T 0, 12, .inl g2)), ((z 3), .inl (T 0, 8, .inl g3)), ((z 4), .inl (T 0, 8, .inl g4))]) (ci := 4) C0 hE hStr hS (va_free (wc := [(a, .inr (4, O4 z i5 i6 i7 i8 i9 i10 i11 i12 i13)), ((z 0), .inl (T 0, 12, .inl g0)), ((z 1), .inl (T 0, 12, .inl g1)), ((z 2), .inl (T 0, 12, .inl g2)), ((z 3), .inl (T 0, 8, .inl g3)), ((z 4), .inl (T 0, 8, .inl g4))]) hD hS hA [0, 1, 2, 3, 4, 5] rfl) (ih (d - 1) (by omega) l D T sq sv H.size a z i5 i6 i7 i8 i9 i10 i11 i12 i13 x60000343 p2 x60000345 x60000346 x60000348 g0 g1 g2 g3 g4 ⟨by omega, by omega⟩ ⟨by omega, by omega⟩ ⟨by omega, by omega⟩ ⟨by omega, by omega⟩ ⟨by omega, by omega⟩ ⟨by omega, by omega⟩ ⟨by omega, by omega⟩ ⟨by omega, by omega⟩ hbg0 hbg1 hbg2 hbg3 hbg4 (by omega) (SIN.keepI hSIN (by omega) (by omega) (by have ht5 := tn (x := i5) (by omega); have hn1 := tn (x := p1) (by omega); omega) (by rw [← ex60000344]; omega) (by omega) (by rw [← ex60000347]; omega))) mw_754 mw_755 mw_1296 mw_9 mw_756 dn_1601 rfl rfl ⟨by show 2 * (d - 1) + 6 + 1 ≤ 2 * d + 6; omega, by show 8 + (7 + 11) + (60 * (d - 1) + 200) ≤ 60 * d + 200; omega⟩ (hP.sub (ws' := [(a, .inr (4, O4 z i5 i6 i7 i8 i9 i10 i11 i12 i13)), ((z 0), .inl (T 0, 12, .inl g0)), ((z 1), .inl (T 0, 12, .inl g1)), ((z 2), .inl (T 0, 12, .inl g2)), ((z 3), .inl (T 0, 8, .inl g3)), ((z 4), .inl (T 0, 8, .inl g4))]) [0, 1, 2, 3, 4, 5] rfl) (hD.sub (ws' := [(a, .inr (4, O4 z i5 i6 i7 i8 i9 i10 i11 i12 i13)), ((z 0), .inl (T 0, 12, .inl g0)), ((z 1), .inl (T 0, 12, .inl g1)), ((z 2), .inl (T 0, 12, .inl g2)), ((z 3), .inl (T 0, 8, .inl g3)), ((z 4), .inl (T 0, 8, .inl g4))]) [0, 1, 2, 3, 4, 5] (by decide +kernel) rfl) rfl rfl rfl hl.1 rfl (Nat.le_of_ble_eq_true rfl) dX4_search_86 ⟨Nat.le_of_ble_eq_true rfl, Nat.le_of_ble_eq_true rfl⟩) hP hD hS hA [0, 1, 2, 3, 4, 5] [] rfl rfl (by decide +kernel) (by decide +kernel) (fun u H locs hq hP hD hS => ?_)
            obtain ⟨x60000349, x60000350, x60000351⟩ := u
            have hg60000352 := hq
            have hg60000352 : SR (Int32.toNatClampNeg i5) (cst g2) (VA (Int32.toNatClampNeg i5) (Int32.toNatClampNeg i6) g0 g1 g3 g4 i9.toInt i10.toInt) (Int32.toNatClampNeg x60000343) (Int32.toNatClampNeg p2) i11.toInt i12.toInt i13.toInt x60000349.toInt x60000350.toInt x60000351.toInt := hg60000352
            have hP : va_P D vwCl [(a, .inr (4, O4 z i5 i6 i7 i8 i9 i10 x60000349 x60000350 x60000351)), ((z 0), .inl (T 0, 12, .inl g0)), ((z 1), .inl (T 0, 12, .inl g1)), ((z 2), .inl (T 0, 12, .inl g2)), ((z 3), .inl (T 0, 8, .inl g3)), ((z 4), .inl (T 0, 8, .inl g4))] H := hP
            have hD : va_D A [(a, .inr (4, O4 z i5 i6 i7 i8 i9 i10 x60000349 x60000350 x60000351)), ((z 0), .inl (T 0, 12, .inl g0)), ((z 1), .inl (T 0, 12, .inl g1)), ((z 2), .inl (T 0, 12, .inl g2)), ((z 3), .inl (T 0, 8, .inl g3)), ((z 4), .inl (T 0, 8, .inl g4))] := hD
            refine W.widen (k := 0) (n := 0) (Nat.le_refl _) (Nat.le_refl _) ?_
            refine lv_iload_n hx hb dX4_search_89 rfl (lv_at hl 2 rfl) ?_
            refine lv_iconst (v := 1) hx hb dX4_search_90 (by decide) ?_
            refine lv_iload_n hx hb dX4_search_91 rfl (lv_at hl 1 rfl) ?_
            refine lv_ishl hx hb dX4_search_92 ?_
            refine lv_topi (fun x60000353 ex60000353 => ?_)
            refine lv_iconst (v := (-1)) hx hb dX4_search_93 (by decide) ?_
            refine lv_ixor hx hb dX4_search_94 ?_
            refine lv_topi (fun x60000354 ex60000354 => ?_)
            refine lv_iand hx hb dX4_search_95 ?_
            refine lv_topi (fun x60000355 ex60000355 => ?_)
            have hwo := wo_ti ex60000353 ex60000354 ex60000355 (by omega) (by omega) (by omega) (by omega)
            refine lv_istore (lv' := [(6, .int x60000355), (0, .ref a), (1, .int p1), (2, .int p2), (3, .int p3), (4, .int p4), (5, .int p5)]) hx hb dX4_search_96 hl (by decide) rfl (fun ls hl => ?_)
            refine lv_aload_n hx hb dX4_search_98 rfl (lv_at hl 1 rfl) ?_
            refine lv_iload hx hb dX4_search_99 (lv_at hl 0 rfl) ?_
            refine r_calli (wr := [((z 2), .inl (T 0, 12, .inl g2))]) (r_runV2 (As := [.int x60000355]) (rest := []) (wc := [(a, .inr (4, O4 z i5 i6 i7 i8 i9 i10 x60000349 x60000350 x60000351)), ((z 0), .inl (T 0, 12, .inl g0)), ((z 1), .inl (T 0, 12, .inl g1)), ((z 3), .inl (T 0, 8, .inl g3)), ((z 4), .inl (T 0, 8, .inl g4))]) (ci := 4) C0 hE hStr hS (va_free (wc := [(a, .inr (4, O4 z i5 i6 i7 i8 i9 i10 x60000349 x60000350 x60000351)), ((z 0), .inl (T 0, 12, .inl g0)), ((z 1), .inl (T 0, 12, .inl g1)), ((z 3), .inl (T 0, 8, .inl g3)), ((z 4), .inl (T 0, 8, .inl g4))]) hD hS hA [0, 1, 2, 4, 5] rfl) (k_X4_holdsAll_60000201 l D T sq sv H.size a z i5 i6 i7 i8 i9 i10 x60000349 x60000350 x60000351 x60000355 g0 g1 g3 g4 ⟨by omega, by omega⟩ ⟨by omega, by omega⟩ ⟨by omega, by omega⟩ ⟨by omega, by omega⟩ hbg0 hbg1 hbg3 hbg4) mw_744 mw_745 mw_1294 mw_9 mw_746 dn_1602 rfl rfl ⟨by show 2 + 1 ≤ 2 * d + 6; omega, by show 8 + (3 + 11) + 38 ≤ 60 * d + 200; omega⟩ (hP.sub (ws' := [(a, .inr (4, O4 z i5 i6 i7 i8 i9 i10 x60000349 x60000350 x60000351)), ((z 0), .inl (T 0, 12, .inl g0)), ((z 1), .inl (T 0, 12, .inl g1)), ((z 3), .inl (T 0, 8, .inl g3)), ((z 4), .inl (T 0, 8, .inl g4))]) [0, 1, 2, 4, 5] rfl) (hD.sub (ws' := [(a, .inr (4, O4 z i5 i6 i7 i8 i9 i10 x60000349 x60000350 x60000351)), ((z 0), .inl (T 0, 12, .inl g0)), ((z 1), .inl (T 0, 12, .inl g1)), ((z 3), .inl (T 0, 8, .inl g3)), ((z 4), .inl (T 0, 8, .inl g4))]) [0, 1, 2, 4, 5] (by decide +kernel) rfl) rfl rfl rfl hl.1 rfl (Nat.le_of_ble_eq_true rfl) dX4_search_101 ⟨Nat.le_of_ble_eq_true rfl, Nat.le_of_ble_eq_true rfl⟩) hP hD hS hA [0, 1, 2, 4, 5] [3] rfl rfl (by decide +kernel) (by decide +kernel) (fun x60000356 u H locs hq hP hD hS => ?_)
            obtain ⟨hg60000357, hx60000356⟩ := hq
            have hg60000357 : RHA (Int32.toNatClampNeg i5) (Int32.toNatClampNeg i6) g0 g1 g3 g4 i9.toInt x60000355 x60000356 := hg60000357
            have hx60000356 : 0 ≤ x60000356.toInt ∧ x60000356.toInt ≤ 1 := hx60000356
            have hP : va_P D vwCl [((z 2), .inl (T 0, 12, .inl g2)), (a, .inr (4, O4 z i5 i6 i7 i8 i9 i10 x60000349 x60000350 x60000351)), ((z 0), .inl (T 0, 12, .inl g0)), ((z 1), .inl (T 0, 12, .inl g1)), ((z 3), .inl (T 0, 8, .inl g3)), ((z 4), .inl (T 0, 8, .inl g4))] H := hP
            have hD : va_D A [((z 2), .inl (T 0, 12, .inl g2)), (a, .inr (4, O4 z i5 i6 i7 i8 i9 i10 x60000349 x60000350 x60000351)), ((z 0), .inl (T 0, 12, .inl g0)), ((z 1), .inl (T 0, 12, .inl g1)), ((z 3), .inl (T 0, 8, .inl g3)), ((z 4), .inl (T 0, 8, .inl g4))] := hD
            refine W.widen (k := 0) (n := 0) (Nat.le_refl _) (Nat.le_refl _) ?_
            refine lv_if_eq (tgt := 121) hx hb dX4_search_104 (by decide) (fun c60000358 => ?_) (fun c60000358 => ?_)
            · skip
              have kc60000358 : x60000356.toInt = 0 := eq_ti rfl (by decide) c60000358
              exact r_vret2 (x60000349, x60000350, x60000351) C0 hr hlocks hS (Nat.le_refl _) (Nat.le_refl _) dX4_search_121 (SIN.compJ hSIN (by omega) (by omega) (by have ht5 := tn (x := i5) (by omega); have hn1 := tn (x := p1) (by omega); omega) hwo.2 hg60000352 (SIN.cut hbg1 hSIN hwo.2 (rha_f hg60000357 (by omega)))) (hP.sub (ws' := [(a, .inr (4, O4 z i5 i6 i7 i8 i9 i10 x60000349 x60000350 x60000351)), ((z 0), .inl (T 0, 12, .inl g0)), ((z 1), .inl (T 0, 12, .inl g1)), ((z 2), .inl (T 0, 12, .inl g2)), ((z 3), .inl (T 0, 8, .inl g3)), ((z 4), .inl (T 0, 8, .inl g4))]) [1, 2, 3, 0, 4, 5] rfl) (hD.sub (ws' := [(a, .inr (4, O4 z i5 i6 i7 i8 i9 i10 x60000349 x60000350 x60000351)), ((z 0), .inl (T 0, 12, .inl g0)), ((z 1), .inl (T 0, 12, .inl g1)), ((z 2), .inl (T 0, 12, .inl g2)), ((z 3), .inl (T 0, 8, .inl g3)), ((z 4), .inl (T 0, 8, .inl g4))]) [1, 2, 3, 0, 4, 5] (by decide +kernel) rfl)
            · skip
              have kc60000358 : x60000356.toInt ≠ 0 := ne_ti rfl (by decide) c60000358
              have nzx60000356 : ¬ x60000356 = 0 := c60000358
              refine lv_aload_n hx hb dX4_search_107 rfl (lv_at hl 1 rfl) ?_
              refine lv_iload_n hx hb dX4_search_108 rfl (lv_at hl 2 rfl) ?_
              refine lv_iconst (v := 1) hx hb dX4_search_109 (by decide) ?_
              refine lv_iadd hx hb dX4_search_110 ?_
              refine lv_topi (fun x60000359 ex60000359 => ?_)
              have hx60000359 : x60000359.toInt = p1.toInt + 1 := ti_add ex60000359 rfl (by decide) (by omega) (by omega)
              refine lv_iload hx hb dX4_search_111 (lv_at hl 0 rfl) ?_
              refine lv_iload_n hx hb dX4_search_113 rfl (lv_at hl 4 rfl) ?_
              refine lv_iload hx hb dX4_search_114 (lv_at hl 5 rfl) ?_
              refine lv_iload hx hb dX4_search_116 (lv_at hl 6 rfl) ?_
              refine r_callv2 (wr := []) (r_runV2 (As := [.int x60000359, .int x60000355, .int p3, .int p4, .int p5]) (rest := []) (wc := [(a, .inr (4, O4 z i5 i6 i7 i8 i9 i10 x60000349 x60000350 x60000351)), ((z 0), .inl (T 0, 12, .inl g0)), ((z 1), .inl (T 0, 12, .inl g1)), ((z 2), .inl (T 0, 12, .inl g2)), ((z 3), .inl (T 0, 8, .inl g3)), ((z 4), .inl (T 0, 8, .inl g4))]) (ci := 4) C0 hE hStr hS (va_free (wc := [(a, .inr (4, O4 z i5 i6 i7 i8 i9 i10 x60000349 x60000350 x60000351)), ((z 0), .inl (T 0, 12, .inl g0)), ((z 1), .inl (T 0, 12, .inl g1)), ((z 2), .inl (T 0, 12, .inl g2)), ((z 3), .inl (T 0, 8, .inl g3)), ((z 4), .inl (T 0, 8, .inl g4))]) hD hS hA [1, 2, 3, 0, 4, 5] rfl) (ih (d - 1) (by omega) l D T sq sv H.size a z i5 i6 i7 i8 i9 i10 x60000349 x60000350 x60000351 x60000359 x60000355 p3 p4 p5 g0 g1 g2 g3 g4 ⟨by omega, by omega⟩ ⟨by omega, by omega⟩ ⟨by omega, by omega⟩ ⟨by omega, by omega⟩ ⟨by omega, by omega⟩ ⟨by omega, by omega⟩ ⟨by omega, by omega⟩ ⟨by omega, by omega⟩ hbg0 hbg1 hbg2 hbg3 hbg4 (by omega) (SIN.leaveI hSIN (by omega) (by omega) (by have ht5 := tn (x := i5) (by omega); have hn1 := tn (x := p1) (by omega); omega) hwo.2 (rha_t hg60000357 (by omega)))) mw_754 mw_755 mw_1296 mw_9 mw_756 dn_1601 rfl rfl ⟨by show 2 * (d - 1) + 6 + 1 ≤ 2 * d + 6; omega, by show 8 + (7 + 11) + (60 * (d - 1) + 200) ≤ 60 * d + 200; omega⟩ (hP.sub (ws' := [(a, .inr (4, O4 z i5 i6 i7 i8 i9 i10 x60000349 x60000350 x60000351)), ((z 0), .inl (T 0, 12, .inl g0)), ((z 1), .inl (T 0, 12, .inl g1)), ((z 2), .inl (T 0, 12, .inl g2)), ((z 3), .inl (T 0, 8, .inl g3)), ((z 4), .inl (T 0, 8, .inl g4))]) [1, 2, 3, 0, 4, 5] rfl) (hD.sub (ws' := [(a, .inr (4, O4 z i5 i6 i7 i8 i9 i10 x60000349 x60000350 x60000351)), ((z 0), .inl (T 0, 12, .inl g0)), ((z 1), .inl (T 0, 12, .inl g1)), ((z 2), .inl (T 0, 12, .inl g2)), ((z 3), .inl (T 0, 8, .inl g3)), ((z 4), .inl (T 0, 8, .inl g4))]) [1, 2, 3, 0, 4, 5] (by decide +kernel) rfl) rfl rfl rfl hl.1 rfl (Nat.le_of_ble_eq_true rfl) dX4_search_118 ⟨Nat.le_of_ble_eq_true rfl, Nat.le_of_ble_eq_true rfl⟩) hP hD hS hA [1, 2, 3, 0, 4, 5] [] rfl rfl (by decide +kernel) (by decide +kernel) (fun u H locs hq hP hD hS => ?_)
              obtain ⟨x60000360, x60000361, x60000362⟩ := u
              have hg60000363 := hq
              have hg60000363 : SR (Int32.toNatClampNeg i5) (cst g2) (VA (Int32.toNatClampNeg i5) (Int32.toNatClampNeg i6) g0 g1 g3 g4 i9.toInt i10.toInt) (Int32.toNatClampNeg x60000359) (Int32.toNatClampNeg x60000355) x60000349.toInt x60000350.toInt x60000351.toInt x60000360.toInt x60000361.toInt x60000362.toInt := hg60000363
              have hP : va_P D vwCl [(a, .inr (4, O4 z i5 i6 i7 i8 i9 i10 x60000360 x60000361 x60000362)), ((z 0), .inl (T 0, 12, .inl g0)), ((z 1), .inl (T 0, 12, .inl g1)), ((z 2), .inl (T 0, 12, .inl g2)), ((z 3), .inl (T 0, 8, .inl g3)), ((z 4), .inl (T 0, 8, .inl g4))] H := hP
              have hD : va_D A [(a, .inr (4, O4 z i5 i6 i7 i8 i9 i10 x60000360 x60000361 x60000362)), ((z 0), .inl (T 0, 12, .inl g0)), ((z 1), .inl (T 0, 12, .inl g1)), ((z 2), .inl (T 0, 12, .inl g2)), ((z 3), .inl (T 0, 8, .inl g3)), ((z 4), .inl (T 0, 8, .inl g4))] := hD
              refine W.widen (k := 0) (n := 0) (Nat.le_refl _) (Nat.le_refl _) ?_
              exact r_vret2 (x60000360, x60000361, x60000362) C0 hr hlocks hS (Nat.le_refl _) (Nat.le_refl _) dX4_search_121 (SIN.compI hSIN (by omega) (by omega) (by omega) (by have ht5 := tn (x := i5) (by omega); have hn1 := tn (x := p1) (by omega); omega) hwo.2 hg60000352 hg60000363) (hP.sub (ws' := [(a, .inr (4, O4 z i5 i6 i7 i8 i9 i10 x60000360 x60000361 x60000362)), ((z 0), .inl (T 0, 12, .inl g0)), ((z 1), .inl (T 0, 12, .inl g1)), ((z 2), .inl (T 0, 12, .inl g2)), ((z 3), .inl (T 0, 8, .inl g3)), ((z 4), .inl (T 0, 8, .inl g4))]) [0, 1, 2, 3, 4, 5] rfl) (hD.sub (ws' := [(a, .inr (4, O4 z i5 i6 i7 i8 i9 i10 x60000360 x60000361 x60000362)), ((z 0), .inl (T 0, 12, .inl g0)), ((z 1), .inl (T 0, 12, .inl g1)), ((z 2), .inl (T 0, 12, .inl g2)), ((z 3), .inl (T 0, 8, .inl g3)), ((z 4), .inl (T 0, 8, .inl g4))]) [0, 1, 2, 3, 4, 5] (by decide +kernel) rfl)
          · skip
            have kc60000342 : i5.toInt ≤ p1.toInt := nlt_ti rfl rfl c60000342
            refine lv_aload_n hx hb dX4_search_43 rfl (lv_at hl 0 rfl) ?_
            refine lv_iload_n hx hb dX4_search_44 rfl (lv_at hl 3 rfl) ?_
            refine r_put (v := .int p3) (ty := .int) (ws1 := [(a, .inr (4, O4 z i5 i6 i7 i8 i9 i10 p3 i12 i13)), ((z 0), .inl (T 0, 12, .inl g0)), ((z 1), .inl (T 0, 12, .inl g1)), ((z 2), .inl (T 0, 12, .inl g2)), ((z 3), .inl (T 0, 8, .inl g3)), ((z 4), .inl (T 0, 8, .inl g4))]) C0 hE ffX4_11 tyX4 tyX4_ok nmX4 mw_184 pf_1358 hP hD hS 0 rfl rfl rfl o4l_11 o4s_11 rfl dX4_search_45 (fun H locs hP hD hS => ?_)
            refine lv_aload_n hx hb dX4_search_48 rfl (lv_at hl 0 rfl) ?_
            refine lv_iload hx hb dX4_search_49 (lv_at hl 4 rfl) ?_
            refine r_put (v := .int p4) (ty := .int) (ws1 := [(a, .inr (4, O4 z i5 i6 i7 i8 i9 i10 p3 p4 i13)), ((z 0), .inl (T 0, 12, .inl g0)), ((z 1), .inl (T 0, 12, .inl g1)), ((z 2), .inl (T 0, 12, .inl g2)), ((z 3), .inl (T 0, 8, .inl g3)), ((z 4), .inl (T 0, 8, .inl g4))]) C0 hE ffX4_12 tyX4 tyX4_ok nmX4 mw_185 pf_1358 hP hD hS 0 rfl rfl rfl o4l_12 o4s_12 rfl dX4_search_51 (fun H locs hP hD hS => ?_)
            refine lv_aload_n hx hb dX4_search_54 rfl (lv_at hl 0 rfl) ?_
            refine lv_iload_n hx hb dX4_search_55 rfl (lv_at hl 2 rfl) ?_
            refine r_put (v := .int p2) (ty := .int) (ws1 := [(a, .inr (4, O4 z i5 i6 i7 i8 i9 i10 p3 p4 p2)), ((z 0), .inl (T 0, 12, .inl g0)), ((z 1), .inl (T 0, 12, .inl g1)), ((z 2), .inl (T 0, 12, .inl g2)), ((z 3), .inl (T 0, 8, .inl g3)), ((z 4), .inl (T 0, 8, .inl g4))]) C0 hE ffX4_13 tyX4 tyX4_ok nmX4 mw_186 pf_1358 hP hD hS 0 rfl rfl rfl o4l_13 o4s_13 rfl dX4_search_56 (fun H locs hP hD hS => ?_)
            exact r_vret2 (p3, p4, p2) C0 hr hlocks hS (Nat.le_refl _) (Nat.le_refl _) dX4_search_59 (SIN.leafI hSIN (by have ht5 := tn (x := i5) (by omega); have hn1 := tn (x := p1) (by omega); omega) (by omega) (by omega) (by omega) (tn (x := p2) (by omega)).symm) (hP.sub (ws' := [(a, .inr (4, O4 z i5 i6 i7 i8 i9 i10 p3 p4 p2)), ((z 0), .inl (T 0, 12, .inl g0)), ((z 1), .inl (T 0, 12, .inl g1)), ((z 2), .inl (T 0, 12, .inl g2)), ((z 3), .inl (T 0, 8, .inl g3)), ((z 4), .inl (T 0, 8, .inl g4))]) [0, 1, 2, 3, 4, 5] rfl) (hD.sub (ws' := [(a, .inr (4, O4 z i5 i6 i7 i8 i9 i10 p3 p4 p2)), ((z 0), .inl (T 0, 12, .inl g0)), ((z 1), .inl (T 0, 12, .inl g1)), ((z 2), .inl (T 0, 12, .inl g2)), ((z 3), .inl (T 0, 8, .inl g3)), ((z 4), .inl (T 0, 8, .inl g4))]) [0, 1, 2, 3, 4, 5] (by decide +kernel) rfl)
        · skip
          have kc60000340 : i12.toInt ≤ p4.toInt := nlt_ti rfl rfl c60000340
          exact r_vret2 (i11, i12, i13) C0 hr hlocks hS (Nat.le_refl _) (Nat.le_refl _) dX4_search_34 (SIN.paid hbg2 hSIN (by omega)) (hP.sub (ws' := [(a, .inr (4, O4 z i5 i6 i7 i8 i9 i10 i11 i12 i13)), ((z 0), .inl (T 0, 12, .inl g0)), ((z 1), .inl (T 0, 12, .inl g1)), ((z 2), .inl (T 0, 12, .inl g2)), ((z 3), .inl (T 0, 8, .inl g3)), ((z 4), .inl (T 0, 8, .inl g4))]) [0, 1, 2, 3, 4, 5] rfl) (hD.sub (ws' := [(a, .inr (4, O4 z i5 i6 i7 i8 i9 i10 i11 i12 i13)), ((z 0), .inl (T 0, 12, .inl g0)), ((z 1), .inl (T 0, 12, .inl g1)), ((z 2), .inl (T 0, 12, .inl g2)), ((z 3), .inl (T 0, 8, .inl g3)), ((z 4), .inl (T 0, 8, .inl g4))]) [0, 1, 2, 3, 4, 5] (by decide +kernel) rfl)
