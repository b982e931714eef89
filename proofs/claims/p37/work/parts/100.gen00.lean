def B_X9 (T : Nat → ClassId) (a r0 : Nat) (w : va_W) : Prop := ∃ (v1 : Int32), ∃ (g0 : Nat → Int32), w = [(a, .inr (9, [.ref r0, .int v1])), (r0, .inl (T 2, 700, .inl g0))] ∧ (0 ≤ v1.toInt ∧ v1.toInt ≤ 700)
set_option maxHeartbeats 4000000 in
set_option maxRecDepth 100000 in
theorem g_X9_byteAt_129 (l : Launch) (D : va_G) (T : Nat → ClassId) (sq sv sz : Nat) (z1 : Nat) (z2 : Nat) (p1 : Int32) (w1 : va_W) (hw1 : B_X9 T z1 z2 w1) : Met l yX9_byteAt (.code yX9_byteAt cX9_byteAt 2 (some .int) :: TB) { frames := 0, cells := 0, slots := 0, locals := 0 } (PC2 D T sq sv [.ref z1, .int p1] (w1) sz) (Qi (S := Unit) (fun (r : Int32) (_ : Unit) => (∀ v1 : Int32, fv w1 1 = some (.int v1) → r.toInt = -1 ∨ p1.toInt < v1.toInt) ∧ (-1 ≤ r.toInt ∧ r.toInt ≤ 255)) (fun (_ : Unit) => w1) D (va_A (w1) sz)) 0 0 (va_A (w1) sz) := by
  obtain ⟨x132, f133, rfl, hx132⟩ := hw1
  refine ct_begin2 (Qc := Qi (S := Unit) (fun (r : Int32) (_ : Unit) => (∀ v1 : Int32, fv ([(z1, .inr (9, [.ref z2, .int x132])), (z2, .inl (T 2, 700, .inl f133))] : va_W) 1 = some (.int v1) → r.toInt = -1 ∨ p1.toInt < v1.toInt) ∧ (-1 ≤ r.toInt ∧ r.toInt ≤ 255)) (fun (_ : Unit) => ([(z1, .inr (9, [.ref z2, .int x132])), (z2, .inl (T 2, 700, .inl f133))] : va_W)) D) (by decide +kernel) (Nat.le_of_ble_eq_true rfl) ?_
  intro p e s m below meth c A ls C0 hr hlocks hnm hE hStr hA hP hD hl
  generalize ([.ref z1, .int p1] : List Value).toArray = args at C0 ⊢
  have hx := C0.1
  have hb := C0.2.1
  have hml := C0.2.2.1
  have hown := C0.2.2.2.1
  have hT := C0.2.2.2.2
  have hK := hE.1
  generalize hH : s.heap = H at hP ⊢
  have hS : va_S A s.heap H [] := by rw [← hH]; exact va_S.rf
  have hP : va_P D vwCl [(z1, .inr (9, [.ref z2, .int x132])), (z2, .inl (T 2, 700, .inl f133))] H := hP
  have hD : va_D A [(z1, .inr (9, [.ref z2, .int x132])), (z2, .inl (T 2, 700, .inl f133))] := hD
  have hl : lv_has ls 2 [(0, .ref z1), (1, .int p1)] := hl
  refine lv_iload_n hx hb dX9_byteAt_0 rfl (lv_at hl 1 rfl) ?_
  refine lv_if_lt (tgt := 25) hx hb dX9_byteAt_1 (by decide) (fun c134 => ?_) (fun c134 => ?_)
  · skip
    have kc134 : p1.toInt < 0 := lt_ti rfl (by decide) c134
    refine lv_iconst (v := (-1)) hx hb dX9_byteAt_25 (by decide) ?_
    exact r_iret () C0 hr hlocks hS (Nat.le_refl _) (Nat.le_refl _) dX9_byteAt_26 ⟨(fun v1 hv1 => by have e1 := fv_inj hv1; subst e1; first | omega | exact Or.inl (by decide) | exact Or.inr (by omega)), ⟨by decide, by decide⟩⟩ (hP.sub (ws' := [(z1, .inr (9, [.ref z2, .int x132])), (z2, .inl (T 2, 700, .inl f133))]) [0, 1] rfl) (hD.sub (ws' := [(z1, .inr (9, [.ref z2, .int x132])), (z2, .inl (T 2, 700, .inl f133))]) [0, 1] (by decide +kernel) rfl)
  · skip
    have kc134 : 0 ≤ p1.toInt := nlt_ti rfl (by decide) c134
    refine lv_iload_n hx hb dX9_byteAt_4 rfl (lv_at hl 1 rfl) ?_
    refine lv_aload_n hx hb dX9_byteAt_5 rfl (lv_at hl 0 rfl) ?_
    refine r_get (v := .int x132) C0 hE ffX9_1 mw_34 hP 0 rfl rfl dX9_byteAt_6 ?_
    refine lv_icmp_ge (tgt := 25) hx hb dX9_byteAt_9 (by decide) (fun c135 => ?_) (fun c135 => ?_)
    · skip
      have kc135 : x132.toInt ≤ p1.toInt := le_ti rfl rfl c135
      refine lv_iconst (v := (-1)) hx hb dX9_byteAt_25 (by decide) ?_
      exact r_iret () C0 hr hlocks hS (Nat.le_refl _) (Nat.le_refl _) dX9_byteAt_26 ⟨(fun v1 hv1 => by have e1 := fv_inj hv1; subst e1; first | omega | exact Or.inl (by decide) | exact Or.inr (by omega)), ⟨by decide, by decide⟩⟩ (hP.sub (ws' := [(z1, .inr (9, [.ref z2, .int x132])), (z2, .inl (T 2, 700, .inl f133))]) [0, 1] rfl) (hD.sub (ws' := [(z1, .inr (9, [.ref z2, .int x132])), (z2, .inl (T 2, 700, .inl f133))]) [0, 1] (by decide +kernel) rfl)
    · skip
      have kc135 : p1.toInt < x132.toInt := nle_ti rfl rfl c135
      refine lv_aload_n hx hb dX9_byteAt_12 rfl (lv_at hl 0 rfl) ?_
      refine r_get (v := .ref z2) C0 hE ffX9_0 mw_32 hP 0 rfl rfl dX9_byteAt_13 ?_
      refine lv_iload_n hx hb dX9_byteAt_16 rfl (lv_at hl 1 rfl) ?_
      refine va_bald hx hb hK hP 1 2 rfl rfl (in_ti rfl (by omega) (by omega)) dX9_byteAt_17 ?_
      refine lv_topi (fun x136 ex136 => ?_)
      refine lv_sipush (v := 255) hx hb dX9_byteAt_18 (by decide) ?_
      refine lv_iand hx hb dX9_byteAt_21 ?_
      refine lv_topi (fun x137 ex137 => ?_)
      have hx137 : 0 ≤ x137.toInt ∧ x137.toInt ≤ 255 := and_ti 255 8 (by decide) (by decide) (by decide) ex137
      refine lv_goto (tgt := 26) hx hb dX9_byteAt_22 (by decide) ?_
      exact r_iret () C0 hr hlocks hS (Nat.le_refl _) (Nat.le_refl _) dX9_byteAt_26 ⟨(fun v1 hv1 => by have e1 := fv_inj hv1; subst e1; first | omega | exact Or.inl (by decide) | exact Or.inr (by omega)), ⟨by omega, by omega⟩⟩ (hP.sub (ws' := [(z1, .inr (9, [.ref z2, .int x132])), (z2, .inl (T 2, 700, .inl f133))]) [0, 1] rfl) (hD.sub (ws' := [(z1, .inr (9, [.ref z2, .int x132])), (z2, .inl (T 2, 700, .inl f133))]) [0, 1] (by decide +kernel) rfl)
set_option maxHeartbeats 4000000 in
set_option maxRecDepth 100000 in
theorem g_X9_addFour_302 (l : Launch) (D : va_G) (T : Nat → ClassId) (sq sv sz : Nat) (z1 : Nat) (z2 : Nat) (p1 : Int32) (w1 : va_W) (hw1 : B_X9 T z1 z2 w1) : Met l yX9_addFour (.code yX9_addFour cX9_addFour 3 none :: TB) { frames := 0, cells := 0, slots := 0, locals := 0 } (PC2 D T sq sv [.ref z1, .int p1] (w1) sz) (Qv2 (S := va_W) (fun (u0 : va_W) => B_X9 T z1 z2 u0 ∧ (∀ v1 : Int32, fv w1 1 = some (.int v1) → ∀ v2 : Int32, fv u0 1 = some (.int v2) → v1.toInt ≤ 696 → v2.toInt = v1.toInt + 4)) (fun (u0 : va_W) => u0) D (va_A (w1) sz)) 0 0 (va_A (w1) sz) := by
  obtain ⟨x305, f306, rfl, hx305⟩ := hw1
  refine ct_begin2 (Qc := Qv2 (S := va_W) (fun (u0 : va_W) => B_X9 T z1 z2 u0 ∧ (∀ v1 : Int32, fv ([(z1, .inr (9, [.ref z2, .int x305])), (z2, .inl (T 2, 700, .inl f306))] : va_W) 1 = some (.int v1) → ∀ v2 : Int32, fv u0 1 = some (.int v2) → v1.toInt ≤ 696 → v2.toInt = v1.toInt + 4)) (fun (u0 : va_W) => u0) D) (by decide +kernel) (Nat.le_of_ble_eq_true rfl) ?_
  intro p e s m below meth c A ls C0 hr hlocks hnm hE hStr hA hP hD hl
  generalize ([.ref z1, .int p1] : List Value).toArray = args at C0 ⊢
  have hx := C0.1
  have hb := C0.2.1
  have hml := C0.2.2.1
  have hown := C0.2.2.2.1
  have hT := C0.2.2.2.2
  have hK := hE.1
  generalize hH : s.heap = H at hP ⊢
  have hS : va_S A s.heap H [] := by rw [← hH]; exact va_S.rf
  have hP : va_P D vwCl [(z1, .inr (9, [.ref z2, .int x305])), (z2, .inl (T 2, 700, .inl f306))] H := hP
  have hD : va_D A [(z1, .inr (9, [.ref z2, .int x305])), (z2, .inl (T 2, 700, .inl f306))] := hD
  have hl : lv_has ls 3 [(0, .ref z1), (1, .int p1)] := hl
  refine lv_bipush (v := 24) hx hb dX9_addFour_0 (by decide) ?_
  refine lv_istore_n (lv' := [(2, .int 24), (0, .ref z1), (1, .int p1)]) hx hb dX9_addFour_2 rfl hl (by decide) rfl (fun ls hl => ?_)
  have L322 : ∀ (n : Nat) (x312 : Int32) (x313 : Int32) (f314 : Nat → Int32) (H : Heap) (locs : List Loc) (ls : Array Slot), (-8 ≤ x312.toInt ∧ x312.toInt ≤ 24) → (0 ≤ x313.toInt ∧ x313.toInt ≤ 700) → (8 * (x313.toInt - x305.toInt) = 24 - x312.toInt) → (x312.toInt - (-9)).toNat < n → va_P D vwCl [(z1, .inr (9, [.ref z2, .int x313])), (z2, .inl (T 2, 700, .inl f314))] H → va_D A [(z1, .inr (9, [.ref z2, .int x313])), (z2, .inl (T 2, 700, .inl f314))] → va_S A s.heap H locs → lv_has ls 3 [(2, .int x312), (0, .ref z1), (1, .int p1)] → W p l e { frames := 0, cells := 0, slots := 0, locals := 0 } s m args below meth c H locs 0 0 (MQ below ((Qv2 (S := va_W) (fun (u0 : va_W) => B_X9 T z1 z2 u0 ∧ (∀ v1 : Int32, fv ([(z1, .inr (9, [.ref z2, .int x305])), (z2, .inl (T 2, 700, .inl f306))] : va_W) 1 = some (.int v1) → ∀ v2 : Int32, fv u0 1 = some (.int v2) → v1.toInt ≤ 696 → v2.toInt = v1.toInt + 4)) (fun (u0 : va_W) => u0) D) A) args s 0 0 A) (F0 m 3 ls []) := by
    intro n
    induction n with
    | zero =>
      intro x312 x313 f314 H locs ls hx312 hx313 hr323 hms hP hD hS hl
      exact absurd hms (Nat.not_lt_zero _)
    | succ n ih =>
      intro x312 x313 f314 H locs ls hx312 hx313 hr323 hms hP hD hS hl
      refine lv_iload_n hx hb dX9_addFour_3 rfl (lv_at hl 0 rfl) ?_
      refine lv_if_lt (tgt := 46) hx hb dX9_addFour_4 (by decide) (fun c324 => ?_) (fun c324 => ?_)
      · skip
        have kc324 : x312.toInt < 0 := lt_ti rfl (by decide) c324
        exact r_vret2 ([(z1, .inr (9, [.ref z2, .int x313])), (z2, .inl (T 2, 700, .inl f314))] : va_W) C0 hr hlocks hS (Nat.le_refl _) (Nat.le_refl _) dX9_addFour_46 ⟨⟨x313, f314, rfl, ⟨by omega, by omega⟩⟩, (fun v1 hv1 v2 hv2 => by have e1 := fv_inj hv1; subst e1; have e2 := fv_inj hv2; subst e2; omega)⟩ (hP.sub (ws' := [(z1, .inr (9, [.ref z2, .int x313])), (z2, .inl (T 2, 700, .inl f314))]) [0, 1] rfl) (hD.sub (ws' := [(z1, .inr (9, [.ref z2, .int x313])), (z2, .inl (T 2, 700, .inl f314))]) [0, 1] (by decide +kernel) rfl)
      · skip
        have kc324 : 0 ≤ x312.toInt := nlt_ti rfl (by decide) c324
        refine lv_aload_n hx hb dX9_addFour_7 rfl (lv_at hl 1 rfl) ?_
        refine r_get (v := .int x313) C0 hE ffX9_1 mw_34 hP 0 rfl rfl dX9_addFour_8 ?_
        refine lv_sipush (v := 700) hx hb dX9_addFour_11 (by decide) ?_
        refine lv_icmp_ge (tgt := 46) hx hb dX9_addFour_14 (by decide) (fun c325 => ?_) (fun c325 => ?_)
        · skip
          have kc325 : 700 ≤ x313.toInt := le_ti (by decide) rfl c325
          exact r_vret2 ([(z1, .inr (9, [.ref z2, .int x313])), (z2, .inl (T 2, 700, .inl f314))] : va_W) C0 hr hlocks hS (Nat.le_refl _) (Nat.le_refl _) dX9_addFour_46 ⟨⟨x313, f314, rfl, ⟨by omega, by omega⟩⟩, (fun v1 hv1 v2 hv2 => by have e1 := fv_inj hv1; subst e1; have e2 := fv_inj hv2; subst e2; omega)⟩ (hP.sub (ws' := [(z1, .inr (9, [.ref z2, .int x313])), (z2, .inl (T 2, 700, .inl f314))]) [0, 1] rfl) (hD.sub (ws' := [(z1, .inr (9, [.ref z2, .int x313])), (z2, .inl (T 2, 700, .inl f314))]) [0, 1] (by decide +kernel) rfl)
        · skip
          have kc325 : x313.toInt < 700 := nle_ti (by decide) rfl c325
          refine lv_aload_n hx hb dX9_addFour_17 rfl (lv_at hl 1 rfl) ?_
          refine r_get (v := .ref z2) C0 hE ffX9_0 mw_32 hP 0 rfl rfl dX9_addFour_18 ?_
          refine lv_aload_n hx hb dX9_addFour_21 rfl (lv_at hl 1 rfl) ?_
          refine r_get (v := .int x313) C0 hE ffX9_1 mw_34 hP 0 rfl rfl dX9_addFour_22 ?_
          refine lv_iload_n hx hb dX9_addFour_25 rfl (lv_at hl 2 rfl) ?_
          refine lv_iload_n hx hb dX9_addFour_26 rfl (lv_at hl 0 rfl) ?_
          refine lv_iushr hx hb dX9_addFour_27 rfl ?_
          refine lv_topi (fun x326 ex326 => ?_)
          refine lv_i2b hx hb dX9_addFour_28 rfl ?_
          refine lv_topi (fun x327 ex327 => ?_)
          refine r_bastO hx hb hK hP hD hS 1 rfl (in_ti rfl (by omega) (by omega)) dX9_addFour_29 (fun f328 H locs hP hD hS => ?_)
          have hP : va_P D vwCl [(z1, .inr (9, [.ref z2, .int x313])), (z2, .inl (T 2, 700, .inl f328))] H := hP
          have hD : va_D A [(z1, .inr (9, [.ref z2, .int x313])), (z2, .inl (T 2, 700, .inl f328))] := hD
          refine lv_aload_n hx hb dX9_addFour_30 rfl (lv_at hl 1 rfl) ?_
          refine lv_dup hx hb dX9_addFour_31 rfl ?_
          refine r_get (v := .int x313) C0 hE ffX9_1 mw_34 hP 0 rfl rfl dX9_addFour_32 ?_
          refine lv_iconst (v := 1) hx hb dX9_addFour_35 (by decide) ?_
          refine lv_iadd hx hb dX9_addFour_36 ?_
          refine lv_topi (fun x329 ex329 => ?_)
          have hx329 : x329.toInt = x313.toInt + 1 := ti_add ex329 rfl (by decide) (by omega) (by omega)
          refine r_put (v := .int x329) (ty := .int) (fs1 := [.ref z2, .int x329]) (ws1 := [(z1, .inr (9, [.ref z2, .int x329])), (z2, .inl (T 2, 700, .inl f328))]) C0 hE ffX9_1 tyX9 tyX9_ok nmX9 mw_34 pf_1358 hP hD hS 0 rfl rfl rfl (Nat.le_of_ble_eq_true rfl) rfl rfl dX9_addFour_37 (fun H locs hP hD hS => ?_)
          obtain ⟨x330, ex330⟩ : ∃ y : Int32, y = x312 + (-8) := ⟨_, rfl⟩
          have hx330 : x330.toInt = x312.toInt + (-8) := ti_add ex330 rfl (by decide) (by omega) (by omega)
          refine lv_iinc (v := x330) (lv' := [(2, .int x330), (0, .ref z1), (1, .int p1)]) hx hb dX9_addFour_40 hl (k := 0) rfl (by rw [ex330]; rfl) (by decide) rfl (fun ls hl => ?_)
          refine lv_goto (tgt := 3) hx hb dX9_addFour_43 (by decide) ?_
          exact ih x330 x329 f328 _ _ ls ⟨by omega, by omega⟩ ⟨by omega, by omega⟩ (by omega) (by omega) (hP.sub (ws' := [(z1, .inr (9, [.ref z2, .int x329])), (z2, .inl (T 2, 700, .inl f328))]) [0, 1] rfl) (hD.sub (ws' := [(z1, .inr (9, [.ref z2, .int x329])), (z2, .inl (T 2, 700, .inl f328))]) [0, 1] (by decide +kernel) rfl) hS (lv_sub hl [0, 1, 2] rfl)
  have hl331 : (24 : Int32).toInt = 24 := by decide
  exact L322 _ 24 x305 f306 _ _ ls ⟨by decide, by decide⟩ ⟨by omega, by omega⟩ (by omega) (Nat.lt_succ_self _) (hP.sub (ws' := [(z1, .inr (9, [.ref z2, .int x305])), (z2, .inl (T 2, 700, .inl f306))]) [0, 1] rfl) (hD.sub (ws' := [(z1, .inr (9, [.ref z2, .int x305])), (z2, .inl (T 2, 700, .inl f306))]) [0, 1] (by decide +kernel) rfl) hS (lv_sub hl [0, 1, 2] rfl)
def B_X8 (T : Nat → ClassId) (a r0 r1 r2 r3 r4 r5 r6 r7 r8 : Nat) (w : va_W) : Prop := ∃ (v9 : Int32), ∃ (v10 : Int32), ∃ (v11 : Int32), ∃ (v12 : Int32), ∃ (g0 : Nat → Int64), ∃ (g1 : Nat → Int32), ∃ (g2 : Nat → Int32), ∃ (g3 : Nat → Int32), ∃ (g4 : Nat → Int32), ∃ (g5 : Nat → Int32), ∃ (g6 : Nat → Int32), ∃ (g7 : Nat → Int32), ∃ (g8 : Nat → Int32), w = [(a, .inr (8, [.ref r0, .ref r1, .ref r2, .ref r3, .ref r4, .ref r5, .ref r6, .ref r7, .ref r8, .int v9, .int v10, .int v11, .int v12])), (r0, .inl (T 1, 8, .inr (.inl g0))), (r1, .inl (T 0, 32, .inl g1)), (r2, .inl (T 0, 24, .inl g2)), (r3, .inl (T 0, 24, .inl g3)), (r4, .inl (T 0, 24, .inl g4)), (r5, .inl (T 0, 24, .inl g5)), (r6, .inl (T 0, 700, .inl g6)), (r7, .inl (T 0, 8, .inl g7)), (r8, .inl (T 0, 64, .inl g8))] ∧ (0 ≤ v9.toInt ∧ v9.toInt ≤ 8) ∧ (0 ≤ v10.toInt ∧ v10.toInt ≤ 24) ∧ (0 ≤ v12.toInt ∧ v12.toInt ≤ 700) ∧ Bd (0) (700) g3 ∧ Bd (0) (700) g4 ∧ Bd (0) (700) g5
set_option maxHeartbeats 4000000 in
set_option maxRecDepth 100000 in
theorem g_X8_empty_466 (l : Launch) (D : va_G) (T : Nat → ClassId) (sq sv sz : Nat) (z1 : Nat) (z2 : Nat) (z3 : Nat) (z4 : Nat) (z5 : Nat) (z6 : Nat) (z7 : Nat) (z8 : Nat) (z9 : Nat) (z10 : Nat) (w1 : va_W) (hw1 : B_X8 T z1 z2 z3 z4 z5 z6 z7 z8 z9 z10 w1) : Met l yX8_empty (.code yX8_empty cX8_empty 1 none :: TB) { frames := 0, cells := 0, slots := 0, locals := 0 } (PC2 D T sq sv [.ref z1] (w1) sz) (Qv2 (S := va_W) (fun (u0 : va_W) => B_X8 T z1 z2 z3 z4 z5 z6 z7 z8 z9 z10 u0) (fun (u0 : va_W) => u0) D (va_A (w1) sz)) 0 0 (va_A (w1) sz) := by
  obtain ⟨x483, x484, x485, x486, f487, f488, f489, f490, f492, f494, f496, f497, f498, rfl, hx483, hx484, hx486, hb491, hb493, hb495⟩ := hw1
  refine ct_begin2 (Qc := Qv2 (S := va_W) (fun (u0 : va_W) => B_X8 T z1 z2 z3 z4 z5 z6 z7 z8 z9 z10 u0) (fun (u0 : va_W) => u0) D) (by decide +kernel) (Nat.le_of_ble_eq_true rfl) ?_
  intro p e s m below meth c A ls C0 hr hlocks hnm hE hStr hA hP hD hl
  generalize ([.ref z1] : List Value).toArray = args at C0 ⊢
  have hx := C0.1
  have hb := C0.2.1
  have hml := C0.2.2.1
  have hown := C0.2.2.2.1
  have hT := C0.2.2.2.2
  have hK := hE.1
  generalize hH : s.heap = H at hP ⊢
  have hS : va_S A s.heap H [] := by rw [← hH]; exact va_S.rf
  have hP : va_P D vwCl [(z1, .inr (8, [.ref z2, .ref z3, .ref z4, .ref z5, .ref z6, .ref z7, .ref z8, .ref z9, .ref z10, .int x483, .int x484, .int x485, .int x486])), (z2, .inl (T 1, 8, .inr (.inl f487))), (z3, .inl (T 0, 32, .inl f488)), (z4, .inl (T 0, 24, .inl f489)), (z5, .inl (T 0, 24, .inl f490)), (z6, .inl (T 0, 24, .inl f492)), (z7, .inl (T 0, 24, .inl f494)), (z8, .inl (T 0, 700, .inl f496)), (z9, .inl (T 0, 8, .inl f497)), (z10, .inl (T 0, 64, .inl f498))] H := hP
  have hD : va_D A [(z1, .inr (8, [.ref z2, .ref z3, .ref z4, .ref z5, .ref z6, .ref z7, .ref z8, .ref z9, .ref z10, .int x483, .int x484, .int x485, .int x486])), (z2, .inl (T 1, 8, .inr (.inl f487))), (z3, .inl (T 0, 32, .inl f488)), (z4, .inl (T 0, 24, .inl f489)), (z5, .inl (T 0, 24, .inl f490)), (z6, .inl (T 0, 24, .inl f492)), (z7, .inl (T 0, 24, .inl f494)), (z8, .inl (T 0, 700, .inl f496)), (z9, .inl (T 0, 8, .inl f497)), (z10, .inl (T 0, 64, .inl f498))] := hD
  have hl : lv_has ls 1 [(0, .ref z1)] := hl
  refine lv_aload_n hx hb dX8_empty_0 rfl (lv_at hl 0 rfl) ?_
  refine lv_iconst (v := 0) hx hb dX8_empty_1 (by decide) ?_
  refine r_put (v := .int 0) (ty := .int) (fs1 := [.ref z2, .ref z3, .ref z4, .ref z5, .ref z6, .ref z7, .ref z8, .ref z9, .ref z10, .int 0, .int x484, .int x485, .int x486]) (ws1 := [(z1, .inr (8, [.ref z2, .ref z3, .ref z4, .ref z5, .ref z6, .ref z7, .ref z8, .ref z9, .ref z10, .int 0, .int x484, .int x485, .int x486])), (z2, .inl (T 1, 8, .inr (.inl f487))), (z3, .inl (T 0, 32, .inl f488)), (z4, .inl (T 0, 24, .inl f489)), (z5, .inl (T 0, 24, .inl f490)), (z6, .inl (T 0, 24, .inl f492)), (z7, .inl (T 0, 24, .inl f494)), (z8, .inl (T 0, 700, .inl f496)), (z9, .inl (T 0, 8, .inl f497)), (z10, .inl (T 0, 64, .inl f498))]) C0 hE ffX8_9 tyX8 tyX8_ok nmX8 mw_208 pf_1358 hP hD hS 0 rfl rfl rfl (Nat.le_of_ble_eq_true rfl) rfl rfl dX8_empty_2 (fun H locs hP hD hS => ?_)
  refine lv_aload_n hx hb dX8_empty_5 rfl (lv_at hl 0 rfl) ?_
  refine lv_iconst (v := 0) hx hb dX8_empty_6 (by decide) ?_
  refine r_put (v := .int 0) (ty := .int) (fs1 := [.ref z2, .ref z3, .ref z4, .ref z5, .ref z6, .ref z7, .ref z8, .ref z9, .ref z10, .int 0, .int 0, .int x485, .int x486]) (ws1 := [(z1, .inr (8, [.ref z2, .ref z3, .ref z4, .ref z5, .ref z6, .ref z7, .ref z8, .ref z9, .ref z10, .int 0, .int 0, .int x485, .int x486])), (z2, .inl (T 1, 8, .inr (.inl f487))), (z3, .inl (T 0, 32, .inl f488)), (z4, .inl (T 0, 24, .inl f489)), (z5, .inl (T 0, 24, .inl f490)), (z6, .inl (T 0, 24, .inl f492)), (z7, .inl (T 0, 24, .inl f494)), (z8, .inl (T 0, 700, .inl f496)), (z9, .inl (T 0, 8, .inl f497)), (z10, .inl (T 0, 64, .inl f498))]) C0 hE ffX8_10 tyX8 tyX8_ok nmX8 mw_211 pf_1358 hP hD hS 0 rfl rfl rfl (Nat.le_of_ble_eq_true rfl) rfl rfl dX8_empty_7 (fun H locs hP hD hS => ?_)
  refine lv_aload_n hx hb dX8_empty_10 rfl (lv_at hl 0 rfl) ?_
  refine lv_iconst (v := 0) hx hb dX8_empty_11 (by decide) ?_
  refine r_put (v := .int 0) (ty := .int) (fs1 := [.ref z2, .ref z3, .ref z4, .ref z5, .ref z6, .ref z7, .ref z8, .ref z9, .ref z10, .int 0, .int 0, .int 0, .int x486]) (ws1 := [(z1, .inr (8, [.ref z2, .ref z3, .ref z4, .ref z5, .ref z6, .ref z7, .ref z8, .ref z9, .ref z10, .int 0, .int 0, .int 0, .int x486])), (z2, .inl (T 1, 8, .inr (.inl f487))), (z3, .inl (T 0, 32, .inl f488)), (z4, .inl (T 0, 24, .inl f489)), (z5, .inl (T 0, 24, .inl f490)), (z6, .inl (T 0, 24, .inl f492)), (z7, .inl (T 0, 24, .inl f494)), (z8, .inl (T 0, 700, .inl f496)), (z9, .inl (T 0, 8, .inl f497)), (z10, .inl (T 0, 64, .inl f498))]) C0 hE ffX8_11 tyX8 tyX8_ok nmX8 mw_213 pf_1358 hP hD hS 0 rfl rfl rfl (Nat.le_of_ble_eq_true rfl) rfl rfl dX8_empty_12 (fun H locs hP hD hS => ?_)
  refine lv_aload_n hx hb dX8_empty_15 rfl (lv_at hl 0 rfl) ?_
  refine lv_iconst (v := 0) hx hb dX8_empty_16 (by decide) ?_
  refine r_put (v := .int 0) (ty := .int) (fs1 := [.ref z2, .ref z3, .ref z4, .ref z5, .ref z6, .ref z7, .ref z8, .ref z9, .ref z10, .int 0, .int 0, .int 0, .int 0]) (ws1 := [(z1, .inr (8, [.ref z2, .ref z3, .ref z4, .ref z5, .ref z6, .ref z7, .ref z8, .ref z9, .ref z10, .int 0, .int 0, .int 0, .int 0])), (z2, .inl (T 1, 8, .inr (.inl f487))), (z3, .inl (T 0, 32, .inl f488)), (z4, .inl (T 0, 24, .inl f489)), (z5, .inl (T 0, 24, .inl f490)), (z6, .inl (T 0, 24, .inl f492)), (z7, .inl (T 0, 24, .inl f494)), (z8, .inl (T 0, 700, .inl f496)), (z9, .inl (T 0, 8, .inl f497)), (z10, .inl (T 0, 64, .inl f498))]) C0 hE ffX8_12 tyX8 tyX8_ok nmX8 mw_216 pf_1358 hP hD hS 0 rfl rfl rfl (Nat.le_of_ble_eq_true rfl) rfl rfl dX8_empty_17 (fun H locs hP hD hS => ?_)
  exact r_vret2 ([(z1, .inr (8, [.ref z2, .ref z3, .ref z4, .ref z5, .ref z6, .ref z7, .ref z8, .ref z9, .ref z10, .int 0, .int 0, .int 0, .int 0])), (z2, .inl (T 1, 8, .inr (.inl f487))), (z3, .inl (T 0, 32, .inl f488)), (z4, .inl (T 0, 24, .inl f489)), (z5, .inl (T 0, 24, .inl f490)), (z6, .inl (T 0, 24, .inl f492)), (z7, .inl (T 0, 24, .inl f494)), (z8, .inl (T 0, 700, .inl f496)), (z9, .inl (T 0, 8, .inl f497)), (z10, .inl (T 0, 64, .inl f498))] : va_W) C0 hr hlocks hS (Nat.le_refl _) (Nat.le_refl _) dX8_empty_20 ⟨0, 0, 0, 0, f487, f488, f489, f490, f492, f494, f496, f497, f498, rfl, ⟨by decide, by decide⟩, ⟨by decide, by decide⟩, ⟨by decide, by decide⟩, hb491, hb493, hb495⟩ (hP.sub (ws' := [(z1, .inr (8, [.ref z2, .ref z3, .ref z4, .ref z5, .ref z6, .ref z7, .ref z8, .ref z9, .ref z10, .int 0, .int 0, .int 0, .int 0])), (z2, .inl (T 1, 8, .inr (.inl f487))), (z3, .inl (T 0, 32, .inl f488)), (z4, .inl (T 0, 24, .inl f489)), (z5, .inl (T 0, 24, .inl f490)), (z6, .inl (T 0, 24, .inl f492)), (z7, .inl (T 0, 24, .inl f494)), (z8, .inl (T 0, 700, .inl f496)), (z9, .inl (T 0, 8, .inl f497)), (z10, .inl (T 0, 64, .inl f498))]) [0, 1, 2, 3, 4, 5, 6, 7, 8, 9] rfl) (hD.sub (ws' := [(z1, .inr (8, [.ref z2, .ref z3, .ref z4, .ref z5, .ref z6, .ref z7, .ref z8, .ref z9, .ref z10, .int 0, .int 0, .int 0, .int 0])), (z2, .inl (T 1, 8, .inr (.inl f487))), (z3, .inl (T 0, 32, .inl f488)), (z4, .inl (T 0, 24, .inl f489)), (z5, .inl (T 0, 24, .inl f490)), (z6, .inl (T 0, 24, .inl f492)), (z7, .inl (T 0, 24, .inl f494)), (z8, .inl (T 0, 700, .inl f496)), (z9, .inl (T 0, 8, .inl f497)), (z10, .inl (T 0, 64, .inl f498))]) [0, 1, 2, 3, 4, 5, 6, 7, 8, 9] (by decide +kernel) rfl)
set_option maxHeartbeats 4000000 in
set_option maxRecDepth 100000 in
theorem g_X8_numberOf_645 (l : Launch) (D : va_G) (T : Nat → ClassId) (sq sv sz : Nat) (z1 : Nat) (z2 : Nat) (z3 : Nat) (z4 : Nat) (z5 : Nat) (z6 : Nat) (z7 : Nat) (z8 : Nat) (z9 : Nat) (z10 : Nat) (p1 : Int32) (p2 : Int32) (w1 : va_W) (hw1 : B_X8 T z1 z2 z3 z4 z5 z6 z7 z8 z9 z10 w1) (hp2 : 0 ≤ p2.toInt ∧ p2.toInt ≤ 3) : Met l yX8_numberOf (.code yX8_numberOf cX8_numberOf 3 (some .int) :: TB) { frames := 0, cells := 0, slots := 0, locals := 0 } (PC2 D T sq sv [.ref z1, .int p1, .int p2] (w1) sz) (Qi (S := Unit) (fun (r : Int32) (_ : Unit) => True) (fun (_ : Unit) => w1) D (va_A (w1) sz)) 0 0 (va_A (w1) sz) := by
  obtain ⟨x662, x663, x664, x665, f666, f667, f668, f669, f671, f673, f675, f676, f677, rfl, hx662, hx663, hx665, hb670, hb672, hb674⟩ := hw1
  refine ct_begin2 (Qc := Qi (S := Unit) (fun (r : Int32) (_ : Unit) => True) (fun (_ : Unit) => ([(z1, .inr (8, [.ref z2, .ref z3, .ref z4, .ref z5, .ref z6, .ref z7, .ref z8, .ref z9, .ref z10, .int x662, .int x663, .int x664, .int x665])), (z2, .inl (T 1, 8, .inr (.inl f666))), (z3, .inl (T 0, 32, .inl f667)), (z4, .inl (T 0, 24, .inl f668)), (z5, .inl (T 0, 24, .inl f669)), (z6, .inl (T 0, 24, .inl f671)), (z7, .inl (T 0, 24, .inl f673)), (z8, .inl (T 0, 700, .inl f675)), (z9, .inl (T 0, 8, .inl f676)), (z10, .inl (T 0, 64, .inl f677))] : va_W)) D) (by decide +kernel) (Nat.le_of_ble_eq_true rfl) ?_
  intro p e s m below meth c A ls C0 hr hlocks hnm hE hStr hA hP hD hl
  generalize ([.ref z1, .int p1, .int p2] : List Value).toArray = args at C0 ⊢
  have hx := C0.1
  have hb := C0.2.1
  have hml := C0.2.2.1
  have hown := C0.2.2.2.1
  have hT := C0.2.2.2.2
  have hK := hE.1
  generalize hH : s.heap = H at hP ⊢
  have hS : va_S A s.heap H [] := by rw [← hH]; exact va_S.rf
  have hP : va_P D vwCl [(z1, .inr (8, [.ref z2, .ref z3, .ref z4, .ref z5, .ref z6, .ref z7, .ref z8, .ref z9, .ref z10, .int x662, .int x663, .int x664, .int x665])), (z2, .inl (T 1, 8, .inr (.inl f666))), (z3, .inl (T 0, 32, .inl f667)), (z4, .inl (T 0, 24, .inl f668)), (z5, .inl (T 0, 24, .inl f669)), (z6, .inl (T 0, 24, .inl f671)), (z7, .inl (T 0, 24, .inl f673)), (z8, .inl (T 0, 700, .inl f675)), (z9, .inl (T 0, 8, .inl f676)), (z10, .inl (T 0, 64, .inl f677))] H := hP
  have hD : va_D A [(z1, .inr (8, [.ref z2, .ref z3, .ref z4, .ref z5, .ref z6, .ref z7, .ref z8, .ref z9, .ref z10, .int x662, .int x663, .int x664, .int x665])), (z2, .inl (T 1, 8, .inr (.inl f666))), (z3, .inl (T 0, 32, .inl f667)), (z4, .inl (T 0, 24, .inl f668)), (z5, .inl (T 0, 24, .inl f669)), (z6, .inl (T 0, 24, .inl f671)), (z7, .inl (T 0, 24, .inl f673)), (z8, .inl (T 0, 700, .inl f675)), (z9, .inl (T 0, 8, .inl f676)), (z10, .inl (T 0, 64, .inl f677))] := hD
  have hl : lv_has ls 3 [(0, .ref z1), (1, .int p1), (2, .int p2)] := hl
  refine lv_iload_n hx hb dX8_numberOf_0 rfl (lv_at hl 1 rfl) ?_
  have J684 : ∀ (x683 : Int32) (H : Heap) (locs : List Loc) (ls : Array Slot), va_P D vwCl [(z1, .inr (8, [.ref z2, .ref z3, .ref z4, .ref z5, .ref z6, .ref z7, .ref z8, .ref z9, .ref z10, .int x662, .int x663, .int x664, .int x665])), (z2, .inl (T 1, 8, .inr (.inl f666))), (z3, .inl (T 0, 32, .inl f667)), (z4, .inl (T 0, 24, .inl f668)), (z5, .inl (T 0, 24, .inl f669)), (z6, .inl (T 0, 24, .inl f671)), (z7, .inl (T 0, 24, .inl f673)), (z8, .inl (T 0, 700, .inl f675)), (z9, .inl (T 0, 8, .inl f676)), (z10, .inl (T 0, 64, .inl f677))] H → va_D A [(z1, .inr (8, [.ref z2, .ref z3, .ref z4, .ref z5, .ref z6, .ref z7, .ref z8, .ref z9, .ref z10, .int x662, .int x663, .int x664, .int x665])), (z2, .inl (T 1, 8, .inr (.inl f666))), (z3, .inl (T 0, 32, .inl f667)), (z4, .inl (T 0, 24, .inl f668)), (z5, .inl (T 0, 24, .inl f669)), (z6, .inl (T 0, 24, .inl f671)), (z7, .inl (T 0, 24, .inl f673)), (z8, .inl (T 0, 700, .inl f675)), (z9, .inl (T 0, 8, .inl f676)), (z10, .inl (T 0, 64, .inl f677))] → va_S A s.heap H locs → lv_has ls 3 [(0, .ref z1), (1, .int p1), (2, .int p2)] → W p l e { frames := 0, cells := 0, slots := 0, locals := 0 } s m args below meth c H locs 0 0 (MQ below ((Qi (S := Unit) (fun (r : Int32) (_ : Unit) => True) (fun (_ : Unit) => ([(z1, .inr (8, [.ref z2, .ref z3, .ref z4, .ref z5, .ref z6, .ref z7, .ref z8, .ref z9, .ref z10, .int x662, .int x663, .int x664, .int x665])), (z2, .inl (T 1, 8, .inr (.inl f666))), (z3, .inl (T 0, 32, .inl f667)), (z4, .inl (T 0, 24, .inl f668)), (z5, .inl (T 0, 24, .inl f669)), (z6, .inl (T 0, 24, .inl f671)), (z7, .inl (T 0, 24, .inl f673)), (z8, .inl (T 0, 700, .inl f675)), (z9, .inl (T 0, 8, .inl f676)), (z10, .inl (T 0, 64, .inl f677))] : va_W)) D) A) args s 0 0 A) (F0 m 26 ls [.int x683]) := by
    intro x683 H locs ls hP hD hS hl
    exact r_iret () C0 hr hlocks hS (Nat.le_refl _) (Nat.le_refl _) dX8_numberOf_26 trivial (hP.sub (ws' := [(z1, .inr (8, [.ref z2, .ref z3, .ref z4, .ref z5, .ref z6, .ref z7, .ref z8, .ref z9, .ref z10, .int x662, .int x663, .int x664, .int x665])), (z2, .inl (T 1, 8, .inr (.inl f666))), (z3, .inl (T 0, 32, .inl f667)), (z4, .inl (T 0, 24, .inl f668)), (z5, .inl (T 0, 24, .inl f669)), (z6, .inl (T 0, 24, .inl f671)), (z7, .inl (T 0, 24, .inl f673)), (z8, .inl (T 0, 700, .inl f675)), (z9, .inl (T 0, 8, .inl f676)), (z10, .inl (T 0, 64, .inl f677))]) [0, 1, 2, 3, 4, 5, 6, 7, 8, 9] rfl) (hD.sub (ws' := [(z1, .inr (8, [.ref z2, .ref z3, .ref z4, .ref z5, .ref z6, .ref z7, .ref z8, .ref z9, .ref z10, .int x662, .int x663, .int x664, .int x665])), (z2, .inl (T 1, 8, .inr (.inl f666))), (z3, .inl (T 0, 32, .inl f667)), (z4, .inl (T 0, 24, .inl f668)), (z5, .inl (T 0, 24, .inl f669)), (z6, .inl (T 0, 24, .inl f671)), (z7, .inl (T 0, 24, .inl f673)), (z8, .inl (T 0, 700, .inl f675)), (z9, .inl (T 0, 8, .inl f676)), (z10, .inl (T 0, 64, .inl f677))]) [0, 1, 2, 3, 4, 5, 6, 7, 8, 9] (by decide +kernel) rfl)
  refine lv_if_lt (tgt := 25) hx hb dX8_numberOf_1 (by decide) (fun c678 => ?_) (fun c678 => ?_)
  · skip
    have kc678 : p1.toInt < 0 := lt_ti rfl (by decide) c678
    refine lv_iconst (v := 0) hx hb dX8_numberOf_25 (by decide) ?_
    exact J684 0 _ _ ls (hP.sub (ws' := [(z1, .inr (8, [.ref z2, .ref z3, .ref z4, .ref z5, .ref z6, .ref z7, .ref z8, .ref z9, .ref z10, .int x662, .int x663, .int x664, .int x665])), (z2, .inl (T 1, 8, .inr (.inl f666))), (z3, .inl (T 0, 32, .inl f667)), (z4, .inl (T 0, 24, .inl f668)), (z5, .inl (T 0, 24, .inl f669)), (z6, .inl (T 0, 24, .inl f671)), (z7, .inl (T 0, 24, .inl f673)), (z8, .inl (T 0, 700, .inl f675)), (z9, .inl (T 0, 8, .inl f676)), (z10, .inl (T 0, 64, .inl f677))]) [0, 1, 2, 3, 4, 5, 6, 7, 8, 9] rfl) (hD.sub (ws' := [(z1, .inr (8, [.ref z2, .ref z3, .ref z4, .ref z5, .ref z6, .ref z7, .ref z8, .ref z9, .ref z10, .int x662, .int x663, .int x664, .int x665])), (z2, .inl (T 1, 8, .inr (.inl f666))), (z3, .inl (T 0, 32, .inl f667)), (z4, .inl (T 0, 24, .inl f668)), (z5, .inl (T 0, 24, .inl f669)), (z6, .inl (T 0, 24, .inl f671)), (z7, .inl (T 0, 24, .inl f673)), (z8, .inl (T 0, 700, .inl f675)), (z9, .inl (T 0, 8, .inl f676)), (z10, .inl (T 0, 64, .inl f677))]) [0, 1, 2, 3, 4, 5, 6, 7, 8, 9] (by decide +kernel) rfl) hS (lv_sub hl [0, 1, 2] rfl)
  · skip
    have kc678 : 0 ≤ p1.toInt := nlt_ti rfl (by decide) c678
    refine lv_iload_n hx hb dX8_numberOf_4 rfl (lv_at hl 1 rfl) ?_
    refine lv_aload_n hx hb dX8_numberOf_5 rfl (lv_at hl 0 rfl) ?_
    refine r_get (v := .int x662) C0 hE ffX8_9 mw_208 hP 0 rfl rfl dX8_numberOf_6 ?_
    refine lv_icmp_ge (tgt := 25) hx hb dX8_numberOf_9 (by decide) (fun c685 => ?_) (fun c685 => ?_)
    · skip
      have kc685 : x662.toInt ≤ p1.toInt := le_ti rfl rfl c685
      refine lv_iconst (v := 0) hx hb dX8_numberOf_25 (by decide) ?_
      exact J684 0 _ _ ls (hP.sub (ws' := [(z1, .inr (8, [.ref z2, .ref z3, .ref z4, .ref z5, .ref z6, .ref z7, .ref z8, .ref z9, .ref z10, .int x662, .int x663, .int x664, .int x665])), (z2, .inl (T 1, 8, .inr (.inl f666))), (z3, .inl (T 0, 32, .inl f667)), (z4, .inl (T 0, 24, .inl f668)), (z5, .inl (T 0, 24, .inl f669)), (z6, .inl (T 0, 24, .inl f671)), (z7, .inl (T 0, 24, .inl f673)), (z8, .inl (T 0, 700, .inl f675)), (z9, .inl (T 0, 8, .inl f676)), (z10, .inl (T 0, 64, .inl f677))]) [0, 1, 2, 3, 4, 5, 6, 7, 8, 9] rfl) (hD.sub (ws' := [(z1, .inr (8, [.ref z2, .ref z3, .ref z4, .ref z5, .ref z6, .ref z7, .ref z8, .ref z9, .ref z10, .int x662, .int x663, .int x664, .int x665])), (z2, .inl (T 1, 8, .inr (.inl f666))), (z3, .inl (T 0, 32, .inl f667)), (z4, .inl (T 0, 24, .inl f668)), (z5, .inl (T 0, 24, .inl f669)), (z6, .inl (T 0, 24, .inl f671)), (z7, .inl (T 0, 24, .inl f673)), (z8, .inl (T 0, 700, .inl f675)), (z9, .inl (T 0, 8, .inl f676)), (z10, .inl (T 0, 64, .inl f677))]) [0, 1, 2, 3, 4, 5, 6, 7, 8, 9] (by decide +kernel) rfl) hS (lv_sub hl [0, 1, 2] rfl)
    · skip
      have kc685 : p1.toInt < x662.toInt := nle_ti rfl rfl c685
      refine lv_aload_n hx hb dX8_numberOf_12 rfl (lv_at hl 0 rfl) ?_
      refine r_get (v := .ref z3) C0 hE ffX8_1 mw_194 hP 0 rfl rfl dX8_numberOf_13 ?_
      refine lv_iload_n hx hb dX8_numberOf_16 rfl (lv_at hl 1 rfl) ?_
      refine lv_iconst (v := 4) hx hb dX8_numberOf_17 (by decide) ?_
      refine lv_imul hx hb dX8_numberOf_18 ?_
      refine lv_topi (fun x686 ex686 => ?_)
      have hx686 : x686.toInt = p1.toInt * 4 := ti_mul ex686 rfl (by decide) (by omega) (by omega)
      refine lv_iload_n hx hb dX8_numberOf_19 rfl (lv_at hl 2 rfl) ?_
      refine lv_iadd hx hb dX8_numberOf_20 ?_
      refine lv_topi (fun x687 ex687 => ?_)
      have hx687 : x687.toInt = x686.toInt + p2.toInt := ti_add ex687 rfl rfl (by omega) (by omega)
      refine va_iald hx hb hK hP 2 0 rfl rfl (in_ti rfl (by omega) (by omega)) dX8_numberOf_21 ?_
      refine lv_topi (fun x688 ex688 => ?_)
      refine lv_goto (tgt := 26) hx hb dX8_numberOf_22 (by decide) ?_
      exact J684 x688 _ _ ls (hP.sub (ws' := [(z1, .inr (8, [.ref z2, .ref z3, .ref z4, .ref z5, .ref z6, .ref z7, .ref z8, .ref z9, .ref z10, .int x662, .int x663, .int x664, .int x665])), (z2, .inl (T 1, 8, .inr (.inl f666))), (z3, .inl (T 0, 32, .inl f667)), (z4, .inl (T 0, 24, .inl f668)), (z5, .inl (T 0, 24, .inl f669)), (z6, .inl (T 0, 24, .inl f671)), (z7, .inl (T 0, 24, .inl f673)), (z8, .inl (T 0, 700, .inl f675)), (z9, .inl (T 0, 8, .inl f676)), (z10, .inl (T 0, 64, .inl f677))]) [0, 1, 2, 3, 4, 5, 6, 7, 8, 9] rfl) (hD.sub (ws' := [(z1, .inr (8, [.ref z2, .ref z3, .ref z4, .ref z5, .ref z6, .ref z7, .ref z8, .ref z9, .ref z10, .int x662, .int x663, .int x664, .int x665])), (z2, .inl (T 1, 8, .inr (.inl f666))), (z3, .inl (T 0, 32, .inl f667)), (z4, .inl (T 0, 24, .inl f668)), (z5, .inl (T 0, 24, .inl f669)), (z6, .inl (T 0, 24, .inl f671)), (z7, .inl (T 0, 24, .inl f673)), (z8, .inl (T 0, 700, .inl f675)), (z9, .inl (T 0, 8, .inl f676)), (z10, .inl (T 0, 64, .inl f677))]) [0, 1, 2, 3, 4, 5, 6, 7, 8, 9] (by decide +kernel) rfl) hS (lv_sub hl [0, 1, 2] rfl)
set_option maxHeartbeats 4000000 in
set_option maxRecDepth 100000 in
theorem g_X8_kindNamed_937 (l : Launch) (D : va_G) (T : Nat → ClassId) (sq sv sz : Nat) (z1 : Nat) (z2 : Nat) (z3 : Nat) (z4 : Nat) (z5 : Nat) (z6 : Nat) (z7 : Nat) (z8 : Nat) (z9 : Nat) (z10 : Nat) (p1 : Int64) (w1 : va_W) (hw1 : B_X8 T z1 z2 z3 z4 z5 z6 z7 z8 z9 z10 w1) : Met l yX8_kindNamed (.code yX8_kindNamed cX8_kindNamed 4 (some .int) :: TB) { frames := 0, cells := 0, slots := 0, locals := 0 } (PC2 D T sq sv [.ref z1, .long p1] (w1) sz) (Qi (S := Unit) (fun (r : Int32) (_ : Unit) => (-1 ≤ r.toInt ∧ r.toInt ≤ 7)) (fun (_ : Unit) => w1) D (va_A (w1) sz)) 0 0 (va_A (w1) sz) := by
  obtain ⟨x954, x955, x956, x957, f958, f959, f960, f961, f963, f965, f967, f968, f969, rfl, hx954, hx955, hx957, hb962, hb964, hb966⟩ := hw1
  refine ct_begin2 (Qc := Qi (S := Unit) (fun (r : Int32) (_ : Unit) => (-1 ≤ r.toInt ∧ r.toInt ≤ 7)) (fun (_ : Unit) => ([(z1, .inr (8, [.ref z2, .ref z3, .ref z4, .ref z5, .ref z6, .ref z7, .ref z8, .ref z9, .ref z10, .int x954, .int x955, .int x956, .int x957])), (z2, .inl (T 1, 8, .inr (.inl f958))), (z3, .inl (T 0, 32, .inl f959)), (z4, .inl (T 0, 24, .inl f960)), (z5, .inl (T 0, 24, .inl f961)), (z6, .inl (T 0, 24, .inl f963)), (z7, .inl (T 0, 24, .inl f965)), (z8, .inl (T 0, 700, .inl f967)), (z9, .inl (T 0, 8, .inl f968)), (z10, .inl (T 0, 64, .inl f969))] : va_W)) D) (by decide +kernel) (Nat.le_of_ble_eq_true rfl) ?_
  intro p e s m below meth c A ls C0 hr hlocks hnm hE hStr hA hP hD hl
  generalize ([.ref z1, .long p1] : List Value).toArray = args at C0 ⊢
  have hx := C0.1
  have hb := C0.2.1
  have hml := C0.2.2.1
  have hown := C0.2.2.2.1
  have hT := C0.2.2.2.2
  have hK := hE.1
  generalize hH : s.heap = H at hP ⊢
  have hS : va_S A s.heap H [] := by rw [← hH]; exact va_S.rf
  have hP : va_P D vwCl [(z1, .inr (8, [.ref z2, .ref z3, .ref z4, .ref z5, .ref z6, .ref z7, .ref z8, .ref z9, .ref z10, .int x954, .int x955, .int x956, .int x957])), (z2, .inl (T 1, 8, .inr (.inl f958))), (z3, .inl (T 0, 32, .inl f959)), (z4, .inl (T 0, 24, .inl f960)), (z5, .inl (T 0, 24, .inl f961)), (z6, .inl (T 0, 24, .inl f963)), (z7, .inl (T 0, 24, .inl f965)), (z8, .inl (T 0, 700, .inl f967)), (z9, .inl (T 0, 8, .inl f968)), (z10, .inl (T 0, 64, .inl f969))] H := hP
  have hD : va_D A [(z1, .inr (8, [.ref z2, .ref z3, .ref z4, .ref z5, .ref z6, .ref z7, .ref z8, .ref z9, .ref z10, .int x954, .int x955, .int x956, .int x957])), (z2, .inl (T 1, 8, .inr (.inl f958))), (z3, .inl (T 0, 32, .inl f959)), (z4, .inl (T 0, 24, .inl f960)), (z5, .inl (T 0, 24, .inl f961)), (z6, .inl (T 0, 24, .inl f963)), (z7, .inl (T 0, 24, .inl f965)), (z8, .inl (T 0, 700, .inl f967)), (z9, .inl (T 0, 8, .inl f968)), (z10, .inl (T 0, 64, .inl f969))] := hD
  have hl : lv_has ls 4 [(0, .ref z1), (1, .long p1)] := hl
  refine lv_iconst (v := 0) hx hb dX8_kindNamed_0 (by decide) ?_
  refine lv_istore_n (lv' := [(3, .int 0), (0, .ref z1), (1, .long p1)]) hx hb dX8_kindNamed_1 rfl hl (by decide) rfl (fun ls hl => ?_)
  have L1022 : ∀ (n : Nat) (x1016 : Int32) (H : Heap) (locs : List Loc) (ls : Array Slot), (0 ≤ x1016.toInt ∧ x1016.toInt ≤ 8) → (9 - x1016.toInt).toNat < n → va_P D vwCl [(z1, .inr (8, [.ref z2, .ref z3, .ref z4, .ref z5, .ref z6, .ref z7, .ref z8, .ref z9, .ref z10, .int x954, .int x955, .int x956, .int x957])), (z2, .inl (T 1, 8, .inr (.inl f958))), (z3, .inl (T 0, 32, .inl f959)), (z4, .inl (T 0, 24, .inl f960)), (z5, .inl (T 0, 24, .inl f961)), (z6, .inl (T 0, 24, .inl f963)), (z7, .inl (T 0, 24, .inl f965)), (z8, .inl (T 0, 700, .inl f967)), (z9, .inl (T 0, 8, .inl f968)), (z10, .inl (T 0, 64, .inl f969))] H → va_D A [(z1, .inr (8, [.ref z2, .ref z3, .ref z4, .ref z5, .ref z6, .ref z7, .ref z8, .ref z9, .ref z10, .int x954, .int x955, .int x956, .int x957])), (z2, .inl (T 1, 8, .inr (.inl f958))), (z3, .inl (T 0, 32, .inl f959)), (z4, .inl (T 0, 24, .inl f960)), (z5, .inl (T 0, 24, .inl f961)), (z6, .inl (T 0, 24, .inl f963)), (z7, .inl (T 0, 24, .inl f965)), (z8, .inl (T 0, 700, .inl f967)), (z9, .inl (T 0, 8, .inl f968)), (z10, .inl (T 0, 64, .inl f969))] → va_S A s.heap H locs → lv_has ls 4 [(3, .int x1016), (0, .ref z1), (1, .long p1)] → W p l e { frames := 0, cells := 0, slots := 0, locals := 0 } s m args below meth c H locs 0 0 (MQ below ((Qi (S := Unit) (fun (r : Int32) (_ : Unit) => (-1 ≤ r.toInt ∧ r.toInt ≤ 7)) (fun (_ : Unit) => ([(z1, .inr (8, [.ref z2, .ref z3, .ref z4, .ref z5, .ref z6, .ref z7, .ref z8, .ref z9, .ref z10, .int x954, .int x955, .int x956, .int x957])), (z2, .inl (T 1, 8, .inr (.inl f958))), (z3, .inl (T 0, 32, .inl f959)), (z4, .inl (T 0, 24, .inl f960)), (z5, .inl (T 0, 24, .inl f961)), (z6, .inl (T 0, 24, .inl f963)), (z7, .inl (T 0, 24, .inl f965)), (z8, .inl (T 0, 700, .inl f967)), (z9, .inl (T 0, 8, .inl f968)), (z10, .inl (T 0, 64, .inl f969))] : va_W)) D) A) args s 0 0 A) (F0 m 2 ls []) := by
    intro n
    induction n with
    | zero =>
      intro x1016 H locs ls hx1016 hms hP hD hS hl
      exact absurd hms (Nat.not_lt_zero _)
    | succ n ih =>
      intro x1016 H locs ls hx1016 hms hP hD hS hl
      refine lv_iload_n hx hb dX8_kindNamed_2 rfl (lv_at hl 0 rfl) ?_
      refine lv_aload_n hx hb dX8_kindNamed_3 rfl (lv_at hl 1 rfl) ?_
      refine r_get (v := .int x954) C0 hE ffX8_9 mw_208 hP 0 rfl rfl dX8_kindNamed_4 ?_
      refine lv_icmp_ge (tgt := 29) hx hb dX8_kindNamed_7 (by decide) (fun c1023 => ?_) (fun c1023 => ?_)
      · skip
        have kc1023 : x954.toInt ≤ x1016.toInt := le_ti rfl rfl c1023
        refine lv_iconst (v := (-1)) hx hb dX8_kindNamed_29 (by decide) ?_
        exact r_iret () C0 hr hlocks hS (Nat.le_refl _) (Nat.le_refl _) dX8_kindNamed_30 ⟨by decide, by decide⟩ (hP.sub (ws' := [(z1, .inr (8, [.ref z2, .ref z3, .ref z4, .ref z5, .ref z6, .ref z7, .ref z8, .ref z9, .ref z10, .int x954, .int x955, .int x956, .int x957])), (z2, .inl (T 1, 8, .inr (.inl f958))), (z3, .inl (T 0, 32, .inl f959)), (z4, .inl (T 0, 24, .inl f960)), (z5, .inl (T 0, 24, .inl f961)), (z6, .inl (T 0, 24, .inl f963)), (z7, .inl (T 0, 24, .inl f965)), (z8, .inl (T 0, 700, .inl f967)), (z9, .inl (T 0, 8, .inl f968)), (z10, .inl (T 0, 64, .inl f969))]) [0, 1, 2, 3, 4, 5, 6, 7, 8, 9] rfl) (hD.sub (ws' := [(z1, .inr (8, [.ref z2, .ref z3, .ref z4, .ref z5, .ref z6, .ref z7, .ref z8, .ref z9, .ref z10, .int x954, .int x955, .int x956, .int x957])), (z2, .inl (T 1, 8, .inr (.inl f958))), (z3, .inl (T 0, 32, .inl f959)), (z4, .inl (T 0, 24, .inl f960)), (z5, .inl (T 0, 24, .inl f961)), (z6, .inl (T 0, 24, .inl f963)), (z7, .inl (T 0, 24, .inl f965)), (z8, .inl (T 0, 700, .inl f967)), (z9, .inl (T 0, 8, .inl f968)), (z10, .inl (T 0, 64, .inl f969))]) [0, 1, 2, 3, 4, 5, 6, 7, 8, 9] (by decide +kernel) rfl)
      · skip
        have kc1023 : x1016.toInt < x954.toInt := nle_ti rfl rfl c1023
        refine lv_aload_n hx hb dX8_kindNamed_10 rfl (lv_at hl 1 rfl) ?_
        refine r_get (v := .ref z2) C0 hE ffX8_0 mw_192 hP 0 rfl rfl dX8_kindNamed_11 ?_
        refine lv_iload_n hx hb dX8_kindNamed_14 rfl (lv_at hl 0 rfl) ?_
        refine va_lald hx hb hK hP 1 1 rfl rfl (in_ti rfl (by omega) (by omega)) dX8_kindNamed_15 ?_
        refine lv_topl (fun x1024 ex1024 => ?_)
        refine lv_lload_n hx hb dX8_kindNamed_16 rfl (lv_at hl 2 rfl) ?_
        refine W.lcmp hx hb dX8_kindNamed_17 ?_
        refine lv_topi (fun x1025 ex1025 => ?_)
        refine lv_if_ne (tgt := 23) hx hb dX8_kindNamed_18 (by decide) (fun c1026 => ?_) (fun c1026 => ?_)
        · skip
          have kc1026 : x1025.toInt ≠ 0 := ne_ti rfl (by decide) c1026
          have nzx1025 : ¬ x1025 = 0 := c1026
          obtain ⟨x1027, ex1027⟩ : ∃ y : Int32, y = x1016 + 1 := ⟨_, rfl⟩
          have hx1027 : x1027.toInt = x1016.toInt + 1 := ti_add ex1027 rfl (by decide) (by omega) (by omega)
          refine lv_iinc (v := x1027) (lv' := [(3, .int x1027), (0, .ref z1), (1, .long p1)]) hx hb dX8_kindNamed_23 hl (k := 0) rfl (by rw [ex1027]; rfl) (by decide) rfl (fun ls hl => ?_)
          refine lv_goto (tgt := 2) hx hb dX8_kindNamed_26 (by decide) ?_
          exact ih x1027 _ _ ls ⟨by omega, by omega⟩ (by omega) (hP.sub (ws' := [(z1, .inr (8, [.ref z2, .ref z3, .ref z4, .ref z5, .ref z6, .ref z7, .ref z8, .ref z9, .ref z10, .int x954, .int x955, .int x956, .int x957])), (z2, .inl (T 1, 8, .inr (.inl f958))), (z3, .inl (T 0, 32, .inl f959)), (z4, .inl (T 0, 24, .inl f960)), (z5, .inl (T 0, 24, .inl f961)), (z6, .inl (T 0, 24, .inl f963)), (z7, .inl (T 0, 24, .inl f965)), (z8, .inl (T 0, 700, .inl f967)), (z9, .inl (T 0, 8, .inl f968)), (z10, .inl (T 0, 64, .inl f969))]) [0, 1, 2, 3, 4, 5, 6, 7, 8, 9] rfl) (hD.sub (ws' := [(z1, .inr (8, [.ref z2, .ref z3, .ref z4, .ref z5, .ref z6, .ref z7, .ref z8, .ref z9, .ref z10, .int x954, .int x955, .int x956, .int x957])), (z2, .inl (T 1, 8, .inr (.inl f958))), (z3, .inl (T 0, 32, .inl f959)), (z4, .inl (T 0, 24, .inl f960)), (z5, .inl (T 0, 24, .inl f961)), (z6, .inl (T 0, 24, .inl f963)), (z7, .inl (T 0, 24, .inl f965)), (z8, .inl (T 0, 700, .inl f967)), (z9, .inl (T 0, 8, .inl f968)), (z10, .inl (T 0, 64, .inl f969))]) [0, 1, 2, 3, 4, 5, 6, 7, 8, 9] (by decide +kernel) rfl) hS (lv_sub hl [0, 1, 2] rfl)
        · skip
          have kc1026 : x1025.toInt = 0 := eq_ti rfl (by decide) c1026
          refine lv_iload_n hx hb dX8_kindNamed_21 rfl (lv_at hl 0 rfl) ?_
          exact r_iret () C0 hr hlocks hS (Nat.le_refl _) (Nat.le_refl _) dX8_kindNamed_22 ⟨by omega, by omega⟩ (hP.sub (ws' := [(z1, .inr (8, [.ref z2, .ref z3, .ref z4, .ref z5, .ref z6, .ref z7, .ref z8, .ref z9, .ref z10, .int x954, .int x955, .int x956, .int x957])), (z2, .inl (T 1, 8, .inr (.inl f958))), (z3, .inl (T 0, 32, .inl f959)), (z4, .inl (T 0, 24, .inl f960)), (z5, .inl (T 0, 24, .inl f961)), (z6, .inl (T 0, 24, .inl f963)), (z7, .inl (T 0, 24, .inl f965)), (z8, .inl (T 0, 700, .inl f967)), (z9, .inl (T 0, 8, .inl f968)), (z10, .inl (T 0, 64, .inl f969))]) [0, 1, 2, 3, 4, 5, 6, 7, 8, 9] rfl) (hD.sub (ws' := [(z1, .inr (8, [.ref z2, .ref z3, .ref z4, .ref z5, .ref z6, .ref z7, .ref z8, .ref z9, .ref z10, .int x954, .int x955, .int x956, .int x957])), (z2, .inl (T 1, 8, .inr (.inl f958))), (z3, .inl (T 0, 32, .inl f959)), (z4, .inl (T 0, 24, .inl f960)), (z5, .inl (T 0, 24, .inl f961)), (z6, .inl (T 0, 24, .inl f963)), (z7, .inl (T 0, 24, .inl f965)), (z8, .inl (T 0, 700, .inl f967)), (z9, .inl (T 0, 8, .inl f968)), (z10, .inl (T 0, 64, .inl f969))]) [0, 1, 2, 3, 4, 5, 6, 7, 8, 9] (by decide +kernel) rfl)
  exact L1022 _ 0 _ _ ls ⟨by decide, by decide⟩ (Nat.lt_succ_self _) (hP.sub (ws' := [(z1, .inr (8, [.ref z2, .ref z3, .ref z4, .ref z5, .ref z6, .ref z7, .ref z8, .ref z9, .ref z10, .int x954, .int x955, .int x956, .int x957])), (z2, .inl (T 1, 8, .inr (.inl f958))), (z3, .inl (T 0, 32, .inl f959)), (z4, .inl (T 0, 24, .inl f960)), (z5, .inl (T 0, 24, .inl f961)), (z6, .inl (T 0, 24, .inl f963)), (z7, .inl (T 0, 24, .inl f965)), (z8, .inl (T 0, 700, .inl f967)), (z9, .inl (T 0, 8, .inl f968)), (z10, .inl (T 0, 64, .inl f969))]) [0, 1, 2, 3, 4, 5, 6, 7, 8, 9] rfl) (hD.sub (ws' := [(z1, .inr (8, [.ref z2, .ref z3, .ref z4, .ref z5, .ref z6, .ref z7, .ref z8, .ref z9, .ref z10, .int x954, .int x955, .int x956, .int x957])), (z2, .inl (T 1, 8, .inr (.inl f958))), (z3, .inl (T 0, 32, .inl f959)), (z4, .inl (T 0, 24, .inl f960)), (z5, .inl (T 0, 24, .inl f961)), (z6, .inl (T 0, 24, .inl f963)), (z7, .inl (T 0, 24, .inl f965)), (z8, .inl (T 0, 700, .inl f967)), (z9, .inl (T 0, 8, .inl f968)), (z10, .inl (T 0, 64, .inl f969))]) [0, 1, 2, 3, 4, 5, 6, 7, 8, 9] (by decide +kernel) rfl) hS (lv_sub hl [0, 1, 2] rfl)
set_option maxHeartbeats 4000000 in
set_option maxRecDepth 100000 in
theorem g_X8_emit_1176 (l : Launch) (D : va_G) (T : Nat → ClassId) (sq sv sz : Nat) (z1 : Nat) (z2 : Nat) (z3 : Nat) (z4 : Nat) (z5 : Nat) (z6 : Nat) (z7 : Nat) (z8 : Nat) (z9 : Nat) (z10 : Nat) (p1 : Int32) (p2 : Int32) (w1 : va_W) (hw1 : B_X8 T z1 z2 z3 z4 z5 z6 z7 z8 z9 z10 w1) : Met l yX8_emit (.code yX8_emit cX8_emit 3 none :: TB) { frames := 0, cells := 0, slots := 0, locals := 0 } (PC2 D T sq sv [.ref z1, .int p1, .int p2] (w1) sz) (Qv2 (S := va_W) (fun (u0 : va_W) => B_X8 T z1 z2 z3 z4 z5 z6 z7 z8 z9 z10 u0 ∧ fv u0 9 = fv w1 9 ∧ fv u0 10 = fv w1 10 ∧ fv u0 11 = fv w1 11) (fun (u0 : va_W) => u0) D (va_A (w1) sz)) 0 0 (va_A (w1) sz) := by
  obtain ⟨x1193, x1194, x1195, x1196, f1197, f1198, f1199, f1200, f1202, f1204, f1206, f1207, f1208, rfl, hx1193, hx1194, hx1196, hb1201, hb1203, hb1205⟩ := hw1
  refine ct_begin2 (Qc := Qv2 (S := va_W) (fun (u0 : va_W) => B_X8 T z1 z2 z3 z4 z5 z6 z7 z8 z9 z10 u0 ∧ fv u0 9 = fv ([(z1, .inr (8, [.ref z2, .ref z3, .ref z4, .ref z5, .ref z6, .ref z7, .ref z8, .ref z9, .ref z10, .int x1193, .int x1194, .int x1195, .int x1196])), (z2, .inl (T 1, 8, .inr (.inl f1197))), (z3, .inl (T 0, 32, .inl f1198)), (z4, .inl (T 0, 24, .inl f1199)), (z5, .inl (T 0, 24, .inl f1200)), (z6, .inl (T 0, 24, .inl f1202)), (z7, .inl (T 0, 24, .inl f1204)), (z8, .inl (T 0, 700, .inl f1206)), (z9, .inl (T 0, 8, .inl f1207)), (z10, .inl (T 0, 64, .inl f1208))] : va_W) 9 ∧ fv u0 10 = fv ([(z1, .inr (8, [.ref z2, .ref z3, .ref z4, .ref z5, .ref z6, .ref z7, .ref z8, .ref z9, .ref z10, .int x1193, .int x1194, .int x1195, .int x1196])), (z2, .inl (T 1, 8, .inr (.inl f1197))), (z3, .inl (T 0, 32, .inl f1198)), (z4, .inl (T 0, 24, .inl f1199)), (z5, .inl (T 0, 24, .inl f1200)), (z6, .inl (T 0, 24, .inl f1202)), (z7, .inl (T 0, 24, .inl f1204)), (z8, .inl (T 0, 700, .inl f1206)), (z9, .inl (T 0, 8, .inl f1207)), (z10, .inl (T 0, 64, .inl f1208))] : va_W) 10 ∧ fv u0 11 = fv ([(z1, .inr (8, [.ref z2, .ref z3, .ref z4, .ref z5, .ref z6, .ref z7, .ref z8, .ref z9, .ref z10, .int x1193, .int x1194, .int x1195, .int x1196])), (z2, .inl (T 1, 8, .inr (.inl f1197))), (z3, .inl (T 0, 32, .inl f1198)), (z4, .inl (T 0, 24, .inl f1199)), (z5, .inl (T 0, 24, .inl f1200)), (z6, .inl (T 0, 24, .inl f1202)), (z7, .inl (T 0, 24, .inl f1204)), (z8, .inl (T 0, 700, .inl f1206)), (z9, .inl (T 0, 8, .inl f1207)), (z10, .inl (T 0, 64, .inl f1208))] : va_W) 11) (fun (u0 : va_W) => u0) D) (by decide +kernel) (Nat.le_of_ble_eq_true rfl) ?_
  intro p e s m below meth c A ls C0 hr hlocks hnm hE hStr hA hP hD hl
  generalize ([.ref z1, .int p1, .int p2] : List Value).toArray = args at C0 ⊢
  have hx := C0.1
  have hb := C0.2.1
  have hml := C0.2.2.1
  have hown := C0.2.2.2.1
  have hT := C0.2.2.2.2
  have hK := hE.1
  generalize hH : s.heap = H at hP ⊢
  have hS : va_S A s.heap H [] := by rw [← hH]; exact va_S.rf
  have hP : va_P D vwCl [(z1, .inr (8, [.ref z2, .ref z3, .ref z4, .ref z5, .ref z6, .ref z7, .ref z8, .ref z9, .ref z10, .int x1193, .int x1194, .int x1195, .int x1196])), (z2, .inl (T 1, 8, .inr (.inl f1197))), (z3, .inl (T 0, 32, .inl f1198)), (z4, .inl (T 0, 24, .inl f1199)), (z5, .inl (T 0, 24, .inl f1200)), (z6, .inl (T 0, 24, .inl f1202)), (z7, .inl (T 0, 24, .inl f1204)), (z8, .inl (T 0, 700, .inl f1206)), (z9, .inl (T 0, 8, .inl f1207)), (z10, .inl (T 0, 64, .inl f1208))] H := hP
  have hD : va_D A [(z1, .inr (8, [.ref z2, .ref z3, .ref z4, .ref z5, .ref z6, .ref z7, .ref z8, .ref z9, .ref z10, .int x1193, .int x1194, .int x1195, .int x1196])), (z2, .inl (T 1, 8, .inr (.inl f1197))), (z3, .inl (T 0, 32, .inl f1198)), (z4, .inl (T 0, 24, .inl f1199)), (z5, .inl (T 0, 24, .inl f1200)), (z6, .inl (T 0, 24, .inl f1202)), (z7, .inl (T 0, 24, .inl f1204)), (z8, .inl (T 0, 700, .inl f1206)), (z9, .inl (T 0, 8, .inl f1207)), (z10, .inl (T 0, 64, .inl f1208))] := hD
  have hl : lv_has ls 3 [(0, .ref z1), (1, .int p1), (2, .int p2)] := hl
  refine lv_aload_n hx hb dX8_emit_0 rfl (lv_at hl 0 rfl) ?_
  refine r_get (v := .int x1196) C0 hE ffX8_12 mw_216 hP 0 rfl rfl dX8_emit_1 ?_
  refine lv_aload_n hx hb dX8_emit_4 rfl (lv_at hl 0 rfl) ?_
  refine r_get (v := .ref z8) C0 hE ffX8_6 mw_204 hP 0 rfl rfl dX8_emit_5 ?_
  refine va_alen (v := 700) hx hb hK hP 7 0 rfl rfl rfl dX8_emit_8 ?_
  have J1216 : ∀ (x1214 : Int32) (f1215 : Nat → Int32) (H : Heap) (locs : List Loc) (ls : Array Slot), (1 ≤ x1214.toInt ∧ x1214.toInt ≤ 700) → va_P D vwCl [(z1, .inr (8, [.ref z2, .ref z3, .ref z4, .ref z5, .ref z6, .ref z7, .ref z8, .ref z9, .ref z10, .int x1193, .int x1194, .int x1195, .int x1214])), (z2, .inl (T 1, 8, .inr (.inl f1197))), (z3, .inl (T 0, 32, .inl f1198)), (z4, .inl (T 0, 24, .inl f1199)), (z5, .inl (T 0, 24, .inl f1200)), (z6, .inl (T 0, 24, .inl f1202)), (z7, .inl (T 0, 24, .inl f1204)), (z8, .inl (T 0, 700, .inl f1215)), (z9, .inl (T 0, 8, .inl f1207)), (z10, .inl (T 0, 64, .inl f1208))] H → va_D A [(z1, .inr (8, [.ref z2, .ref z3, .ref z4, .ref z5, .ref z6, .ref z7, .ref z8, .ref z9, .ref z10, .int x1193, .int x1194, .int x1195, .int x1214])), (z2, .inl (T 1, 8, .inr (.inl f1197))), (z3, .inl (T 0, 32, .inl f1198)), (z4, .inl (T 0, 24, .inl f1199)), (z5, .inl (T 0, 24, .inl f1200)), (z6, .inl (T 0, 24, .inl f1202)), (z7, .inl (T 0, 24, .inl f1204)), (z8, .inl (T 0, 700, .inl f1215)), (z9, .inl (T 0, 8, .inl f1207)), (z10, .inl (T 0, 64, .inl f1208))] → va_S A s.heap H locs → lv_has ls 3 [(0, .ref z1), (1, .int p1), (2, .int p2)] → W p l e { frames := 0, cells := 0, slots := 0, locals := 0 } s m args below meth c H locs 0 0 (MQ below ((Qv2 (S := va_W) (fun (u0 : va_W) => B_X8 T z1 z2 z3 z4 z5 z6 z7 z8 z9 z10 u0 ∧ fv u0 9 = fv ([(z1, .inr (8, [.ref z2, .ref z3, .ref z4, .ref z5, .ref z6, .ref z7, .ref z8, .ref z9, .ref z10, .int x1193, .int x1194, .int x1195, .int x1196])), (z2, .inl (T 1, 8, .inr (.inl f1197))), (z3, .inl (T 0, 32, .inl f1198)), (z4, .inl (T 0, 24, .inl f1199)), (z5, .inl (T 0, 24, .inl f1200)), (z6, .inl (T 0, 24, .inl f1202)), (z7, .inl (T 0, 24, .inl f1204)), (z8, .inl (T 0, 700, .inl f1206)), (z9, .inl (T 0, 8, .inl f1207)), (z10, .inl (T 0, 64, .inl f1208))] : va_W) 9 ∧ fv u0 10 = fv ([(z1, .inr (8, [.ref z2, .ref z3, .ref z4, .ref z5, .ref z6, .ref z7, .ref z8, .ref z9, .ref z10, .int x1193, .int x1194, .int x1195, .int x1196])), (z2, .inl (T 1, 8, .inr (.inl f1197))), (z3, .inl (T 0, 32, .inl f1198)), (z4, .inl (T 0, 24, .inl f1199)), (z5, .inl (T 0, 24, .inl f1200)), (z6, .inl (T 0, 24, .inl f1202)), (z7, .inl (T 0, 24, .inl f1204)), (z8, .inl (T 0, 700, .inl f1206)), (z9, .inl (T 0, 8, .inl f1207)), (z10, .inl (T 0, 64, .inl f1208))] : va_W) 10 ∧ fv u0 11 = fv ([(z1, .inr (8, [.ref z2, .ref z3, .ref z4, .ref z5, .ref z6, .ref z7, .ref z8, .ref z9, .ref z10, .int x1193, .int x1194, .int x1195, .int x1196])), (z2, .inl (T 1, 8, .inr (.inl f1197))), (z3, .inl (T 0, 32, .inl f1198)), (z4, .inl (T 0, 24, .inl f1199)), (z5, .inl (T 0, 24, .inl f1200)), (z6, .inl (T 0, 24, .inl f1202)), (z7, .inl (T 0, 24, .inl f1204)), (z8, .inl (T 0, 700, .inl f1206)), (z9, .inl (T 0, 8, .inl f1207)), (z10, .inl (T 0, 64, .inl f1208))] : va_W) 11) (fun (u0 : va_W) => u0) D) A) args s 0 0 A) (F0 m 38 ls []) := by
    intro x1214 f1215 H locs ls hx1214 hP hD hS hl
    exact r_vret2 ([(z1, .inr (8, [.ref z2, .ref z3, .ref z4, .ref z5, .ref z6, .ref z7, .ref z8, .ref z9, .ref z10, .int x1193, .int x1194, .int x1195, .int x1214])), (z2, .inl (T 1, 8, .inr (.inl f1197))), (z3, .inl (T 0, 32, .inl f1198)), (z4, .inl (T 0, 24, .inl f1199)), (z5, .inl (T 0, 24, .inl f1200)), (z6, .inl (T 0, 24, .inl f1202)), (z7, .inl (T 0, 24, .inl f1204)), (z8, .inl (T 0, 700, .inl f1215)), (z9, .inl (T 0, 8, .inl f1207)), (z10, .inl (T 0, 64, .inl f1208))] : va_W) C0 hr hlocks hS (Nat.le_refl _) (Nat.le_refl _) dX8_emit_38 ⟨⟨x1193, x1194, x1195, x1214, f1197, f1198, f1199, f1200, f1202, f1204, f1215, f1207, f1208, rfl, ⟨by omega, by omega⟩, ⟨by omega, by omega⟩, ⟨by omega, by omega⟩, hb1201, hb1203, hb1205⟩, rfl, rfl, rfl⟩ (hP.sub (ws' := [(z1, .inr (8, [.ref z2, .ref z3, .ref z4, .ref z5, .ref z6, .ref z7, .ref z8, .ref z9, .ref z10, .int x1193, .int x1194, .int x1195, .int x1214])), (z2, .inl (T 1, 8, .inr (.inl f1197))), (z3, .inl (T 0, 32, .inl f1198)), (z4, .inl (T 0, 24, .inl f1199)), (z5, .inl (T 0, 24, .inl f1200)), (z6, .inl (T 0, 24, .inl f1202)), (z7, .inl (T 0, 24, .inl f1204)), (z8, .inl (T 0, 700, .inl f1215)), (z9, .inl (T 0, 8, .inl f1207)), (z10, .inl (T 0, 64, .inl f1208))]) [0, 1, 2, 3, 4, 5, 6, 7, 8, 9] rfl) (hD.sub (ws' := [(z1, .inr (8, [.ref z2, .ref z3, .ref z4, .ref z5, .ref z6, .ref z7, .ref z8, .ref z9, .ref z10, .int x1193, .int x1194, .int x1195, .int x1214])), (z2, .inl (T 1, 8, .inr (.inl f1197))), (z3, .inl (T 0, 32, .inl f1198)), (z4, .inl (T 0, 24, .inl f1199)), (z5, .inl (T 0, 24, .inl f1200)), (z6, .inl (T 0, 24, .inl f1202)), (z7, .inl (T 0, 24, .inl f1204)), (z8, .inl (T 0, 700, .inl f1215)), (z9, .inl (T 0, 8, .inl f1207)), (z10, .inl (T 0, 64, .inl f1208))]) [0, 1, 2, 3, 4, 5, 6, 7, 8, 9] (by decide +kernel) rfl)
  refine lv_icmp_ge (tgt := 38) hx hb dX8_emit_9 (by decide) (fun c1209 => ?_) (fun c1209 => ?_)
  · skip
    have kc1209 : 700 ≤ x1196.toInt := le_ti (by decide) rfl c1209
    exact J1216 x1196 f1206 _ _ ls ⟨by omega, by omega⟩ (hP.sub (ws' := [(z1, .inr (8, [.ref z2, .ref z3, .ref z4, .ref z5, .ref z6, .ref z7, .ref z8, .ref z9, .ref z10, .int x1193, .int x1194, .int x1195, .int x1196])), (z2, .inl (T 1, 8, .inr (.inl f1197))), (z3, .inl (T 0, 32, .inl f1198)), (z4, .inl (T 0, 24, .inl f1199)), (z5, .inl (T 0, 24, .inl f1200)), (z6, .inl (T 0, 24, .inl f1202)), (z7, .inl (T 0, 24, .inl f1204)), (z8, .inl (T 0, 700, .inl f1206)), (z9, .inl (T 0, 8, .inl f1207)), (z10, .inl (T 0, 64, .inl f1208))]) [0, 1, 2, 3, 4, 5, 6, 7, 8, 9] rfl) (hD.sub (ws' := [(z1, .inr (8, [.ref z2, .ref z3, .ref z4, .ref z5, .ref z6, .ref z7, .ref z8, .ref z9, .ref z10, .int x1193, .int x1194, .int x1195, .int x1196])), (z2, .inl (T 1, 8, .inr (.inl f1197))), (z3, .inl (T 0, 32, .inl f1198)), (z4, .inl (T 0, 24, .inl f1199)), (z5, .inl (T 0, 24, .inl f1200)), (z6, .inl (T 0, 24, .inl f1202)), (z7, .inl (T 0, 24, .inl f1204)), (z8, .inl (T 0, 700, .inl f1206)), (z9, .inl (T 0, 8, .inl f1207)), (z10, .inl (T 0, 64, .inl f1208))]) [0, 1, 2, 3, 4, 5, 6, 7, 8, 9] (by decide +kernel) rfl) hS (lv_sub hl [0, 1, 2] rfl)
  · skip
    have kc1209 : x1196.toInt < 700 := nle_ti (by decide) rfl c1209
    refine lv_aload_n hx hb dX8_emit_12 rfl (lv_at hl 0 rfl) ?_
    refine r_get (v := .ref z8) C0 hE ffX8_6 mw_204 hP 0 rfl rfl dX8_emit_13 ?_
    refine lv_aload_n hx hb dX8_emit_16 rfl (lv_at hl 0 rfl) ?_
    refine r_get (v := .int x1196) C0 hE ffX8_12 mw_216 hP 0 rfl rfl dX8_emit_17 ?_
    refine lv_iload_n hx hb dX8_emit_20 rfl (lv_at hl 1 rfl) ?_
    refine lv_sipush (v := 10000) hx hb dX8_emit_21 (by decide) ?_
    refine lv_imul hx hb dX8_emit_24 ?_
    refine lv_topi (fun x1217 ex1217 => ?_)
    refine lv_iload_n hx hb dX8_emit_25 rfl (lv_at hl 2 rfl) ?_
    refine lv_iadd hx hb dX8_emit_26 ?_
    refine lv_topi (fun x1218 ex1218 => ?_)
    refine r_iastO hx hb hK hP hD hS 7 rfl (in_ti rfl (by omega) (by omega)) dX8_emit_27 (fun f1219 H locs hP hD hS => ?_)
    have hP : va_P D vwCl [(z1, .inr (8, [.ref z2, .ref z3, .ref z4, .ref z5, .ref z6, .ref z7, .ref z8, .ref z9, .ref z10, .int x1193, .int x1194, .int x1195, .int x1196])), (z2, .inl (T 1, 8, .inr (.inl f1197))), (z3, .inl (T 0, 32, .inl f1198)), (z4, .inl (T 0, 24, .inl f1199)), (z5, .inl (T 0, 24, .inl f1200)), (z6, .inl (T 0, 24, .inl f1202)), (z7, .inl (T 0, 24, .inl f1204)), (z8, .inl (T 0, 700, .inl f1219)), (z9, .inl (T 0, 8, .inl f1207)), (z10, .inl (T 0, 64, .inl f1208))] H := hP
    have hD : va_D A [(z1, .inr (8, [.ref z2, .ref z3, .ref z4, .ref z5, .ref z6, .ref z7, .ref z8, .ref z9, .ref z10, .int x1193, .int x1194, .int x1195, .int x1196])), (z2, .inl (T 1, 8, .inr (.inl f1197))), (z3, .inl (T 0, 32, .inl f1198)), (z4, .inl (T 0, 24, .inl f1199)), (z5, .inl (T 0, 24, .inl f1200)), (z6, .inl (T 0, 24, .inl f1202)), (z7, .inl (T 0, 24, .inl f1204)), (z8, .inl (T 0, 700, .inl f1219)), (z9, .inl (T 0, 8, .inl f1207)), (z10, .inl (T 0, 64, .inl f1208))] := hD
    refine lv_aload_n hx hb dX8_emit_28 rfl (lv_at hl 0 rfl) ?_
    refine lv_dup hx hb dX8_emit_29 rfl ?_
    refine r_get (v := .int x1196) C0 hE ffX8_12 mw_216 hP 0 rfl rfl dX8_emit_30 ?_
    refine lv_iconst (v := 1) hx hb dX8_emit_33 (by decide) ?_
    refine lv_iadd hx hb dX8_emit_34 ?_
    refine lv_topi (fun x1220 ex1220 => ?_)
    have hx1220 : x1220.toInt = x1196.toInt + 1 := ti_add ex1220 rfl (by decide) (by omega) (by omega)
    refine r_put (v := .int x1220) (ty := .int) (fs1 := [.ref z2, .ref z3, .ref z4, .ref z5, .ref z6, .ref z7, .ref z8, .ref z9, .ref z10, .int x1193, .int x1194, .int x1195, .int x1220]) (ws1 := [(z1, .inr (8, [.ref z2, .ref z3, .ref z4, .ref z5, .ref z6, .ref z7, .ref z8, .ref z9, .ref z10, .int x1193, .int x1194, .int x1195, .int x1220])), (z2, .inl (T 1, 8, .inr (.inl f1197))), (z3, .inl (T 0, 32, .inl f1198)), (z4, .inl (T 0, 24, .inl f1199)), (z5, .inl (T 0, 24, .inl f1200)), (z6, .inl (T 0, 24, .inl f1202)), (z7, .inl (T 0, 24, .inl f1204)), (z8, .inl (T 0, 700, .inl f1219)), (z9, .inl (T 0, 8, .inl f1207)), (z10, .inl (T 0, 64, .inl f1208))]) C0 hE ffX8_12 tyX8 tyX8_ok nmX8 mw_216 pf_1358 hP hD hS 0 rfl rfl rfl (Nat.le_of_ble_eq_true rfl) rfl rfl dX8_emit_35 (fun H locs hP hD hS => ?_)
    exact J1216 x1220 f1219 _ _ ls ⟨by omega, by omega⟩ (hP.sub (ws' := [(z1, .inr (8, [.ref z2, .ref z3, .ref z4, .ref z5, .ref z6, .ref z7, .ref z8, .ref z9, .ref z10, .int x1193, .int x1194, .int x1195, .int x1220])), (z2, .inl (T 1, 8, .inr (.inl f1197))), (z3, .inl (T 0, 32, .inl f1198)), (z4, .inl (T 0, 24, .inl f1199)), (z5, .inl (T 0, 24, .inl f1200)), (z6, .inl (T 0, 24, .inl f1202)), (z7, .inl (T 0, 24, .inl f1204)), (z8, .inl (T 0, 700, .inl f1219)), (z9, .inl (T 0, 8, .inl f1207)), (z10, .inl (T 0, 64, .inl f1208))]) [0, 1, 2, 3, 4, 5, 6, 7, 8, 9] rfl) (hD.sub (ws' := [(z1, .inr (8, [.ref z2, .ref z3, .ref z4, .ref z5, .ref z6, .ref z7, .ref z8, .ref z9, .ref z10, .int x1193, .int x1194, .int x1195, .int x1220])), (z2, .inl (T 1, 8, .inr (.inl f1197))), (z3, .inl (T 0, 32, .inl f1198)), (z4, .inl (T 0, 24, .inl f1199)), (z5, .inl (T 0, 24, .inl f1200)), (z6, .inl (T 0, 24, .inl f1202)), (z7, .inl (T 0, 24, .inl f1204)), (z8, .inl (T 0, 700, .inl f1219)), (z9, .inl (T 0, 8, .inl f1207)), (z10, .inl (T 0, 64, .inl f1208))]) [0, 1, 2, 3, 4, 5, 6, 7, 8, 9] (by decide +kernel) rfl) hS (lv_sub hl [0, 1, 2] rfl)
def B_X0 (T : Nat → ClassId) (a r0 r1 r2 r3 r4 r5 : Nat) (w : va_W) : Prop := ∃ (v6 : Int32), ∃ (g0 : Nat → Int32), ∃ (g1 : Nat → Int32), ∃ (g2 : Nat → Int32), ∃ (g3 : Nat → Int32), ∃ (g4 : Nat → Int32), ∃ (g5 : Nat → Int32), w = [(a, .inr (0, [.ref r0, .ref r1, .ref r2, .ref r3, .ref r4, .ref r5, .int v6])), (r0, .inl (T 0, 121, .inl g0)), (r1, .inl (T 0, 121, .inl g1)), (r2, .inl (T 0, 121, .inl g2)), (r3, .inl (T 0, 121, .inl g3)), (r4, .inl (T 0, 121, .inl g4)), (r5, .inl (T 0, 121, .inl g5))] ∧ (0 ≤ v6.toInt ∧ v6.toInt ≤ 120) ∧ Bd (0) (120) g1
set_option maxHeartbeats 4000000 in
set_option maxRecDepth 100000 in
theorem g_X0_add_1365 (l : Launch) (D : va_G) (T : Nat → ClassId) (sq sv sz : Nat) (z1 : Nat) (z2 : Nat) (z3 : Nat) (z4 : Nat) (z5 : Nat) (z6 : Nat) (z7 : Nat) (p1 : Int32) (p2 : Int32) (p3 : Int32) (p4 : Int32) (p5 : Int32) (w1 : va_W) (hw1 : B_X0 T z1 z2 z3 z4 z5 z6 z7 w1) (hp2 : 0 ≤ p2.toInt ∧ p2.toInt ≤ 120) : Met l yX0_add (.code yX0_add cX0_add 6 (some .int) :: TB) { frames := 0, cells := 0, slots := 0, locals := 0 } (PC2 D T sq sv [.ref z1, .int p1, .int p2, .int p3, .int p4, .int p5] (w1) sz) (Qi (S := va_W) (fun (r : Int32) (u0 : va_W) => B_X0 T z1 z2 z3 z4 z5 z6 z7 u0 ∧ (-1 ≤ r.toInt ∧ r.toInt ≤ 120)) (fun (u0 : va_W) => u0) D (va_A (w1) sz)) 0 0 (va_A (w1) sz) := by
  obtain ⟨x1374, f1375, f1376, f1378, f1379, f1380, f1381, rfl, hx1374, hb1377⟩ := hw1
  refine ct_begin2 (Qc := Qi (S := va_W) (fun (r : Int32) (u0 : va_W) => B_X0 T z1 z2 z3 z4 z5 z6 z7 u0 ∧ (-1 ≤ r.toInt ∧ r.toInt ≤ 120)) (fun (u0 : va_W) => u0) D) (by decide +kernel) (Nat.le_of_ble_eq_true rfl) ?_
  intro p e s m below meth c A ls C0 hr hlocks hnm hE hStr hA hP hD hl
  generalize ([.ref z1, .int p1, .int p2, .int p3, .int p4, .int p5] : List Value).toArray = args at C0 ⊢
  have hx := C0.1
  have hb := C0.2.1
  have hml := C0.2.2.1
  have hown := C0.2.2.2.1
  have hT := C0.2.2.2.2
  have hK := hE.1
  generalize hH : s.heap = H at hP ⊢
  have hS : va_S A s.heap H [] := by rw [← hH]; exact va_S.rf
  have hP : va_P D vwCl [(z1, .inr (0, [.ref z2, .ref z3, .ref z4, .ref z5, .ref z6, .ref z7, .int x1374])), (z2, .inl (T 0, 121, .inl f1375)), (z3, .inl (T 0, 121, .inl f1376)), (z4, .inl (T 0, 121, .inl f1378)), (z5, .inl (T 0, 121, .inl f1379)), (z6, .inl (T 0, 121, .inl f1380)), (z7, .inl (T 0, 121, .inl f1381))] H := hP
  have hD : va_D A [(z1, .inr (0, [.ref z2, .ref z3, .ref z4, .ref z5, .ref z6, .ref z7, .int x1374])), (z2, .inl (T 0, 121, .inl f1375)), (z3, .inl (T 0, 121, .inl f1376)), (z4, .inl (T 0, 121, .inl f1378)), (z5, .inl (T 0, 121, .inl f1379)), (z6, .inl (T 0, 121, .inl f1380)), (z7, .inl (T 0, 121, .inl f1381))] := hD
  have hl : lv_has ls 6 [(0, .ref z1), (1, .int p1), (2, .int p2), (3, .int p3), (4, .int p4), (5, .int p5)] := hl
  refine lv_aload_n hx hb dX0_add_0 rfl (lv_at hl 0 rfl) ?_
  refine r_get (v := .int x1374) C0 hE ffX0_6 mw_56 hP 0 rfl rfl dX0_add_1 ?_
  refine lv_bipush (v := 120) hx hb dX0_add_4 (by decide) ?_
  refine lv_icmp_lt (tgt := 11) hx hb dX0_add_6 (by decide) (fun c1382 => ?_) (fun c1382 => ?_)
  · skip
    have kc1382 : x1374.toInt < 120 := lt_ti rfl (by decide) c1382
    refine lv_aload_n hx hb dX0_add_11 rfl (lv_at hl 0 rfl) ?_
    refine lv_dup hx hb dX0_add_12 rfl ?_
    refine r_get (v := .int x1374) C0 hE ffX0_6 mw_56 hP 0 rfl rfl dX0_add_13 ?_
    refine lv_iconst (v := 1) hx hb dX0_add_16 (by decide) ?_
    refine lv_iadd hx hb dX0_add_17 ?_
    refine lv_topi (fun x1383 ex1383 => ?_)
    have hx1383 : x1383.toInt = x1374.toInt + 1 := ti_add ex1383 rfl (by decide) (by omega) (by omega)
    refine r_put (v := .int x1383) (ty := .int) (fs1 := [.ref z2, .ref z3, .ref z4, .ref z5, .ref z6, .ref z7, .int x1383]) (ws1 := [(z1, .inr (0, [.ref z2, .ref z3, .ref z4, .ref z5, .ref z6, .ref z7, .int x1383])), (z2, .inl (T 0, 121, .inl f1375)), (z3, .inl (T 0, 121, .inl f1376)), (z4, .inl (T 0, 121, .inl f1378)), (z5, .inl (T 0, 121, .inl f1379)), (z6, .inl (T 0, 121, .inl f1380)), (z7, .inl (T 0, 121, .inl f1381))]) C0 hE ffX0_6 tyX0 tyX0_ok nmX0 mw_56 pf_1358 hP hD hS 0 rfl rfl rfl (Nat.le_of_ble_eq_true rfl) rfl rfl dX0_add_18 (fun H locs hP hD hS => ?_)
    refine lv_aload_n hx hb dX0_add_21 rfl (lv_at hl 0 rfl) ?_
    refine r_get (v := .ref z2) C0 hE ffX0_0 mw_43 hP 0 rfl rfl dX0_add_22 ?_
    refine lv_aload_n hx hb dX0_add_25 rfl (lv_at hl 0 rfl) ?_
    refine r_get (v := .int x1383) C0 hE ffX0_6 mw_56 hP 0 rfl rfl dX0_add_26 ?_
    refine lv_iload_n hx hb dX0_add_29 rfl (lv_at hl 1 rfl) ?_
    refine r_iastO hx hb hK hP hD hS 1 rfl (in_ti rfl (by omega) (by omega)) dX0_add_30 (fun f1384 H locs hP hD hS => ?_)
    have hP : va_P D vwCl [(z1, .inr (0, [.ref z2, .ref z3, .ref z4, .ref z5, .ref z6, .ref z7, .int x1383])), (z2, .inl (T 0, 121, .inl f1384)), (z3, .inl (T 0, 121, .inl f1376)), (z4, .inl (T 0, 121, .inl f1378)), (z5, .inl (T 0, 121, .inl f1379)), (z6, .inl (T 0, 121, .inl f1380)), (z7, .inl (T 0, 121, .inl f1381))] H := hP
    have hD : va_D A [(z1, .inr (0, [.ref z2, .ref z3, .ref z4, .ref z5, .ref z6, .ref z7, .int x1383])), (z2, .inl (T 0, 121, .inl f1384)), (z3, .inl (T 0, 121, .inl f1376)), (z4, .inl (T 0, 121, .inl f1378)), (z5, .inl (T 0, 121, .inl f1379)), (z6, .inl (T 0, 121, .inl f1380)), (z7, .inl (T 0, 121, .inl f1381))] := hD
    refine lv_aload_n hx hb dX0_add_31 rfl (lv_at hl 0 rfl) ?_
    refine r_get (v := .ref z3) C0 hE ffX0_1 mw_45 hP 0 rfl rfl dX0_add_32 ?_
    refine lv_aload_n hx hb dX0_add_35 rfl (lv_at hl 0 rfl) ?_
    refine r_get (v := .int x1383) C0 hE ffX0_6 mw_56 hP 0 rfl rfl dX0_add_36 ?_
    refine lv_iload_n hx hb dX0_add_39 rfl (lv_at hl 2 rfl) ?_
    refine r_iastB hx hb hK hP hD hS 2 rfl (in_ti rfl (by omega) (by omega)) hb1377 rfl (by omega) (by omega) dX0_add_40 (fun f1385 hb1386 H locs hP hD hS => ?_)
    have hP : va_P D vwCl [(z1, .inr (0, [.ref z2, .ref z3, .ref z4, .ref z5, .ref z6, .ref z7, .int x1383])), (z2, .inl (T 0, 121, .inl f1384)), (z3, .inl (T 0, 121, .inl f1385)), (z4, .inl (T 0, 121, .inl f1378)), (z5, .inl (T 0, 121, .inl f1379)), (z6, .inl (T 0, 121, .inl f1380)), (z7, .inl (T 0, 121, .inl f1381))] H := hP
    have hD : va_D A [(z1, .inr (0, [.ref z2, .ref z3, .ref z4, .ref z5, .ref z6, .ref z7, .int x1383])), (z2, .inl (T 0, 121, .inl f1384)), (z3, .inl (T 0, 121, .inl f1385)), (z4, .inl (T 0, 121, .inl f1378)), (z5, .inl (T 0, 121, .inl f1379)), (z6, .inl (T 0, 121, .inl f1380)), (z7, .inl (T 0, 121, .inl f1381))] := hD
    refine lv_aload_n hx hb dX0_add_41 rfl (lv_at hl 0 rfl) ?_
    refine r_get (v := .ref z4) C0 hE ffX0_2 mw_47 hP 0 rfl rfl dX0_add_42 ?_
    refine lv_aload_n hx hb dX0_add_45 rfl (lv_at hl 0 rfl) ?_
    refine r_get (v := .int x1383) C0 hE ffX0_6 mw_56 hP 0 rfl rfl dX0_add_46 ?_
    refine lv_iload_n hx hb dX0_add_49 rfl (lv_at hl 3 rfl) ?_
    refine r_iastO hx hb hK hP hD hS 3 rfl (in_ti rfl (by omega) (by omega)) dX0_add_50 (fun f1387 H locs hP hD hS => ?_)
    have hP : va_P D vwCl [(z1, .inr (0, [.ref z2, .ref z3, .ref z4, .ref z5, .ref z6, .ref z7, .int x1383])), (z2, .inl (T 0, 121, .inl f1384)), (z3, .inl (T 0, 121, .inl f1385)), (z4, .inl (T 0, 121, .inl f1387)), (z5, .inl (T 0, 121, .inl f1379)), (z6, .inl (T 0, 121, .inl f1380)), (z7, .inl (T 0, 121, .inl f1381))] H := hP
    have hD : va_D A [(z1, .inr (0, [.ref z2, .ref z3, .ref z4, .ref z5, .ref z6, .ref z7, .int x1383])), (z2, .inl (T 0, 121, .inl f1384)), (z3, .inl (T 0, 121, .inl f1385)), (z4, .inl (T 0, 121, .inl f1387)), (z5, .inl (T 0, 121, .inl f1379)), (z6, .inl (T 0, 121, .inl f1380)), (z7, .inl (T 0, 121, .inl f1381))] := hD
    refine lv_aload_n hx hb dX0_add_51 rfl (lv_at hl 0 rfl) ?_
    refine r_get (v := .ref z5) C0 hE ffX0_3 mw_50 hP 0 rfl rfl dX0_add_52 ?_
    refine lv_aload_n hx hb dX0_add_55 rfl (lv_at hl 0 rfl) ?_
    refine r_get (v := .int x1383) C0 hE ffX0_6 mw_56 hP 0 rfl rfl dX0_add_56 ?_
    refine lv_iload hx hb dX0_add_59 (lv_at hl 4 rfl) ?_
    refine r_iastO hx hb hK hP hD hS 4 rfl (in_ti rfl (by omega) (by omega)) dX0_add_61 (fun f1388 H locs hP hD hS => ?_)
    have hP : va_P D vwCl [(z1, .inr (0, [.ref z2, .ref z3, .ref z4, .ref z5, .ref z6, .ref z7, .int x1383])), (z2, .inl (T 0, 121, .inl f1384)), (z3, .inl (T 0, 121, .inl f1385)), (z4, .inl (T 0, 121, .inl f1387)), (z5, .inl (T 0, 121, .inl f1388)), (z6, .inl (T 0, 121, .inl f1380)), (z7, .inl (T 0, 121, .inl f1381))] H := hP
    have hD : va_D A [(z1, .inr (0, [.ref z2, .ref z3, .ref z4, .ref z5, .ref z6, .ref z7, .int x1383])), (z2, .inl (T 0, 121, .inl f1384)), (z3, .inl (T 0, 121, .inl f1385)), (z4, .inl (T 0, 121, .inl f1387)), (z5, .inl (T 0, 121, .inl f1388)), (z6, .inl (T 0, 121, .inl f1380)), (z7, .inl (T 0, 121, .inl f1381))] := hD
    refine lv_aload_n hx hb dX0_add_62 rfl (lv_at hl 0 rfl) ?_
    refine r_get (v := .ref z6) C0 hE ffX0_4 mw_53 hP 0 rfl rfl dX0_add_63 ?_
    refine lv_aload_n hx hb dX0_add_66 rfl (lv_at hl 0 rfl) ?_
    refine r_get (v := .int x1383) C0 hE ffX0_6 mw_56 hP 0 rfl rfl dX0_add_67 ?_
    refine lv_iload hx hb dX0_add_70 (lv_at hl 5 rfl) ?_
    refine r_iastO hx hb hK hP hD hS 5 rfl (in_ti rfl (by omega) (by omega)) dX0_add_72 (fun f1389 H locs hP hD hS => ?_)
    have hP : va_P D vwCl [(z1, .inr (0, [.ref z2, .ref z3, .ref z4, .ref z5, .ref z6, .ref z7, .int x1383])), (z2, .inl (T 0, 121, .inl f1384)), (z3, .inl (T 0, 121, .inl f1385)), (z4, .inl (T 0, 121, .inl f1387)), (z5, .inl (T 0, 121, .inl f1388)), (z6, .inl (T 0, 121, .inl f1389)), (z7, .inl (T 0, 121, .inl f1381))] H := hP
    have hD : va_D A [(z1, .inr (0, [.ref z2, .ref z3, .ref z4, .ref z5, .ref z6, .ref z7, .int x1383])), (z2, .inl (T 0, 121, .inl f1384)), (z3, .inl (T 0, 121, .inl f1385)), (z4, .inl (T 0, 121, .inl f1387)), (z5, .inl (T 0, 121, .inl f1388)), (z6, .inl (T 0, 121, .inl f1389)), (z7, .inl (T 0, 121, .inl f1381))] := hD
    refine lv_aload_n hx hb dX0_add_73 rfl (lv_at hl 0 rfl) ?_
    refine r_get (v := .ref z7) C0 hE ffX0_5 mw_55 hP 0 rfl rfl dX0_add_74 ?_
    refine lv_aload_n hx hb dX0_add_77 rfl (lv_at hl 0 rfl) ?_
    refine r_get (v := .int x1383) C0 hE ffX0_6 mw_56 hP 0 rfl rfl dX0_add_78 ?_
    refine lv_iconst (v := 0) hx hb dX0_add_81 (by decide) ?_
    refine r_iastO hx hb hK hP hD hS 6 rfl (in_ti rfl (by omega) (by omega)) dX0_add_82 (fun f1390 H locs hP hD hS => ?_)
    have hP : va_P D vwCl [(z1, .inr (0, [.ref z2, .ref z3, .ref z4, .ref z5, .ref z6, .ref z7, .int x1383])), (z2, .inl (T 0, 121, .inl f1384)), (z3, .inl (T 0, 121, .inl f1385)), (z4, .inl (T 0, 121, .inl f1387)), (z5, .inl (T 0, 121, .inl f1388)), (z6, .inl (T 0, 121, .inl f1389)), (z7, .inl (T 0, 121, .inl f1390))] H := hP
    have hD : va_D A [(z1, .inr (0, [.ref z2, .ref z3, .ref z4, .ref z5, .ref z6, .ref z7, .int x1383])), (z2, .inl (T 0, 121, .inl f1384)), (z3, .inl (T 0, 121, .inl f1385)), (z4, .inl (T 0, 121, .inl f1387)), (z5, .inl (T 0, 121, .inl f1388)), (z6, .inl (T 0, 121, .inl f1389)), (z7, .inl (T 0, 121, .inl f1390))] := hD
    refine lv_aload_n hx hb dX0_add_83 rfl (lv_at hl 0 rfl) ?_
    refine r_get (v := .int x1383) C0 hE ffX0_6 mw_56 hP 0 rfl rfl dX0_add_84 ?_
    exact r_iret ([(z1, .inr (0, [.ref z2, .ref z3, .ref z4, .ref z5, .ref z6, .ref z7, .int x1383])), (z2, .inl (T 0, 121, .inl f1384)), (z3, .inl (T 0, 121, .inl f1385)), (z4, .inl (T 0, 121, .inl f1387)), (z5, .inl (T 0, 121, .inl f1388)), (z6, .inl (T 0, 121, .inl f1389)), (z7, .inl (T 0, 121, .inl f1390))] : va_W) C0 hr hlocks hS (Nat.le_refl _) (Nat.le_refl _) dX0_add_87 ⟨⟨x1383, f1384, f1385, f1387, f1388, f1389, f1390, rfl, ⟨by omega, by omega⟩, hb1386⟩, ⟨by omega, by omega⟩⟩ (hP.sub (ws' := [(z1, .inr (0, [.ref z2, .ref z3, .ref z4, .ref z5, .ref z6, .ref z7, .int x1383])), (z2, .inl (T 0, 121, .inl f1384)), (z3, .inl (T 0, 121, .inl f1385)), (z4, .inl (T 0, 121, .inl f1387)), (z5, .inl (T 0, 121, .inl f1388)), (z6, .inl (T 0, 121, .inl f1389)), (z7, .inl (T 0, 121, .inl f1390))]) [0, 1, 2, 3, 4, 5, 6] rfl) (hD.sub (ws' := [(z1, .inr (0, [.ref z2, .ref z3, .ref z4, .ref z5, .ref z6, .ref z7, .int x1383])), (z2, .inl (T 0, 121, .inl f1384)), (z3, .inl (T 0, 121, .inl f1385)), (z4, .inl (T 0, 121, .inl f1387)), (z5, .inl (T 0, 121, .inl f1388)), (z6, .inl (T 0, 121, .inl f1389)), (z7, .inl (T 0, 121, .inl f1390))]) [0, 1, 2, 3, 4, 5, 6] (by decide +kernel) rfl)
  · skip
    have kc1382 : 120 ≤ x1374.toInt := nlt_ti rfl (by decide) c1382
    refine lv_iconst (v := (-1)) hx hb dX0_add_9 (by decide) ?_
    exact r_iret ([(z1, .inr (0, [.ref z2, .ref z3, .ref z4, .ref z5, .ref z6, .ref z7, .int x1374])), (z2, .inl (T 0, 121, .inl f1375)), (z3, .inl (T 0, 121, .inl f1376)), (z4, .inl (T 0, 121, .inl f1378)), (z5, .inl (T 0, 121, .inl f1379)), (z6, .inl (T 0, 121, .inl f1380)), (z7, .inl (T 0, 121, .inl f1381))] : va_W) C0 hr hlocks hS (Nat.le_refl _) (Nat.le_refl _) dX0_add_10 ⟨⟨x1374, f1375, f1376, f1378, f1379, f1380, f1381, rfl, ⟨by omega, by omega⟩, hb1377⟩, ⟨by decide, by decide⟩⟩ (hP.sub (ws' := [(z1, .inr (0, [.ref z2, .ref z3, .ref z4, .ref z5, .ref z6, .ref z7, .int x1374])), (z2, .inl (T 0, 121, .inl f1375)), (z3, .inl (T 0, 121, .inl f1376)), (z4, .inl (T 0, 121, .inl f1378)), (z5, .inl (T 0, 121, .inl f1379)), (z6, .inl (T 0, 121, .inl f1380)), (z7, .inl (T 0, 121, .inl f1381))]) [0, 1, 2, 3, 4, 5, 6] rfl) (hD.sub (ws' := [(z1, .inr (0, [.ref z2, .ref z3, .ref z4, .ref z5, .ref z6, .ref z7, .int x1374])), (z2, .inl (T 0, 121, .inl f1375)), (z3, .inl (T 0, 121, .inl f1376)), (z4, .inl (T 0, 121, .inl f1378)), (z5, .inl (T 0, 121, .inl f1379)), (z6, .inl (T 0, 121, .inl f1380)), (z7, .inl (T 0, 121, .inl f1381))]) [0, 1, 2, 3, 4, 5, 6] (by decide +kernel) rfl)
