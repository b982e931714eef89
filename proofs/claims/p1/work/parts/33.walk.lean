set_option maxHeartbeats 4000000 in
set_option maxRecDepth 100000 in
theorem c_X10_within_1583 (l : Launch) (D : va_G) (T : Nat → ClassId) (sz : Nat) (z1 : Int32) : Met l yX10_within (.code yX10_within cX10_within 3 (some .boolean) :: TB) { frames := 0, cells := 0, slots := 0, locals := 0 } (PC D T [.int z1, .int 1, .int 1000] [] sz) (Qi (S := Unit) (fun (r : Int32) (_ : Unit) => r = (bi (wi z1 1 1000))) (fun (_ : Unit) => []) D (va_A [] sz)) 0 0 (va_A [] sz) := by
  refine ct_begin (Qc := Qi (S := Unit) (fun (r : Int32) (_ : Unit) => r = (bi (wi z1 1 1000))) (fun (_ : Unit) => []) D) (by decide +kernel) (Nat.le_of_ble_eq_true rfl) ?_
  intro p e s m below meth c A ls C0 hr hlocks hnm hE hA hP hD hS hl
  have hx := C0.1
  have hb := C0.2.1
  have hml := C0.2.2.1
  have hown := C0.2.2.2.1
  have hT := C0.2.2.2.2
  have hK := hE.1
  have hl : lv_has ls 3 [(0, .int z1), (1, .int 1), (2, .int 1000)] := hl
  refine lv_iload_n hx hb dX10_within_0 rfl (lv_at hl 0 rfl) ?_
  refine lv_iload_n hx hb dX10_within_1 rfl (lv_at hl 1 rfl) ?_
  refine lv_icmp_lt (tgt := 14) hx hb dX10_within_2 (by decide) (fun c_1581 => ?_) (fun c_1581 => ?_)
  · skip
    refine lv_iconst (v := 0) hx hb dX10_within_14 (by decide) ?_
    exact r_zret () C0 hr (by decide +kernel) hlocks hS (Nat.le_of_ble_eq_true rfl) (Nat.le_of_ble_eq_true rfl) dX10_within_15 (wi_a c_1581) P_nil D_nil
  · skip
    refine lv_iload_n hx hb dX10_within_5 rfl (lv_at hl 0 rfl) ?_
    refine lv_iload_n hx hb dX10_within_6 rfl (lv_at hl 2 rfl) ?_
    refine lv_icmp_gt (tgt := 14) hx hb dX10_within_7 (by decide) (fun c_1582 => ?_) (fun c_1582 => ?_)
    · skip
      refine lv_iconst (v := 0) hx hb dX10_within_14 (by decide) ?_
      exact r_zret () C0 hr (by decide +kernel) hlocks hS (Nat.le_of_ble_eq_true rfl) (Nat.le_of_ble_eq_true rfl) dX10_within_15 (wi_b c_1582) P_nil D_nil
    · skip
      refine lv_iconst (v := 1) hx hb dX10_within_10 (by decide) ?_
      refine lv_goto (tgt := 15) hx hb dX10_within_11 (by decide) ?_
      exact r_zret () C0 hr (by decide +kernel) hlocks hS (Nat.le_of_ble_eq_true rfl) (Nat.le_of_ble_eq_true rfl) dX10_within_15 (wi_c c_1581 c_1582) P_nil D_nil
set_option maxHeartbeats 4000000 in
set_option maxRecDepth 100000 in
theorem c_X10_tests_1600 (l : Launch) (D : va_G) (T : Nat → ClassId) (sz : Nat) (z1 : Nat) (z2 : Int32) (z3 : Int32) (z4 : Int32) (z5 : Nat) (z6 : Nat) (z7 : Nat) (z8 : Nat) (z9 : Nat) (z10 : Nat) (z11 : Nat) (z12 : Nat) (z13 : Nat) (z14 : Nat) (z15 : Nat) : Met l yX10_tests (.code yX10_tests cX10_tests 9 (some .int) :: TB) { frames := 2, cells := 0, slots := 0, locals := 43 } (PC D T [.ref z1, .int z2, .int z3, .int z4] [(z1, .inr (10, [.ref z5, .ref z6, .ref z7, .ref z8, .ref z9, .ref z10, .ref z11, .ref z12, .ref z13, .ref z14, .ref z15, .int 1, .int (-1), .int 0, .int (-1)]))] sz) (Qi (S := Unit) (fun (r : Int32) (_ : Unit) => r = (TS z2 z3 z4)) (fun (_ : Unit) => []) D (va_A [(z1, .inr (10, [.ref z5, .ref z6, .ref z7, .ref z8, .ref z9, .ref z10, .ref z11, .ref z12, .ref z13, .ref z14, .ref z15, .int 1, .int (-1), .int 0, .int (-1)]))] sz)) 0 0 (va_A [(z1, .inr (10, [.ref z5, .ref z6, .ref z7, .ref z8, .ref z9, .ref z10, .ref z11, .ref z12, .ref z13, .ref z14, .ref z15, .int 1, .int (-1), .int 0, .int (-1)]))] sz) := by
  refine ct_begin (Qc := Qi (S := Unit) (fun (r : Int32) (_ : Unit) => r = (TS z2 z3 z4)) (fun (_ : Unit) => []) D) (by decide +kernel) (Nat.le_of_ble_eq_true rfl) ?_
  intro p e s m below meth c A ls C0 hr hlocks hnm hE hA hP hD hS hl
  have hx := C0.1
  have hb := C0.2.1
  have hml := C0.2.2.1
  have hown := C0.2.2.2.1
  have hT := C0.2.2.2.2
  have hK := hE.1
  have hl : lv_has ls 9 [(0, .ref z1), (1, .int z2), (2, .int z3), (3, .int z4)] := hl
  refine lv_iload_n hx hb dX10_tests_0 rfl (lv_at hl 1 rfl) ?_
  refine lv_iload_n hx hb dX10_tests_1 rfl (lv_at hl 2 rfl) ?_
  refine r_calli (wr := [(z1, .inr (10, [.ref z5, .ref z6, .ref z7, .ref z8, .ref z9, .ref z10, .ref z11, .ref z12, .ref z13, .ref z14, .ref z15, .int 1, .int (-1), .int 0, .int (-1)]))]) (r_runS (As := [.int z2, .int z3]) (rest := []) (wc := []) C0 hE (c_X10_isBatch_1502 l D T s.heap.size z2 z3) mw_633 mw_634 mw_7 mw_635 dn_632 rfl rfl ⟨Nat.le_of_ble_eq_true rfl, Nat.le_of_ble_eq_true rfl⟩ (hP.sub (ws' := []) [] rfl) (hD.sub (ws' := []) [] (by decide +kernel) rfl) hl.1 rfl (Nat.le_of_ble_eq_true rfl) dX10_tests_2 ⟨Nat.le_of_ble_eq_true rfl, Nat.le_of_ble_eq_true rfl⟩) hP hD hS hA [] [0] rfl rfl (by decide +kernel) (by decide +kernel) (fun r1594 u H locs hq hP hD hS => ?_)
  have hq : r1594 = (bi (wi z2 1 50 && wi z3 0 z2)) := hq
  subst hq
  have hP : va_P D vwCl [(z1, .inr (10, [.ref z5, .ref z6, .ref z7, .ref z8, .ref z9, .ref z10, .ref z11, .ref z12, .ref z13, .ref z14, .ref z15, .int 1, .int (-1), .int 0, .int (-1)]))] H := hP
  have hD : va_D A [(z1, .inr (10, [.ref z5, .ref z6, .ref z7, .ref z8, .ref z9, .ref z10, .ref z11, .ref z12, .ref z13, .ref z14, .ref z15, .int 1, .int (-1), .int 0, .int (-1)]))] := hD
  refine W.widen (k := 0) (n := 0) (Nat.le_of_ble_eq_true rfl) (Nat.le_of_ble_eq_true rfl) ?_
  refine lv_if_eq (tgt := 19) hx hb dX10_tests_5 (by decide) (fun c_1595 => ?_) (fun c_1595 => ?_)
  · skip
    have c_1595 := bi_z c_1595
    refine lv_iconst (v := (-1)) hx hb dX10_tests_19 (by decide) ?_
    exact r_iret () C0 hr hlocks hS (Nat.le_of_ble_eq_true rfl) (Nat.le_of_ble_eq_true rfl) dX10_tests_20 (by first | rfl | decide +kernel | simp [bi, FO, TS, c_1595]) P_nil D_nil
  · skip
    have c_1595 := bi_nz c_1595
    refine lv_iload_n hx hb dX10_tests_8 rfl (lv_at hl 3 rfl) ?_
    refine lv_iconst (v := 1) hx hb dX10_tests_9 (by decide) ?_
    refine lv_sipush (v := 1000) hx hb dX10_tests_10 (by decide) ?_
    refine r_calli (wr := [(z1, .inr (10, [.ref z5, .ref z6, .ref z7, .ref z8, .ref z9, .ref z10, .ref z11, .ref z12, .ref z13, .ref z14, .ref z15, .int 1, .int (-1), .int 0, .int (-1)]))]) (r_runS (As := [.int z4, .int 1, .int 1000]) (rest := []) (wc := []) C0 hE (c_X10_within_1583 l D T H.size z4) mw_483 mw_484 mw_7 mw_485 dn_482 rfl rfl ⟨Nat.le_of_ble_eq_true rfl, Nat.le_of_ble_eq_true rfl⟩ (hP.sub (ws' := []) [] rfl) (hD.sub (ws' := []) [] (by decide +kernel) rfl) hl.1 rfl (Nat.le_of_ble_eq_true rfl) dX10_tests_13 ⟨Nat.le_of_ble_eq_true rfl, Nat.le_of_ble_eq_true rfl⟩) hP hD hS hA [] [0] rfl rfl (by decide +kernel) (by decide +kernel) (fun r1598 u H locs hq hP hD hS => ?_)
    have hq : r1598 = (bi (wi z4 1 1000)) := hq
    subst hq
    have hP : va_P D vwCl [(z1, .inr (10, [.ref z5, .ref z6, .ref z7, .ref z8, .ref z9, .ref z10, .ref z11, .ref z12, .ref z13, .ref z14, .ref z15, .int 1, .int (-1), .int 0, .int (-1)]))] H := hP
    have hD : va_D A [(z1, .inr (10, [.ref z5, .ref z6, .ref z7, .ref z8, .ref z9, .ref z10, .ref z11, .ref z12, .ref z13, .ref z14, .ref z15, .int 1, .int (-1), .int 0, .int (-1)]))] := hD
    refine W.widen (k := 0) (n := 0) (Nat.le_of_ble_eq_true rfl) (Nat.le_of_ble_eq_true rfl) ?_
    refine lv_if_ne (tgt := 21) hx hb dX10_tests_16 (by decide) (fun c_1599 => ?_) (fun c_1599 => ?_)
    · skip
      have c_1599 := bi_nz c_1599
      have g1 := (Bool.and_eq_true _ _).mp c_1595
      have k1 := g1.1
      have k2 := g1.2
      have k3 := c_1599
      obtain ⟨Na, hNa, rfl⟩ := wi_nat (L := 50) (by decide) (by decide) (by decide) k1
      obtain ⟨Nb, hNb, rfl⟩ := wi_nat (L := Na) (Int32.le_refl _) (by omega) (by decide) k2
      exact tests10_tail hNa hNb (Nat.le_of_ble_eq_true rfl) (Nat.le_of_ble_eq_true rfl) C0 hE hA hr hlocks (by simp only [TS, k1, k2, k3, Bool.and_self, if_true, nI_clamp (show Na < 2 ^ 31 by omega), nI_clamp (show Nb < 2 ^ 31 by omega)]) hS hl
    · skip
      have c_1599 := bi_z c_1599
      refine lv_iconst (v := (-1)) hx hb dX10_tests_19 (by decide) ?_
      exact r_iret () C0 hr hlocks hS (Nat.le_of_ble_eq_true rfl) (Nat.le_of_ble_eq_true rfl) dX10_tests_20 (by first | rfl | decide +kernel | simp [bi, FO, TS, c_1595, c_1599]) P_nil D_nil
set_option maxHeartbeats 4000000 in
set_option maxRecDepth 100000 in
theorem c_X2_countHooks_1611 (l : Launch) (D : va_G) (T : Nat → ClassId) (sz : Nat) (z1 : Nat) (z2 : Nat) (z3 : Nat) (z4 : Nat) (z5 : Nat) (z6 : Nat) (z7 : Nat) (z8 : Nat) (z9 : Nat) : Met l yX2_countHooks (.code yX2_countHooks cX2_countHooks 3 (some .int) :: TB) { frames := 1, cells := 0, slots := 0, locals := 21 } (PC D T [.ref z1] [(z1, .inr (2, [.ref z2, .ref z3, .ref z4, .ref z5, .ref z6, .ref z7, .ref z8, .ref z9, .int 0, .int 1, .int 1, .int 0])), (z2, .inl (T 0, 64, .inl (fl (-1) 64 (fun _ => 0))))] sz) (Qi (S := Unit) (fun (r : Int32) (_ : Unit) => r = 0) (fun (_ : Unit) => [(z1, .inr (2, [.ref z2, .ref z3, .ref z4, .ref z5, .ref z6, .ref z7, .ref z8, .ref z9, .int 0, .int 1, .int 1, .int 0])), (z2, .inl (T 0, 64, .inl (fl (-1) 64 (fun _ => 0))))]) D (va_A [(z1, .inr (2, [.ref z2, .ref z3, .ref z4, .ref z5, .ref z6, .ref z7, .ref z8, .ref z9, .int 0, .int 1, .int 1, .int 0])), (z2, .inl (T 0, 64, .inl (fl (-1) 64 (fun _ => 0))))] sz)) 0 0 (va_A [(z1, .inr (2, [.ref z2, .ref z3, .ref z4, .ref z5, .ref z6, .ref z7, .ref z8, .ref z9, .int 0, .int 1, .int 1, .int 0])), (z2, .inl (T 0, 64, .inl (fl (-1) 64 (fun _ => 0))))] sz) := by
  refine ct_begin (Qc := Qi (S := Unit) (fun (r : Int32) (_ : Unit) => r = 0) (fun (_ : Unit) => [(z1, .inr (2, [.ref z2, .ref z3, .ref z4, .ref z5, .ref z6, .ref z7, .ref z8, .ref z9, .int 0, .int 1, .int 1, .int 0])), (z2, .inl (T 0, 64, .inl (fl (-1) 64 (fun _ => 0))))]) D) (by decide +kernel) (Nat.le_of_ble_eq_true rfl) ?_
  intro p e s m below meth c A ls C0 hr hlocks hnm hE hA hP hD hS hl
  have hx := C0.1
  have hb := C0.2.1
  have hml := C0.2.2.1
  have hown := C0.2.2.2.1
  have hT := C0.2.2.2.2
  have hK := hE.1
  have hl : lv_has ls 3 [(0, .ref z1)] := hl
  refine lv_iconst (v := 0) hx hb dX2_countHooks_0 (by decide) ?_
  refine lv_istore_n (lv' := [(1, .int 0), (0, .ref z1)]) hx hb dX2_countHooks_1 rfl hl (by decide) rfl (fun ls hl => ?_)
  refine lv_iconst (v := 0) hx hb dX2_countHooks_2 (by decide) ?_
  refine lv_istore_n (lv' := [(2, .int 0), (1, .int 0), (0, .ref z1)]) hx hb dX2_countHooks_3 rfl hl (by decide) rfl (fun ls hl => ?_)
  refine lv_iload_n hx hb dX2_countHooks_4 rfl (lv_at hl 0 rfl) ?_
  refine lv_aload_n hx hb dX2_countHooks_5 rfl (lv_at hl 2 rfl) ?_
  refine r_get (v := .int 1) C0 hE ffX2_9 mw_132 hP 0 rfl rfl dX2_countHooks_6 ?_
  refine lv_icmp_ge (tgt := 29) hx hb dX2_countHooks_9 (by decide) (fun hc => absurd hc (by decide +kernel)) (fun _ => ?_)
  refine lv_aload_n hx hb dX2_countHooks_12 rfl (lv_at hl 2 rfl) ?_
  refine lv_iload_n hx hb dX2_countHooks_13 rfl (lv_at hl 0 rfl) ?_
  refine r_calli (wr := []) (r_runV (As := [.int 0]) (rest := []) (wc := [(z1, .inr (2, [.ref z2, .ref z3, .ref z4, .ref z5, .ref z6, .ref z7, .ref z8, .ref z9, .int 0, .int 1, .int 1, .int 0])), (z2, .inl (T 0, 64, .inl (fl (-1) 64 (fun _ => 0))))]) (ci := 2) C0 hE (c_X2_hasHook_1189 l D T s.heap.size z1 z2 z3 z4 z5 z6 z7 z8 z9) mw_636 mw_564 mw_565 mw_64 mw_566 dn_562 rfl rfl ⟨Nat.le_of_ble_eq_true rfl, Nat.le_of_ble_eq_true rfl⟩ (hP.sub (ws' := [(z1, .inr (2, [.ref z2, .ref z3, .ref z4, .ref z5, .ref z6, .ref z7, .ref z8, .ref z9, .int 0, .int 1, .int 1, .int 0])), (z2, .inl (T 0, 64, .inl (fl (-1) 64 (fun _ => 0))))]) [0, 1] rfl) (hD.sub (ws' := [(z1, .inr (2, [.ref z2, .ref z3, .ref z4, .ref z5, .ref z6, .ref z7, .ref z8, .ref z9, .int 0, .int 1, .int 1, .int 0])), (z2, .inl (T 0, 64, .inl (fl (-1) 64 (fun _ => 0))))]) [0, 1] (by decide +kernel) rfl) rfl rfl rfl hl.1 rfl (Nat.le_of_ble_eq_true rfl) dX2_countHooks_14 ⟨Nat.le_of_ble_eq_true rfl, Nat.le_of_ble_eq_true rfl⟩) hP hD hS hA [0, 1] [] rfl rfl (by decide +kernel) (by decide +kernel) (fun r1610 u H locs hq hP hD hS => ?_)
  have hq : r1610 = 0 := hq
  subst hq
  have hP : va_P D vwCl [(z1, .inr (2, [.ref z2, .ref z3, .ref z4, .ref z5, .ref z6, .ref z7, .ref z8, .ref z9, .int 0, .int 1, .int 1, .int 0])), (z2, .inl (T 0, 64, .inl (fl (-1) 64 (fun _ => 0))))] H := hP
  have hD : va_D A [(z1, .inr (2, [.ref z2, .ref z3, .ref z4, .ref z5, .ref z6, .ref z7, .ref z8, .ref z9, .int 0, .int 1, .int 1, .int 0])), (z2, .inl (T 0, 64, .inl (fl (-1) 64 (fun _ => 0))))] := hD
  refine W.widen (k := 0) (n := 0) (Nat.le_of_ble_eq_true rfl) (Nat.le_of_ble_eq_true rfl) ?_
  refine lv_if_eq (tgt := 23) hx hb dX2_countHooks_17 (by decide) (fun _ => ?_) (fun hc => absurd (by decide +kernel) hc)
  refine lv_iinc (v := 1) (lv' := [(2, .int 1), (1, .int 0), (0, .ref z1)]) hx hb dX2_countHooks_23 hl (k := 0) rfl (by decide +kernel) (by decide) rfl (fun ls hl => ?_)
  refine lv_goto (tgt := 4) hx hb dX2_countHooks_26 (by decide) ?_
  refine lv_iload_n hx hb dX2_countHooks_4 rfl (lv_at hl 0 rfl) ?_
  refine lv_aload_n hx hb dX2_countHooks_5 rfl (lv_at hl 2 rfl) ?_
  refine r_get (v := .int 1) C0 hE ffX2_9 mw_132 hP 0 rfl rfl dX2_countHooks_6 ?_
  refine lv_icmp_ge (tgt := 29) hx hb dX2_countHooks_9 (by decide) (fun _ => ?_) (fun hc => absurd (by decide +kernel) hc)
  refine lv_iload_n hx hb dX2_countHooks_29 rfl (lv_at hl 1 rfl) ?_
  exact r_iret () C0 hr hlocks hS (Nat.le_of_ble_eq_true rfl) (Nat.le_of_ble_eq_true rfl) dX2_countHooks_30 rfl hP hD
set_option maxHeartbeats 4000000 in
set_option maxRecDepth 100000 in
theorem c_X10_all_1627 (l : Launch) (D : va_G) (T : Nat → ClassId) (sz : Nat) (z1 : Nat) (z2 : Int32) (z3 : Nat) (z4 : Nat) (z5 : Nat) (z6 : Nat) (z7 : Nat) (z8 : Nat) (z9 : Nat) (z10 : Nat) (z11 : Nat) (z12 : Nat) (z13 : Nat) (z14 : Nat) (z15 : Nat) (z16 : Nat) (z17 : Nat) (z18 : Nat) (z19 : Nat) (z20 : Nat) (z21 : Nat) (z22 : Nat) (z23 : Nat) (z24 : Nat) (z25 : Nat) (z26 : Nat) (z27 : Nat) (z28 : Nat) (z29 : Nat) (z30 : Nat) (z31 : Nat) (z32 : Nat) (z33 : Nat) (z34 : Nat) (z35 : Nat) (z36 : Nat) (z37 : Nat) (z38 : Nat) (z39 : Nat) (z40 : Nat) (z41 : Nat) : Met l yX10_all (.code yX10_all cX10_all 2 (some .int) :: TB) { frames := 2, cells := 0, slots := 0, locals := 48 } (PC D T [.ref z1, .int z2] [(z1, .inr (10, [.ref z3, .ref z4, .ref z5, .ref z6, .ref z7, .ref z8, .ref z9, .ref z10, .ref z11, .ref z12, .ref z13, .int 1, .int (-1), .int 0, .int (-1)])), (z5, .inr (0, [.ref z14, .ref z15, .ref z16, .ref z17, .ref z18, .ref z19, .int 0])), (z11, .inr (4, [.ref z20, .ref z21, .ref z22, .ref z23, .ref z24, .int 0, .int 0, .int 0, .int 0, .int 0, .int 0, .int 0, .int 0, .int 0])), (z12, .inr (8, [.ref z25, .ref z26, .ref z27, .ref z28, .ref z29, .ref z30, .ref z31, .ref z32, .ref z33, .int 0, .int 0, .int 0, .int 0])), (z6, .inr (2, [.ref z34, .ref z35, .ref z36, .ref z37, .ref z38, .ref z39, .ref z40, .ref z41, .int 0, .int 1, .int 1, .int 0])), (z34, .inl (T 0, 64, .inl (fl (-1) 64 (fun _ => 0))))] sz) (Qi (S := Unit) (fun (r : Int32) (_ : Unit) => r = (if z2 = 0 then 1 else if z2 = 1 then 0 else if z2 = 2 then 0 else if z2 = 3 then 0 else if z2 = 4 then 0 else if z2 = 5 then 0 else if z2 = 6 then 0 else (-1))) (fun (_ : Unit) => []) D (va_A [(z1, .inr (10, [.ref z3, .ref z4, .ref z5, .ref z6, .ref z7, .ref z8, .ref z9, .ref z10, .ref z11, .ref z12, .ref z13, .int 1, .int (-1), .int 0, .int (-1)])), (z5, .inr (0, [.ref z14, .ref z15, .ref z16, .ref z17, .ref z18, .ref z19, .int 0])), (z11, .inr (4, [.ref z20, .ref z21, .ref z22, .ref z23, .ref z24, .int 0, .int 0, .int 0, .int 0, .int 0, .int 0, .int 0, .int 0, .int 0])), (z12, .inr (8, [.ref z25, .ref z26, .ref z27, .ref z28, .ref z29, .ref z30, .ref z31, .ref z32, .ref z33, .int 0, .int 0, .int 0, .int 0])), (z6, .inr (2, [.ref z34, .ref z35, .ref z36, .ref z37, .ref z38, .ref z39, .ref z40, .ref z41, .int 0, .int 1, .int 1, .int 0])), (z34, .inl (T 0, 64, .inl (fl (-1) 64 (fun _ => 0))))] sz)) 0 0 (va_A [(z1, .inr (10, [.ref z3, .ref z4, .ref z5, .ref z6, .ref z7, .ref z8, .ref z9, .ref z10, .ref z11, .ref z12, .ref z13, .int 1, .int (-1), .int 0, .int (-1)])), (z5, .inr (0, [.ref z14, .ref z15, .ref z16, .ref z17, .ref z18, .ref z19, .int 0])), (z11, .inr (4, [.ref z20, .ref z21, .ref z22, .ref z23, .ref z24, .int 0, .int 0, .int 0, .int 0, .int 0, .int 0, .int 0, .int 0, .int 0])), (z12, .inr (8, [.ref z25, .ref z26, .ref z27, .ref z28, .ref z29, .ref z30, .ref z31, .ref z32, .ref z33, .int 0, .int 0, .int 0, .int 0])), (z6, .inr (2, [.ref z34, .ref z35, .ref z36, .ref z37, .ref z38, .ref z39, .ref z40, .ref z41, .int 0, .int 1, .int 1, .int 0])), (z34, .inl (T 0, 64, .inl (fl (-1) 64 (fun _ => 0))))] sz) := by
  refine ct_begin (Qc := Qi (S := Unit) (fun (r : Int32) (_ : Unit) => r = (if z2 = 0 then 1 else if z2 = 1 then 0 else if z2 = 2 then 0 else if z2 = 3 then 0 else if z2 = 4 then 0 else if z2 = 5 then 0 else if z2 = 6 then 0 else (-1))) (fun (_ : Unit) => []) D) (by decide +kernel) (Nat.le_of_ble_eq_true rfl) ?_
  intro p e s m below meth c A ls C0 hr hlocks hnm hE hA hP hD hS hl
  have hx := C0.1
  have hb := C0.2.1
  have hml := C0.2.2.1
  have hown := C0.2.2.2.1
  have hT := C0.2.2.2.2
  have hK := hE.1
  have hl : lv_has ls 2 [(0, .ref z1), (1, .int z2)] := hl
  refine lv_iload_n hx hb dX10_all_0 rfl (lv_at hl 1 rfl) ?_
  by_cases c_1615 : z2 = 0
  · skip
    subst c_1615
    refine lv_tableIn (tgt := 44) hx hb dX10_all_1 (by decide +kernel) (by decide +kernel) rfl (by decide) ?_
    refine lv_aload_n hx hb dX10_all_44 rfl (lv_at hl 0 rfl) ?_
    refine r_get (v := .int 1) C0 hE ffX10_11 mw_279 hP 0 rfl rfl dX10_all_45 ?_
    exact r_iret () C0 hr hlocks hS (Nat.le_of_ble_eq_true rfl) (Nat.le_of_ble_eq_true rfl) dX10_all_48 (by first | rfl | decide +kernel | simp [bi, FO, TS]) P_nil D_nil
  · skip
    by_cases c_1616 : z2 = 1
    · skip
      subst c_1616
      refine lv_tableIn (tgt := 49) hx hb dX10_all_1 (by decide +kernel) (by decide +kernel) rfl (by decide) ?_
      refine lv_aload_n hx hb dX10_all_49 rfl (lv_at hl 0 rfl) ?_
      refine r_get (v := .ref z12) C0 hE ffX10_9 mw_255 hP 0 rfl rfl dX10_all_50 ?_
      refine r_get (v := .int 0) C0 hE ffX8_9 mw_526 hP 3 rfl rfl dX10_all_53 ?_
      exact r_iret () C0 hr hlocks hS (Nat.le_of_ble_eq_true rfl) (Nat.le_of_ble_eq_true rfl) dX10_all_56 (by first | rfl | decide +kernel | simp [bi, FO, TS, c_1615]) P_nil D_nil
    · skip
      by_cases c_1617 : z2 = 2
      · skip
        subst c_1617
        refine lv_tableIn (tgt := 57) hx hb dX10_all_1 (by decide +kernel) (by decide +kernel) rfl (by decide) ?_
        refine lv_aload_n hx hb dX10_all_57 rfl (lv_at hl 0 rfl) ?_
        refine r_get (v := .ref z5) C0 hE ffX10_2 mw_59 hP 0 rfl rfl dX10_all_58 ?_
        refine r_get (v := .int 0) C0 hE ffX0_6 mw_515 hP 1 rfl rfl dX10_all_61 ?_
        exact r_iret () C0 hr hlocks hS (Nat.le_of_ble_eq_true rfl) (Nat.le_of_ble_eq_true rfl) dX10_all_64 (by first | rfl | decide +kernel | simp [bi, FO, TS, c_1615, c_1615, c_1616]) P_nil D_nil
      · skip
        by_cases c_1618 : z2 = 3
        · skip
          subst c_1618
          refine lv_tableIn (tgt := 65) hx hb dX10_all_1 (by decide +kernel) (by decide +kernel) rfl (by decide) ?_
          refine lv_aload_n hx hb dX10_all_65 rfl (lv_at hl 0 rfl) ?_
          refine r_calli (wr := [(z11, .inr (4, [.ref z20, .ref z21, .ref z22, .ref z23, .ref z24, .int 0, .int 0, .int 0, .int 0, .int 0, .int 0, .int 0, .int 0, .int 0])), (z12, .inr (8, [.ref z25, .ref z26, .ref z27, .ref z28, .ref z29, .ref z30, .ref z31, .ref z32, .ref z33, .int 0, .int 0, .int 0, .int 0])), (z6, .inr (2, [.ref z34, .ref z35, .ref z36, .ref z37, .ref z38, .ref z39, .ref z40, .ref z41, .int 0, .int 1, .int 1, .int 0])), (z34, .inl (T 0, 64, .inl (fl (-1) 64 (fun _ => 0))))]) (r_runV (As := []) (rest := []) (wc := [(z1, .inr (10, [.ref z3, .ref z4, .ref z5, .ref z6, .ref z7, .ref z8, .ref z9, .ref z10, .ref z11, .ref z12, .ref z13, .int 1, .int (-1), .int 0, .int (-1)])), (z5, .inr (0, [.ref z14, .ref z15, .ref z16, .ref z17, .ref z18, .ref z19, .int 0]))]) (ci := 10) C0 hE (c_X10_toldAct_1182 l D T s.heap.size z1 z3 z4 z5 z6 z7 z8 z9 z10 z11 z12 z13 z14 z15 z16 z17 z18 z19) mw_547 mw_548 mw_549 mw_7 mw_550 dn_546 rfl rfl ⟨Nat.le_of_ble_eq_true rfl, Nat.le_of_ble_eq_true rfl⟩ (hP.sub (ws' := [(z1, .inr (10, [.ref z3, .ref z4, .ref z5, .ref z6, .ref z7, .ref z8, .ref z9, .ref z10, .ref z11, .ref z12, .ref z13, .int 1, .int (-1), .int 0, .int (-1)])), (z5, .inr (0, [.ref z14, .ref z15, .ref z16, .ref z17, .ref z18, .ref z19, .int 0]))]) [0, 1] rfl) (hD.sub (ws' := [(z1, .inr (10, [.ref z3, .ref z4, .ref z5, .ref z6, .ref z7, .ref z8, .ref z9, .ref z10, .ref z11, .ref z12, .ref z13, .int 1, .int (-1), .int 0, .int (-1)])), (z5, .inr (0, [.ref z14, .ref z15, .ref z16, .ref z17, .ref z18, .ref z19, .int 0]))]) [0, 1] (by decide +kernel) rfl) rfl rfl rfl hl.1 rfl (Nat.le_of_ble_eq_true rfl) dX10_all_66 ⟨Nat.le_of_ble_eq_true rfl, Nat.le_of_ble_eq_true rfl⟩) hP hD hS hA [0, 1] [2, 3, 4, 5] rfl rfl (by decide +kernel) (by decide +kernel) (fun r1619 u H locs hq hP hD hS => ?_)
          have hq : r1619 = 0 := hq
          subst hq
          have hP : va_P D vwCl [(z11, .inr (4, [.ref z20, .ref z21, .ref z22, .ref z23, .ref z24, .int 0, .int 0, .int 0, .int 0, .int 0, .int 0, .int 0, .int 0, .int 0])), (z12, .inr (8, [.ref z25, .ref z26, .ref z27, .ref z28, .ref z29, .ref z30, .ref z31, .ref z32, .ref z33, .int 0, .int 0, .int 0, .int 0])), (z6, .inr (2, [.ref z34, .ref z35, .ref z36, .ref z37, .ref z38, .ref z39, .ref z40, .ref z41, .int 0, .int 1, .int 1, .int 0])), (z34, .inl (T 0, 64, .inl (fl (-1) 64 (fun _ => 0)))), (z1, .inr (10, [.ref z3, .ref z4, .ref z5, .ref z6, .ref z7, .ref z8, .ref z9, .ref z10, .ref z11, .ref z12, .ref z13, .int 1, .int (-1), .int 0, .int (-1)])), (z5, .inr (0, [.ref z14, .ref z15, .ref z16, .ref z17, .ref z18, .ref z19, .int 0]))] H := hP
          have hD : va_D A [(z11, .inr (4, [.ref z20, .ref z21, .ref z22, .ref z23, .ref z24, .int 0, .int 0, .int 0, .int 0, .int 0, .int 0, .int 0, .int 0, .int 0])), (z12, .inr (8, [.ref z25, .ref z26, .ref z27, .ref z28, .ref z29, .ref z30, .ref z31, .ref z32, .ref z33, .int 0, .int 0, .int 0, .int 0])), (z6, .inr (2, [.ref z34, .ref z35, .ref z36, .ref z37, .ref z38, .ref z39, .ref z40, .ref z41, .int 0, .int 1, .int 1, .int 0])), (z34, .inl (T 0, 64, .inl (fl (-1) 64 (fun _ => 0)))), (z1, .inr (10, [.ref z3, .ref z4, .ref z5, .ref z6, .ref z7, .ref z8, .ref z9, .ref z10, .ref z11, .ref z12, .ref z13, .int 1, .int (-1), .int 0, .int (-1)])), (z5, .inr (0, [.ref z14, .ref z15, .ref z16, .ref z17, .ref z18, .ref z19, .int 0]))] := hD
          refine W.widen (k := 0) (n := 0) (Nat.le_of_ble_eq_true rfl) (Nat.le_of_ble_eq_true rfl) ?_
          exact r_iret () C0 hr hlocks hS (Nat.le_of_ble_eq_true rfl) (Nat.le_of_ble_eq_true rfl) dX10_all_69 (by first | rfl | decide +kernel | simp [bi, FO, TS, c_1615, c_1615, c_1616, c_1615, c_1616, c_1617]) P_nil D_nil
        · skip
          by_cases c_1620 : z2 = 4
          · skip
            subst c_1620
            refine lv_tableIn (tgt := 70) hx hb dX10_all_1 (by decide +kernel) (by decide +kernel) rfl (by decide) ?_
            refine lv_aload_n hx hb dX10_all_70 rfl (lv_at hl 0 rfl) ?_
            refine r_callr (wr := [(z11, .inr (4, [.ref z20, .ref z21, .ref z22, .ref z23, .ref z24, .int 0, .int 0, .int 0, .int 0, .int 0, .int 0, .int 0, .int 0, .int 0])), (z12, .inr (8, [.ref z25, .ref z26, .ref z27, .ref z28, .ref z29, .ref z30, .ref z31, .ref z32, .ref z33, .int 0, .int 0, .int 0, .int 0])), (z34, .inl (T 0, 64, .inl (fl (-1) 64 (fun _ => 0))))]) (r_runV (As := []) (rest := []) (wc := [(z1, .inr (10, [.ref z3, .ref z4, .ref z5, .ref z6, .ref z7, .ref z8, .ref z9, .ref z10, .ref z11, .ref z12, .ref z13, .int 1, .int (-1), .int 0, .int (-1)])), (z5, .inr (0, [.ref z14, .ref z15, .ref z16, .ref z17, .ref z18, .ref z19, .int 0])), (z6, .inr (2, [.ref z34, .ref z35, .ref z36, .ref z37, .ref z38, .ref z39, .ref z40, .ref z41, .int 0, .int 1, .int 1, .int 0]))]) (ci := 10) C0 hE (c_X10_broughtUp_1188 l D T s.heap.size z1 z3 z4 z5 z6 z7 z8 z9 z10 z11 z12 z13 z14 z15 z16 z17 z18 z19 z34 z35 z36 z37 z38 z39 z40 z41) mw_558 mw_559 mw_560 mw_7 mw_561 dn_557 rfl rfl ⟨Nat.le_of_ble_eq_true rfl, Nat.le_of_ble_eq_true rfl⟩ (hP.sub (ws' := [(z1, .inr (10, [.ref z3, .ref z4, .ref z5, .ref z6, .ref z7, .ref z8, .ref z9, .ref z10, .ref z11, .ref z12, .ref z13, .int 1, .int (-1), .int 0, .int (-1)])), (z5, .inr (0, [.ref z14, .ref z15, .ref z16, .ref z17, .ref z18, .ref z19, .int 0])), (z6, .inr (2, [.ref z34, .ref z35, .ref z36, .ref z37, .ref z38, .ref z39, .ref z40, .ref z41, .int 0, .int 1, .int 1, .int 0]))]) [0, 1, 4] rfl) (hD.sub (ws' := [(z1, .inr (10, [.ref z3, .ref z4, .ref z5, .ref z6, .ref z7, .ref z8, .ref z9, .ref z10, .ref z11, .ref z12, .ref z13, .int 1, .int (-1), .int 0, .int (-1)])), (z5, .inr (0, [.ref z14, .ref z15, .ref z16, .ref z17, .ref z18, .ref z19, .int 0])), (z6, .inr (2, [.ref z34, .ref z35, .ref z36, .ref z37, .ref z38, .ref z39, .ref z40, .ref z41, .int 0, .int 1, .int 1, .int 0]))]) [0, 1, 4] (by decide +kernel) rfl) rfl rfl rfl hl.1 rfl (Nat.le_of_ble_eq_true rfl) dX10_all_71 ⟨Nat.le_of_ble_eq_true rfl, Nat.le_of_ble_eq_true rfl⟩) hP hD hS hA [0, 1, 4] [2, 3, 5] rfl rfl (by decide +kernel) (by decide +kernel) (fun  u H locs hP hD hS => ?_)
            have hP : va_P D vwCl [(z11, .inr (4, [.ref z20, .ref z21, .ref z22, .ref z23, .ref z24, .int 0, .int 0, .int 0, .int 0, .int 0, .int 0, .int 0, .int 0, .int 0])), (z12, .inr (8, [.ref z25, .ref z26, .ref z27, .ref z28, .ref z29, .ref z30, .ref z31, .ref z32, .ref z33, .int 0, .int 0, .int 0, .int 0])), (z34, .inl (T 0, 64, .inl (fl (-1) 64 (fun _ => 0)))), (z6, .inr (2, [.ref z34, .ref z35, .ref z36, .ref z37, .ref z38, .ref z39, .ref z40, .ref z41, .int 0, .int 1, .int 1, .int 0])), (z1, .inr (10, [.ref z3, .ref z4, .ref z5, .ref z6, .ref z7, .ref z8, .ref z9, .ref z10, .ref z11, .ref z12, .ref z13, .int 1, .int (-1), .int 0, .int (-1)])), (z5, .inr (0, [.ref z14, .ref z15, .ref z16, .ref z17, .ref z18, .ref z19, .int 0]))] H := hP
            have hD : va_D A [(z11, .inr (4, [.ref z20, .ref z21, .ref z22, .ref z23, .ref z24, .int 0, .int 0, .int 0, .int 0, .int 0, .int 0, .int 0, .int 0, .int 0])), (z12, .inr (8, [.ref z25, .ref z26, .ref z27, .ref z28, .ref z29, .ref z30, .ref z31, .ref z32, .ref z33, .int 0, .int 0, .int 0, .int 0])), (z34, .inl (T 0, 64, .inl (fl (-1) 64 (fun _ => 0)))), (z6, .inr (2, [.ref z34, .ref z35, .ref z36, .ref z37, .ref z38, .ref z39, .ref z40, .ref z41, .int 0, .int 1, .int 1, .int 0])), (z1, .inr (10, [.ref z3, .ref z4, .ref z5, .ref z6, .ref z7, .ref z8, .ref z9, .ref z10, .ref z11, .ref z12, .ref z13, .int 1, .int (-1), .int 0, .int (-1)])), (z5, .inr (0, [.ref z14, .ref z15, .ref z16, .ref z17, .ref z18, .ref z19, .int 0]))] := hD
            refine W.eq (g2 := F0 m 74 ls [.ref z6]) rfl ?_
            refine W.widen (k := 0) (n := 0) (Nat.le_of_ble_eq_true rfl) (Nat.le_of_ble_eq_true rfl) ?_
            refine r_calli (wr := [(z11, .inr (4, [.ref z20, .ref z21, .ref z22, .ref z23, .ref z24, .int 0, .int 0, .int 0, .int 0, .int 0, .int 0, .int 0, .int 0, .int 0])), (z12, .inr (8, [.ref z25, .ref z26, .ref z27, .ref z28, .ref z29, .ref z30, .ref z31, .ref z32, .ref z33, .int 0, .int 0, .int 0, .int 0])), (z1, .inr (10, [.ref z3, .ref z4, .ref z5, .ref z6, .ref z7, .ref z8, .ref z9, .ref z10, .ref z11, .ref z12, .ref z13, .int 1, .int (-1), .int 0, .int (-1)])), (z5, .inr (0, [.ref z14, .ref z15, .ref z16, .ref z17, .ref z18, .ref z19, .int 0]))]) (r_runV (As := []) (rest := []) (wc := [(z6, .inr (2, [.ref z34, .ref z35, .ref z36, .ref z37, .ref z38, .ref z39, .ref z40, .ref z41, .int 0, .int 1, .int 1, .int 0])), (z34, .inl (T 0, 64, .inl (fl (-1) 64 (fun _ => 0))))]) (ci := 2) C0 hE (c_X2_countHooks_1611 l D T H.size z6 z34 z35 z36 z37 z38 z39 z40 z41) mw_638 mw_639 mw_640 mw_64 mw_641 dn_637 rfl rfl ⟨Nat.le_of_ble_eq_true rfl, Nat.le_of_ble_eq_true rfl⟩ (hP.sub (ws' := [(z6, .inr (2, [.ref z34, .ref z35, .ref z36, .ref z37, .ref z38, .ref z39, .ref z40, .ref z41, .int 0, .int 1, .int 1, .int 0])), (z34, .inl (T 0, 64, .inl (fl (-1) 64 (fun _ => 0))))]) [3, 2] rfl) (hD.sub (ws' := [(z6, .inr (2, [.ref z34, .ref z35, .ref z36, .ref z37, .ref z38, .ref z39, .ref z40, .ref z41, .int 0, .int 1, .int 1, .int 0])), (z34, .inl (T 0, 64, .inl (fl (-1) 64 (fun _ => 0))))]) [3, 2] (by decide +kernel) rfl) rfl rfl rfl hl.1 rfl (Nat.le_of_ble_eq_true rfl) dX10_all_74 ⟨Nat.le_of_ble_eq_true rfl, Nat.le_of_ble_eq_true rfl⟩) hP hD hS hA [3, 2] [0, 1, 4, 5] rfl rfl (by decide +kernel) (by decide +kernel) (fun r1624 u H locs hq hP hD hS => ?_)
            have hq : r1624 = 0 := hq
            subst hq
            have hP : va_P D vwCl [(z11, .inr (4, [.ref z20, .ref z21, .ref z22, .ref z23, .ref z24, .int 0, .int 0, .int 0, .int 0, .int 0, .int 0, .int 0, .int 0, .int 0])), (z12, .inr (8, [.ref z25, .ref z26, .ref z27, .ref z28, .ref z29, .ref z30, .ref z31, .ref z32, .ref z33, .int 0, .int 0, .int 0, .int 0])), (z1, .inr (10, [.ref z3, .ref z4, .ref z5, .ref z6, .ref z7, .ref z8, .ref z9, .ref z10, .ref z11, .ref z12, .ref z13, .int 1, .int (-1), .int 0, .int (-1)])), (z5, .inr (0, [.ref z14, .ref z15, .ref z16, .ref z17, .ref z18, .ref z19, .int 0])), (z6, .inr (2, [.ref z34, .ref z35, .ref z36, .ref z37, .ref z38, .ref z39, .ref z40, .ref z41, .int 0, .int 1, .int 1, .int 0])), (z34, .inl (T 0, 64, .inl (fl (-1) 64 (fun _ => 0))))] H := hP
            have hD : va_D A [(z11, .inr (4, [.ref z20, .ref z21, .ref z22, .ref z23, .ref z24, .int 0, .int 0, .int 0, .int 0, .int 0, .int 0, .int 0, .int 0, .int 0])), (z12, .inr (8, [.ref z25, .ref z26, .ref z27, .ref z28, .ref z29, .ref z30, .ref z31, .ref z32, .ref z33, .int 0, .int 0, .int 0, .int 0])), (z1, .inr (10, [.ref z3, .ref z4, .ref z5, .ref z6, .ref z7, .ref z8, .ref z9, .ref z10, .ref z11, .ref z12, .ref z13, .int 1, .int (-1), .int 0, .int (-1)])), (z5, .inr (0, [.ref z14, .ref z15, .ref z16, .ref z17, .ref z18, .ref z19, .int 0])), (z6, .inr (2, [.ref z34, .ref z35, .ref z36, .ref z37, .ref z38, .ref z39, .ref z40, .ref z41, .int 0, .int 1, .int 1, .int 0])), (z34, .inl (T 0, 64, .inl (fl (-1) 64 (fun _ => 0))))] := hD
            refine W.widen (k := 0) (n := 0) (Nat.le_of_ble_eq_true rfl) (Nat.le_of_ble_eq_true rfl) ?_
            exact r_iret () C0 hr hlocks hS (Nat.le_of_ble_eq_true rfl) (Nat.le_of_ble_eq_true rfl) dX10_all_77 (by first | rfl | decide +kernel | simp [bi, FO, TS, c_1615, c_1615, c_1616, c_1615, c_1616, c_1617, c_1615, c_1616, c_1617, c_1618]) P_nil D_nil
          · skip
            by_cases c_1625 : z2 = 5
            · skip
              subst c_1625
              refine lv_tableIn (tgt := 78) hx hb dX10_all_1 (by decide +kernel) (by decide +kernel) rfl (by decide) ?_
              refine lv_aload_n hx hb dX10_all_78 rfl (lv_at hl 0 rfl) ?_
              refine r_get (v := .ref z11) C0 hE ffX10_8 mw_219 hP 0 rfl rfl dX10_all_79 ?_
              refine r_get (v := .int 0) C0 hE ffX4_5 mw_603 hP 2 rfl rfl dX10_all_82 ?_
              exact r_iret () C0 hr hlocks hS (Nat.le_of_ble_eq_true rfl) (Nat.le_of_ble_eq_true rfl) dX10_all_85 (by first | rfl | decide +kernel | simp [bi, FO, TS, c_1615, c_1615, c_1616, c_1615, c_1616, c_1617, c_1615, c_1616, c_1617, c_1618, c_1615, c_1616, c_1617, c_1618, c_1620]) P_nil D_nil
            · skip
              by_cases c_1626 : z2 = 6
              · skip
                subst c_1626
                refine lv_tableIn (tgt := 86) hx hb dX10_all_1 (by decide +kernel) (by decide +kernel) rfl (by decide) ?_
                refine lv_aload_n hx hb dX10_all_86 rfl (lv_at hl 0 rfl) ?_
                refine r_get (v := .ref z11) C0 hE ffX10_8 mw_219 hP 0 rfl rfl dX10_all_87 ?_
                refine r_get (v := .int 0) C0 hE ffX4_6 mw_604 hP 2 rfl rfl dX10_all_90 ?_
                exact r_iret () C0 hr hlocks hS (Nat.le_of_ble_eq_true rfl) (Nat.le_of_ble_eq_true rfl) dX10_all_93 (by first | rfl | decide +kernel | simp [bi, FO, TS, c_1615, c_1615, c_1616, c_1615, c_1616, c_1617, c_1615, c_1616, c_1617, c_1618, c_1615, c_1616, c_1617, c_1618, c_1620, c_1615, c_1616, c_1617, c_1618, c_1620, c_1625]) P_nil D_nil
              · skip
                have nc_1615 := lv_neT (a := 0) c_1615 (by decide +kernel)
                have nc_1616 := lv_neT (a := 1) c_1616 (by decide +kernel)
                have nc_1617 := lv_neT (a := 2) c_1617 (by decide +kernel)
                have nc_1618 := lv_neT (a := 3) c_1618 (by decide +kernel)
                have nc_1620 := lv_neT (a := 4) c_1620 (by decide +kernel)
                have nc_1625 := lv_neT (a := 5) c_1625 (by decide +kernel)
                have nc_1626 := lv_neT (a := 6) c_1626 (by decide +kernel)
                refine lv_tableOut (tgt := 94) hx hb dX10_all_1 (by omega) (by decide) ?_
                refine lv_iconst (v := (-1)) hx hb dX10_all_94 (by decide) ?_
                exact r_iret () C0 hr hlocks hS (Nat.le_of_ble_eq_true rfl) (Nat.le_of_ble_eq_true rfl) dX10_all_95 (by first | rfl | decide +kernel | simp [bi, FO, TS, c_1615, c_1615, c_1616, c_1615, c_1616, c_1617, c_1615, c_1616, c_1617, c_1618, c_1615, c_1616, c_1617, c_1618, c_1620, c_1615, c_1616, c_1617, c_1618, c_1620, c_1625, c_1615, c_1616, c_1617, c_1618, c_1620, c_1625, c_1626]) P_nil D_nil
set_option maxHeartbeats 4000000 in
set_option maxRecDepth 100000 in
theorem sg_1708 {p : Program} {l : Launch} {e : Env} {s : State} {m : MethodId} {args : Array Value} {below : List Frame} {meth : Method} {c : Code} {H : Heap} {locs : List Loc} {Q : State → Prop} {D : va_G} {T : Nat → ClassId} {A : Nat → Prop} {ls : Array Slot} (z1 : Nat) (z2 : Int32) (z3 : Int32) (z4 : Int32) (z5 : Int32) (z6 : Int32) (z7 : Nat) (z8 : Nat) (z9 : Nat) (z10 : Nat) (z11 : Nat) (z12 : Nat) (z13 : Nat) (z14 : Nat) (z15 : Nat) (z16 : Nat) (z17 : Nat) (z18 : Nat) (z19 : Nat) (z20 : Nat) (z21 : Nat) (z22 : Nat) (z23 : Nat) (z24 : Nat) (z25 : Nat) (z26 : Nat) (z27 : Nat) (z28 : Nat) (z29 : Nat) (z30 : Nat) (z31 : Nat) (z32 : Nat) (z33 : Nat) (z34 : Nat) (z35 : Nat) (z36 : Nat) (z37 : Nat) (z38 : Nat) (z39 : Nat) (z40 : Nat) (z41 : Nat) (z42 : Nat) (z43 : Nat) (z44 : Nat) (z45 : Nat) (z46 : Nat) (z47 : Nat) (z48 : Nat) (z49 : Nat) (z50 : Nat) (z51 : Nat) (z52 : Nat) (z53 : Nat) (z54 : Nat) (z55 : Nat) (z56 : Nat) (z57 : Nat) (z58 : Nat) (z59 : Nat) (z60 : Nat) (z61 : Nat) (z62 : Nat) (z63 : Nat) (z64 : Nat) (z65 : Nat) (z66 : Nat) (z67 : Nat) (z68 : Nat) (z69 : Nat) (z70 : Nat) (z71 : Nat) (z72 : Nat) (z73 : Nat) (z74 : Nat) (z75 : Nat) (z76 : Nat) (z77 : Nat) (z78 : Nat) (C0 : CallFix p m c cX11_feed 8 s args TB yX11_feed.cls) (hE : EV D T s) (hnm : meth.name = yX11_feed.name) (hA : ∀ q, s.heap.size ≤ q → A q) (hP : va_P D vwCl [(z1, .inr (11, (.ref z7 :: .int 0 :: .int 0 :: .int 0 :: .int 0 :: .int 0 :: .int 0 :: .int 0 :: .int (-1) :: .ref z8 :: .ref z9 :: .ref z10 :: .ref z11 :: .ref z12 :: .ref z13 :: .ref z14 :: .ref z15 :: .ref z16 :: .ref z17 :: .ref z18 :: .ref z19 :: .ref z20 :: .ref z21 :: .ref z22 :: .ref z23 :: .ref z24 :: .ref z25 :: .ref z26 :: .ref z27 :: .ref z28 :: .int 0 :: .ref z29 :: .ref z30 :: .ref z31 :: .ref z32 :: .ref z33 :: .ref z34 :: .ref z35 :: .ref z36 :: .ref z37 :: .ref z38 :: .ref z39 :: .ref z40 :: .int 0 :: .ref z41 :: .int 0 :: .int 0 :: .int 0 :: .int 0 :: .int 1 :: .int 1 :: .int 0 :: .ref z42 :: .ref z43 :: .ref z44 :: .ref z45 :: .ref z46 :: .ref z47 :: .int (-1) :: .int (-1) :: .ref z48 :: .ref z49 :: .ref z50 :: .ref z51 :: .ref z52 :: .int 0 :: .ref z53 :: .ref z54 :: .int 0 :: .int (-1) :: .ref z55 :: .ref z56 :: .int 0 :: .ref z57 :: .ref z58 :: .ref z59 :: .ref z60 :: .ref z61 :: .int 0 :: .ref z62 :: .int 0 :: .int 0 :: .int 0 :: .ref z63 :: .ref z64 :: .ref z65 :: .ref z66 :: .int (-1) :: .ref z67 :: .ref z68 :: .ref z69 :: .ref z70 :: .int (-1) :: .ref z71 :: .ref z72 :: .ref z73 :: .int 0 :: .ref z74 :: .ref z75 :: .ref z76 :: .int 0 :: .ref z77 :: .ref z78 :: .int (-1) :: .int 0 :: []))), (z7, .inl (T 0, 700, .inl (fun _ => 0)))] H) (hD : va_D A [(z1, .inr (11, (.ref z7 :: .int 0 :: .int 0 :: .int 0 :: .int 0 :: .int 0 :: .int 0 :: .int 0 :: .int (-1) :: .ref z8 :: .ref z9 :: .ref z10 :: .ref z11 :: .ref z12 :: .ref z13 :: .ref z14 :: .ref z15 :: .ref z16 :: .ref z17 :: .ref z18 :: .ref z19 :: .ref z20 :: .ref z21 :: .ref z22 :: .ref z23 :: .ref z24 :: .ref z25 :: .ref z26 :: .ref z27 :: .ref z28 :: .int 0 :: .ref z29 :: .ref z30 :: .ref z31 :: .ref z32 :: .ref z33 :: .ref z34 :: .ref z35 :: .ref z36 :: .ref z37 :: .ref z38 :: .ref z39 :: .ref z40 :: .int 0 :: .ref z41 :: .int 0 :: .int 0 :: .int 0 :: .int 0 :: .int 1 :: .int 1 :: .int 0 :: .ref z42 :: .ref z43 :: .ref z44 :: .ref z45 :: .ref z46 :: .ref z47 :: .int (-1) :: .int (-1) :: .ref z48 :: .ref z49 :: .ref z50 :: .ref z51 :: .ref z52 :: .int 0 :: .ref z53 :: .ref z54 :: .int 0 :: .int (-1) :: .ref z55 :: .ref z56 :: .int 0 :: .ref z57 :: .ref z58 :: .ref z59 :: .ref z60 :: .ref z61 :: .int 0 :: .ref z62 :: .int 0 :: .int 0 :: .int 0 :: .ref z63 :: .ref z64 :: .ref z65 :: .ref z66 :: .int (-1) :: .ref z67 :: .ref z68 :: .ref z69 :: .ref z70 :: .int (-1) :: .ref z71 :: .ref z72 :: .ref z73 :: .int 0 :: .ref z74 :: .ref z75 :: .ref z76 :: .int 0 :: .ref z77 :: .ref z78 :: .int (-1) :: .int 0 :: []))), (z7, .inl (T 0, 700, .inl (fun _ => 0)))]) (hS : va_S A s.heap H locs) (hl : lv_has ls 8 [(0, .ref z1), (1, .int z2), (2, .int z3), (3, .int z4), (4, .int z5), (5, .int z6)])
    (kk : ∀ (x1705 : Int32) (x1706 : Int32) (f1707 : Nat → Int32) (H : Heap) (locs : List Loc) (ls : Array Slot), va_P D vwCl [(z1, .inr (11, (.ref z7 :: .int 1 :: .int 0 :: .int 0 :: .int 0 :: .int 0 :: .int 0 :: .int 0 :: .int (-1) :: .ref z8 :: .ref z9 :: .ref z10 :: .ref z11 :: .ref z12 :: .ref z13 :: .ref z14 :: .ref z15 :: .ref z16 :: .ref z17 :: .ref z18 :: .ref z19 :: .ref z20 :: .ref z21 :: .ref z22 :: .ref z23 :: .ref z24 :: .ref z25 :: .ref z26 :: .ref z27 :: .ref z28 :: .int 0 :: .ref z29 :: .ref z30 :: .ref z31 :: .ref z32 :: .ref z33 :: .ref z34 :: .ref z35 :: .ref z36 :: .ref z37 :: .ref z38 :: .ref z39 :: .ref z40 :: .int 0 :: .ref z41 :: .int 0 :: .int 0 :: .int 0 :: .int 0 :: .int 1 :: .int 1 :: .int 0 :: .ref z42 :: .ref z43 :: .ref z44 :: .ref z45 :: .ref z46 :: .ref z47 :: .int (-1) :: .int (-1) :: .ref z48 :: .ref z49 :: .ref z50 :: .ref z51 :: .ref z52 :: .int 0 :: .ref z53 :: .ref z54 :: .int 0 :: .int (-1) :: .ref z55 :: .ref z56 :: .int 0 :: .ref z57 :: .ref z58 :: .ref z59 :: .ref z60 :: .ref z61 :: .int 0 :: .ref z62 :: .int 0 :: .int 0 :: .int 0 :: .ref z63 :: .ref z64 :: .ref z65 :: .ref z66 :: .int (-1) :: .ref z67 :: .ref z68 :: .ref z69 :: .ref z70 :: .int (-1) :: .ref z71 :: .ref z72 :: .ref z73 :: .int 0 :: .ref z74 :: .ref z75 :: .ref z76 :: .int 0 :: .ref z77 :: .ref z78 :: .int (-1) :: .int 0 :: []))), (z7, .inl (T 0, 700, .inl f1707))] H → va_D A [(z1, .inr (11, (.ref z7 :: .int 1 :: .int 0 :: .int 0 :: .int 0 :: .int 0 :: .int 0 :: .int 0 :: .int (-1) :: .ref z8 :: .ref z9 :: .ref z10 :: .ref z11 :: .ref z12 :: .ref z13 :: .ref z14 :: .ref z15 :: .ref z16 :: .ref z17 :: .ref z18 :: .ref z19 :: .ref z20 :: .ref z21 :: .ref z22 :: .ref z23 :: .ref z24 :: .ref z25 :: .ref z26 :: .ref z27 :: .ref z28 :: .int 0 :: .ref z29 :: .ref z30 :: .ref z31 :: .ref z32 :: .ref z33 :: .ref z34 :: .ref z35 :: .ref z36 :: .ref z37 :: .ref z38 :: .ref z39 :: .ref z40 :: .int 0 :: .ref z41 :: .int 0 :: .int 0 :: .int 0 :: .int 0 :: .int 1 :: .int 1 :: .int 0 :: .ref z42 :: .ref z43 :: .ref z44 :: .ref z45 :: .ref z46 :: .ref z47 :: .int (-1) :: .int (-1) :: .ref z48 :: .ref z49 :: .ref z50 :: .ref z51 :: .ref z52 :: .int 0 :: .ref z53 :: .ref z54 :: .int 0 :: .int (-1) :: .ref z55 :: .ref z56 :: .int 0 :: .ref z57 :: .ref z58 :: .ref z59 :: .ref z60 :: .ref z61 :: .int 0 :: .ref z62 :: .int 0 :: .int 0 :: .int 0 :: .ref z63 :: .ref z64 :: .ref z65 :: .ref z66 :: .int (-1) :: .ref z67 :: .ref z68 :: .ref z69 :: .ref z70 :: .int (-1) :: .ref z71 :: .ref z72 :: .ref z73 :: .int 0 :: .ref z74 :: .ref z75 :: .ref z76 :: .int 0 :: .ref z77 :: .ref z78 :: .int (-1) :: .int 0 :: []))), (z7, .inl (T 0, 700, .inl f1707))] → va_S A s.heap H locs → lv_has ls 8 [(6, .int 1), (7, .int z2), (0, .ref z1), (1, .int z2), (2, .int z3), (3, .int z4), (4, .int z5), (5, .int z6)] → W p l e { frames := 0, cells := 0, slots := 0, locals := 0 } s m args below meth c H locs 0 0 Q (F0 m 27 ls [.int 1])) : W p l e { frames := 0, cells := 0, slots := 0, locals := 0 } s m args below meth c H locs 0 0 Q (F0 m 0 ls []) := by
  have hx := C0.1
  have hb := C0.2.1
  have hml := C0.2.2.1
  have hown := C0.2.2.2.1
  have hT := C0.2.2.2.2
  have hK := hE.1
  refine lv_aload_n hx hb dX11_feed_0 rfl (lv_at hl 0 rfl) ?_
  refine r_get (v := .int 0) C0 hE ffX11_1 mw_642 hP 0 rfl rfl dX11_feed_1 ?_
  refine lv_bipush (v := 20) hx hb dX11_feed_4 (by decide) ?_
  refine lv_iadd hx hb dX11_feed_6 ?_
  refine r_ci (v := 20) (by decide +kernel) ?_
  refine lv_sipush (v := 700) hx hb dX11_feed_7 (by decide) ?_
  refine lv_icmp_le (tgt := 15) hx hb dX11_feed_10 (by decide) (fun _ => ?_) (fun hc => absurd (by decide +kernel) hc)
  refine lv_iconst (v := 0) hx hb dX11_feed_15 (by decide) ?_
  refine lv_istore (lv' := [(6, .int 0), (0, .ref z1), (1, .int z2), (2, .int z3), (3, .int z4), (4, .int z5), (5, .int z6)]) hx hb dX11_feed_16 hl (by decide) rfl (fun ls hl => ?_)
  refine lv_iload hx hb dX11_feed_18 (lv_at hl 0 rfl) ?_
  refine lv_bipush (v := 20) hx hb dX11_feed_20 (by decide) ?_
  refine lv_icmp_ge (tgt := 114) hx hb dX11_feed_22 (by decide) (fun hc => absurd hc (by decide +kernel)) (fun _ => ?_)
  refine lv_iload hx hb dX11_feed_25 (lv_at hl 0 rfl) ?_
  refine lv_iconst (v := 4) hx hb dX11_feed_27 (by decide) ?_
  refine lv_icmp_ge (tgt := 35) hx hb dX11_feed_28 (by decide) (fun hc => absurd hc (by decide +kernel)) (fun _ => ?_)
  refine lv_iload_n hx hb dX11_feed_31 rfl (lv_at hl 2 rfl) ?_
  refine lv_goto (tgt := 71) hx hb dX11_feed_32 (by decide) ?_
  refine lv_istore (lv' := [(7, .int z2), (6, .int 0), (0, .ref z1), (1, .int z2), (2, .int z3), (3, .int z4), (4, .int z5), (5, .int z6)]) hx hb dX11_feed_71 hl (by decide) rfl (fun ls hl => ?_)
  refine lv_aload_n hx hb dX11_feed_73 rfl (lv_at hl 2 rfl) ?_
  refine r_get (v := .ref z7) C0 hE ffX11_0 mw_310 hP 0 rfl rfl dX11_feed_74 ?_
  refine lv_aload_n hx hb dX11_feed_77 rfl (lv_at hl 2 rfl) ?_
  refine r_get (v := .int 0) C0 hE ffX11_1 mw_642 hP 0 rfl rfl dX11_feed_78 ?_
  refine lv_iload hx hb dX11_feed_81 (lv_at hl 0 rfl) ?_
  refine lv_bipush (v := 8) hx hb dX11_feed_83 (by decide) ?_
  refine lv_iconst (v := 3) hx hb dX11_feed_85 (by decide) ?_
  refine lv_iload hx hb dX11_feed_86 (lv_at hl 1 rfl) ?_
  refine lv_iconst (v := 4) hx hb dX11_feed_88 (by decide) ?_
  refine lv_irem hx hb dX11_feed_89 (by decide +kernel) ?_
  refine r_ci (v := 0) (by decide +kernel) ?_
  refine lv_isub hx hb dX11_feed_90 ?_
  refine r_ci (v := 3) (by decide +kernel) ?_
  refine lv_imul hx hb dX11_feed_91 ?_
  refine r_ci (v := 24) (by decide +kernel) ?_
  refine lv_ishr hx hb dX11_feed_92 ?_
  refine lv_topi (fun x1705 ex1705 => ?_)
  refine lv_sipush (v := 255) hx hb dX11_feed_93 (by decide) ?_
  refine lv_iand hx hb dX11_feed_96 ?_
  refine lv_topi (fun x1706 ex1706 => ?_)
  refine r_iastO hx hb hK hP hD hS 1 rfl (vp_lit (by decide +kernel)) dX11_feed_97 (fun f1707 H locs hP hD hS => ?_)
  have hP : va_P D vwCl [(z1, .inr (11, (.ref z7 :: .int 0 :: .int 0 :: .int 0 :: .int 0 :: .int 0 :: .int 0 :: .int 0 :: .int (-1) :: .ref z8 :: .ref z9 :: .ref z10 :: .ref z11 :: .ref z12 :: .ref z13 :: .ref z14 :: .ref z15 :: .ref z16 :: .ref z17 :: .ref z18 :: .ref z19 :: .ref z20 :: .ref z21 :: .ref z22 :: .ref z23 :: .ref z24 :: .ref z25 :: .ref z26 :: .ref z27 :: .ref z28 :: .int 0 :: .ref z29 :: .ref z30 :: .ref z31 :: .ref z32 :: .ref z33 :: .ref z34 :: .ref z35 :: .ref z36 :: .ref z37 :: .ref z38 :: .ref z39 :: .ref z40 :: .int 0 :: .ref z41 :: .int 0 :: .int 0 :: .int 0 :: .int 0 :: .int 1 :: .int 1 :: .int 0 :: .ref z42 :: .ref z43 :: .ref z44 :: .ref z45 :: .ref z46 :: .ref z47 :: .int (-1) :: .int (-1) :: .ref z48 :: .ref z49 :: .ref z50 :: .ref z51 :: .ref z52 :: .int 0 :: .ref z53 :: .ref z54 :: .int 0 :: .int (-1) :: .ref z55 :: .ref z56 :: .int 0 :: .ref z57 :: .ref z58 :: .ref z59 :: .ref z60 :: .ref z61 :: .int 0 :: .ref z62 :: .int 0 :: .int 0 :: .int 0 :: .ref z63 :: .ref z64 :: .ref z65 :: .ref z66 :: .int (-1) :: .ref z67 :: .ref z68 :: .ref z69 :: .ref z70 :: .int (-1) :: .ref z71 :: .ref z72 :: .ref z73 :: .int 0 :: .ref z74 :: .ref z75 :: .ref z76 :: .int 0 :: .ref z77 :: .ref z78 :: .int (-1) :: .int 0 :: []))), (z7, .inl (T 0, 700, .inl f1707))] H := hP
  have hD : va_D A [(z1, .inr (11, (.ref z7 :: .int 0 :: .int 0 :: .int 0 :: .int 0 :: .int 0 :: .int 0 :: .int 0 :: .int (-1) :: .ref z8 :: .ref z9 :: .ref z10 :: .ref z11 :: .ref z12 :: .ref z13 :: .ref z14 :: .ref z15 :: .ref z16 :: .ref z17 :: .ref z18 :: .ref z19 :: .ref z20 :: .ref z21 :: .ref z22 :: .ref z23 :: .ref z24 :: .ref z25 :: .ref z26 :: .ref z27 :: .ref z28 :: .int 0 :: .ref z29 :: .ref z30 :: .ref z31 :: .ref z32 :: .ref z33 :: .ref z34 :: .ref z35 :: .ref z36 :: .ref z37 :: .ref z38 :: .ref z39 :: .ref z40 :: .int 0 :: .ref z41 :: .int 0 :: .int 0 :: .int 0 :: .int 0 :: .int 1 :: .int 1 :: .int 0 :: .ref z42 :: .ref z43 :: .ref z44 :: .ref z45 :: .ref z46 :: .ref z47 :: .int (-1) :: .int (-1) :: .ref z48 :: .ref z49 :: .ref z50 :: .ref z51 :: .ref z52 :: .int 0 :: .ref z53 :: .ref z54 :: .int 0 :: .int (-1) :: .ref z55 :: .ref z56 :: .int 0 :: .ref z57 :: .ref z58 :: .ref z59 :: .ref z60 :: .ref z61 :: .int 0 :: .ref z62 :: .int 0 :: .int 0 :: .int 0 :: .ref z63 :: .ref z64 :: .ref z65 :: .ref z66 :: .int (-1) :: .ref z67 :: .ref z68 :: .ref z69 :: .ref z70 :: .int (-1) :: .ref z71 :: .ref z72 :: .ref z73 :: .int 0 :: .ref z74 :: .ref z75 :: .ref z76 :: .int 0 :: .ref z77 :: .ref z78 :: .int (-1) :: .int 0 :: []))), (z7, .inl (T 0, 700, .inl f1707))] := hD
  refine lv_aload_n hx hb dX11_feed_98 rfl (lv_at hl 2 rfl) ?_
  refine lv_dup hx hb dX11_feed_99 rfl ?_
  refine r_get (v := .int 0) C0 hE ffX11_1 mw_642 hP 0 rfl rfl dX11_feed_100 ?_
  refine lv_iconst (v := 1) hx hb dX11_feed_103 (by decide) ?_
  refine lv_iadd hx hb dX11_feed_104 ?_
  refine r_ci (v := 1) (by decide +kernel) ?_
  refine r_put (v := .int 1) (ty := .int) (fs1 := (.ref z7 :: .int 1 :: .int 0 :: .int 0 :: .int 0 :: .int 0 :: .int 0 :: .int 0 :: .int (-1) :: .ref z8 :: .ref z9 :: .ref z10 :: .ref z11 :: .ref z12 :: .ref z13 :: .ref z14 :: .ref z15 :: .ref z16 :: .ref z17 :: .ref z18 :: .ref z19 :: .ref z20 :: .ref z21 :: .ref z22 :: .ref z23 :: .ref z24 :: .ref z25 :: .ref z26 :: .ref z27 :: .ref z28 :: .int 0 :: .ref z29 :: .ref z30 :: .ref z31 :: .ref z32 :: .ref z33 :: .ref z34 :: .ref z35 :: .ref z36 :: .ref z37 :: .ref z38 :: .ref z39 :: .ref z40 :: .int 0 :: .ref z41 :: .int 0 :: .int 0 :: .int 0 :: .int 0 :: .int 1 :: .int 1 :: .int 0 :: .ref z42 :: .ref z43 :: .ref z44 :: .ref z45 :: .ref z46 :: .ref z47 :: .int (-1) :: .int (-1) :: .ref z48 :: .ref z49 :: .ref z50 :: .ref z51 :: .ref z52 :: .int 0 :: .ref z53 :: .ref z54 :: .int 0 :: .int (-1) :: .ref z55 :: .ref z56 :: .int 0 :: .ref z57 :: .ref z58 :: .ref z59 :: .ref z60 :: .ref z61 :: .int 0 :: .ref z62 :: .int 0 :: .int 0 :: .int 0 :: .ref z63 :: .ref z64 :: .ref z65 :: .ref z66 :: .int (-1) :: .ref z67 :: .ref z68 :: .ref z69 :: .ref z70 :: .int (-1) :: .ref z71 :: .ref z72 :: .ref z73 :: .int 0 :: .ref z74 :: .ref z75 :: .ref z76 :: .int 0 :: .ref z77 :: .ref z78 :: .int (-1) :: .int 0 :: [])) (ws1 := [(z1, .inr (11, (.ref z7 :: .int 1 :: .int 0 :: .int 0 :: .int 0 :: .int 0 :: .int 0 :: .int 0 :: .int (-1) :: .ref z8 :: .ref z9 :: .ref z10 :: .ref z11 :: .ref z12 :: .ref z13 :: .ref z14 :: .ref z15 :: .ref z16 :: .ref z17 :: .ref z18 :: .ref z19 :: .ref z20 :: .ref z21 :: .ref z22 :: .ref z23 :: .ref z24 :: .ref z25 :: .ref z26 :: .ref z27 :: .ref z28 :: .int 0 :: .ref z29 :: .ref z30 :: .ref z31 :: .ref z32 :: .ref z33 :: .ref z34 :: .ref z35 :: .ref z36 :: .ref z37 :: .ref z38 :: .ref z39 :: .ref z40 :: .int 0 :: .ref z41 :: .int 0 :: .int 0 :: .int 0 :: .int 0 :: .int 1 :: .int 1 :: .int 0 :: .ref z42 :: .ref z43 :: .ref z44 :: .ref z45 :: .ref z46 :: .ref z47 :: .int (-1) :: .int (-1) :: .ref z48 :: .ref z49 :: .ref z50 :: .ref z51 :: .ref z52 :: .int 0 :: .ref z53 :: .ref z54 :: .int 0 :: .int (-1) :: .ref z55 :: .ref z56 :: .int 0 :: .ref z57 :: .ref z58 :: .ref z59 :: .ref z60 :: .ref z61 :: .int 0 :: .ref z62 :: .int 0 :: .int 0 :: .int 0 :: .ref z63 :: .ref z64 :: .ref z65 :: .ref z66 :: .int (-1) :: .ref z67 :: .ref z68 :: .ref z69 :: .ref z70 :: .int (-1) :: .ref z71 :: .ref z72 :: .ref z73 :: .int 0 :: .ref z74 :: .ref z75 :: .ref z76 :: .int 0 :: .ref z77 :: .ref z78 :: .int (-1) :: .int 0 :: []))), (z7, .inl (T 0, 700, .inl f1707))]) C0 hE ffX11_1 tyX11 tyX11_ok nmX11 mw_642 pf_29 hP hD hS 0 rfl rfl rfl (Nat.le_of_ble_eq_true rfl) rfl rfl dX11_feed_105 (fun H locs hP hD hS => ?_)
  refine lv_iinc (v := 1) (lv' := [(6, .int 1), (7, .int z2), (0, .ref z1), (1, .int z2), (2, .int z3), (3, .int z4), (4, .int z5), (5, .int z6)]) hx hb dX11_feed_108 hl (k := 1) rfl (by decide +kernel) (by decide) rfl (fun ls hl => ?_)
  refine lv_goto (tgt := 18) hx hb dX11_feed_111 (by decide) ?_
  refine lv_iload hx hb dX11_feed_18 (lv_at hl 0 rfl) ?_
  refine lv_bipush (v := 20) hx hb dX11_feed_20 (by decide) ?_
  refine lv_icmp_ge (tgt := 114) hx hb dX11_feed_22 (by decide) (fun hc => absurd hc (by decide +kernel)) (fun _ => ?_)
  refine lv_iload hx hb dX11_feed_25 (lv_at hl 0 rfl) ?_
  exact kk x1705 x1706 f1707 H locs ls hP hD hS hl
set_option maxHeartbeats 4000000 in
set_option maxRecDepth 100000 in
theorem sg_1712 {p : Program} {l : Launch} {e : Env} {s : State} {m : MethodId} {args : Array Value} {below : List Frame} {meth : Method} {c : Code} {H : Heap} {locs : List Loc} {Q : State → Prop} {D : va_G} {T : Nat → ClassId} {A : Nat → Prop} {ls : Array Slot} (z1 : Nat) (z2 : Int32) (z3 : Int32) (z4 : Int32) (z5 : Int32) (z6 : Int32) (z7 : Nat) (z8 : Nat) (z9 : Nat) (z10 : Nat) (z11 : Nat) (z12 : Nat) (z13 : Nat) (z14 : Nat) (z15 : Nat) (z16 : Nat) (z17 : Nat) (z18 : Nat) (z19 : Nat) (z20 : Nat) (z21 : Nat) (z22 : Nat) (z23 : Nat) (z24 : Nat) (z25 : Nat) (z26 : Nat) (z27 : Nat) (z28 : Nat) (z29 : Nat) (z30 : Nat) (z31 : Nat) (z32 : Nat) (z33 : Nat) (z34 : Nat) (z35 : Nat) (z36 : Nat) (z37 : Nat) (z38 : Nat) (z39 : Nat) (z40 : Nat) (z41 : Nat) (z42 : Nat) (z43 : Nat) (z44 : Nat) (z45 : Nat) (z46 : Nat) (z47 : Nat) (z48 : Nat) (z49 : Nat) (z50 : Nat) (z51 : Nat) (z52 : Nat) (z53 : Nat) (z54 : Nat) (z55 : Nat) (z56 : Nat) (z57 : Nat) (z58 : Nat) (z59 : Nat) (z60 : Nat) (z61 : Nat) (z62 : Nat) (z63 : Nat) (z64 : Nat) (z65 : Nat) (z66 : Nat) (z67 : Nat) (z68 : Nat) (z69 : Nat) (z70 : Nat) (z71 : Nat) (z72 : Nat) (z73 : Nat) (z74 : Nat) (z75 : Nat) (z76 : Nat) (z77 : Nat) (z78 : Nat) (f1707 : Nat → Int32) (C0 : CallFix p m c cX11_feed 8 s args TB yX11_feed.cls) (hE : EV D T s) (hnm : meth.name = yX11_feed.name) (hA : ∀ q, s.heap.size ≤ q → A q) (hP : va_P D vwCl [(z1, .inr (11, (.ref z7 :: .int 1 :: .int 0 :: .int 0 :: .int 0 :: .int 0 :: .int 0 :: .int 0 :: .int (-1) :: .ref z8 :: .ref z9 :: .ref z10 :: .ref z11 :: .ref z12 :: .ref z13 :: .ref z14 :: .ref z15 :: .ref z16 :: .ref z17 :: .ref z18 :: .ref z19 :: .ref z20 :: .ref z21 :: .ref z22 :: .ref z23 :: .ref z24 :: .ref z25 :: .ref z26 :: .ref z27 :: .ref z28 :: .int 0 :: .ref z29 :: .ref z30 :: .ref z31 :: .ref z32 :: .ref z33 :: .ref z34 :: .ref z35 :: .ref z36 :: .ref z37 :: .ref z38 :: .ref z39 :: .ref z40 :: .int 0 :: .ref z41 :: .int 0 :: .int 0 :: .int 0 :: .int 0 :: .int 1 :: .int 1 :: .int 0 :: .ref z42 :: .ref z43 :: .ref z44 :: .ref z45 :: .ref z46 :: .ref z47 :: .int (-1) :: .int (-1) :: .ref z48 :: .ref z49 :: .ref z50 :: .ref z51 :: .ref z52 :: .int 0 :: .ref z53 :: .ref z54 :: .int 0 :: .int (-1) :: .ref z55 :: .ref z56 :: .int 0 :: .ref z57 :: .ref z58 :: .ref z59 :: .ref z60 :: .ref z61 :: .int 0 :: .ref z62 :: .int 0 :: .int 0 :: .int 0 :: .ref z63 :: .ref z64 :: .ref z65 :: .ref z66 :: .int (-1) :: .ref z67 :: .ref z68 :: .ref z69 :: .ref z70 :: .int (-1) :: .ref z71 :: .ref z72 :: .ref z73 :: .int 0 :: .ref z74 :: .ref z75 :: .ref z76 :: .int 0 :: .ref z77 :: .ref z78 :: .int (-1) :: .int 0 :: []))), (z7, .inl (T 0, 700, .inl f1707))] H) (hD : va_D A [(z1, .inr (11, (.ref z7 :: .int 1 :: .int 0 :: .int 0 :: .int 0 :: .int 0 :: .int 0 :: .int 0 :: .int (-1) :: .ref z8 :: .ref z9 :: .ref z10 :: .ref z11 :: .ref z12 :: .ref z13 :: .ref z14 :: .ref z15 :: .ref z16 :: .ref z17 :: .ref z18 :: .ref z19 :: .ref z20 :: .ref z21 :: .ref z22 :: .ref z23 :: .ref z24 :: .ref z25 :: .ref z26 :: .ref z27 :: .ref z28 :: .int 0 :: .ref z29 :: .ref z30 :: .ref z31 :: .ref z32 :: .ref z33 :: .ref z34 :: .ref z35 :: .ref z36 :: .ref z37 :: .ref z38 :: .ref z39 :: .ref z40 :: .int 0 :: .ref z41 :: .int 0 :: .int 0 :: .int 0 :: .int 0 :: .int 1 :: .int 1 :: .int 0 :: .ref z42 :: .ref z43 :: .ref z44 :: .ref z45 :: .ref z46 :: .ref z47 :: .int (-1) :: .int (-1) :: .ref z48 :: .ref z49 :: .ref z50 :: .ref z51 :: .ref z52 :: .int 0 :: .ref z53 :: .ref z54 :: .int 0 :: .int (-1) :: .ref z55 :: .ref z56 :: .int 0 :: .ref z57 :: .ref z58 :: .ref z59 :: .ref z60 :: .ref z61 :: .int 0 :: .ref z62 :: .int 0 :: .int 0 :: .int 0 :: .ref z63 :: .ref z64 :: .ref z65 :: .ref z66 :: .int (-1) :: .ref z67 :: .ref z68 :: .ref z69 :: .ref z70 :: .int (-1) :: .ref z71 :: .ref z72 :: .ref z73 :: .int 0 :: .ref z74 :: .ref z75 :: .ref z76 :: .int 0 :: .ref z77 :: .ref z78 :: .int (-1) :: .int 0 :: []))), (z7, .inl (T 0, 700, .inl f1707))]) (hS : va_S A s.heap H locs) (hl : lv_has ls 8 [(6, .int 1), (7, .int z2), (0, .ref z1), (1, .int z2), (2, .int z3), (3, .int z4), (4, .int z5), (5, .int z6)])
    (kk : ∀ (x1709 : Int32) (x1710 : Int32) (f1711 : Nat → Int32) (H : Heap) (locs : List Loc) (ls : Array Slot), va_P D vwCl [(z1, .inr (11, (.ref z7 :: .int 2 :: .int 0 :: .int 0 :: .int 0 :: .int 0 :: .int 0 :: .int 0 :: .int (-1) :: .ref z8 :: .ref z9 :: .ref z10 :: .ref z11 :: .ref z12 :: .ref z13 :: .ref z14 :: .ref z15 :: .ref z16 :: .ref z17 :: .ref z18 :: .ref z19 :: .ref z20 :: .ref z21 :: .ref z22 :: .ref z23 :: .ref z24 :: .ref z25 :: .ref z26 :: .ref z27 :: .ref z28 :: .int 0 :: .ref z29 :: .ref z30 :: .ref z31 :: .ref z32 :: .ref z33 :: .ref z34 :: .ref z35 :: .ref z36 :: .ref z37 :: .ref z38 :: .ref z39 :: .ref z40 :: .int 0 :: .ref z41 :: .int 0 :: .int 0 :: .int 0 :: .int 0 :: .int 1 :: .int 1 :: .int 0 :: .ref z42 :: .ref z43 :: .ref z44 :: .ref z45 :: .ref z46 :: .ref z47 :: .int (-1) :: .int (-1) :: .ref z48 :: .ref z49 :: .ref z50 :: .ref z51 :: .ref z52 :: .int 0 :: .ref z53 :: .ref z54 :: .int 0 :: .int (-1) :: .ref z55 :: .ref z56 :: .int 0 :: .ref z57 :: .ref z58 :: .ref z59 :: .ref z60 :: .ref z61 :: .int 0 :: .ref z62 :: .int 0 :: .int 0 :: .int 0 :: .ref z63 :: .ref z64 :: .ref z65 :: .ref z66 :: .int (-1) :: .ref z67 :: .ref z68 :: .ref z69 :: .ref z70 :: .int (-1) :: .ref z71 :: .ref z72 :: .ref z73 :: .int 0 :: .ref z74 :: .ref z75 :: .ref z76 :: .int 0 :: .ref z77 :: .ref z78 :: .int (-1) :: .int 0 :: []))), (z7, .inl (T 0, 700, .inl f1711))] H → va_D A [(z1, .inr (11, (.ref z7 :: .int 2 :: .int 0 :: .int 0 :: .int 0 :: .int 0 :: .int 0 :: .int 0 :: .int (-1) :: .ref z8 :: .ref z9 :: .ref z10 :: .ref z11 :: .ref z12 :: .ref z13 :: .ref z14 :: .ref z15 :: .ref z16 :: .ref z17 :: .ref z18 :: .ref z19 :: .ref z20 :: .ref z21 :: .ref z22 :: .ref z23 :: .ref z24 :: .ref z25 :: .ref z26 :: .ref z27 :: .ref z28 :: .int 0 :: .ref z29 :: .ref z30 :: .ref z31 :: .ref z32 :: .ref z33 :: .ref z34 :: .ref z35 :: .ref z36 :: .ref z37 :: .ref z38 :: .ref z39 :: .ref z40 :: .int 0 :: .ref z41 :: .int 0 :: .int 0 :: .int 0 :: .int 0 :: .int 1 :: .int 1 :: .int 0 :: .ref z42 :: .ref z43 :: .ref z44 :: .ref z45 :: .ref z46 :: .ref z47 :: .int (-1) :: .int (-1) :: .ref z48 :: .ref z49 :: .ref z50 :: .ref z51 :: .ref z52 :: .int 0 :: .ref z53 :: .ref z54 :: .int 0 :: .int (-1) :: .ref z55 :: .ref z56 :: .int 0 :: .ref z57 :: .ref z58 :: .ref z59 :: .ref z60 :: .ref z61 :: .int 0 :: .ref z62 :: .int 0 :: .int 0 :: .int 0 :: .ref z63 :: .ref z64 :: .ref z65 :: .ref z66 :: .int (-1) :: .ref z67 :: .ref z68 :: .ref z69 :: .ref z70 :: .int (-1) :: .ref z71 :: .ref z72 :: .ref z73 :: .int 0 :: .ref z74 :: .ref z75 :: .ref z76 :: .int 0 :: .ref z77 :: .ref z78 :: .int (-1) :: .int 0 :: []))), (z7, .inl (T 0, 700, .inl f1711))] → va_S A s.heap H locs → lv_has ls 8 [(7, .int z2), (6, .int 2), (0, .ref z1), (1, .int z2), (2, .int z3), (3, .int z4), (4, .int z5), (5, .int z6)] → W p l e { frames := 0, cells := 0, slots := 0, locals := 0 } s m args below meth c H locs 0 0 Q (F0 m 86 ls [.int 3, .int 8, .int z2, .int 2, .ref z7])) : W p l e { frames := 0, cells := 0, slots := 0, locals := 0 } s m args below meth c H locs 0 0 Q (F0 m 27 ls [.int 1]) := by
  have hx := C0.1
  have hb := C0.2.1
  have hml := C0.2.2.1
  have hown := C0.2.2.2.1
  have hT := C0.2.2.2.2
  have hK := hE.1
  refine lv_iconst (v := 4) hx hb dX11_feed_27 (by decide) ?_
  refine lv_icmp_ge (tgt := 35) hx hb dX11_feed_28 (by decide) (fun hc => absurd hc (by decide +kernel)) (fun _ => ?_)
  refine lv_iload_n hx hb dX11_feed_31 rfl (lv_at hl 3 rfl) ?_
  refine lv_goto (tgt := 71) hx hb dX11_feed_32 (by decide) ?_
  refine lv_istore (lv' := [(7, .int z2), (6, .int 1), (0, .ref z1), (1, .int z2), (2, .int z3), (3, .int z4), (4, .int z5), (5, .int z6)]) hx hb dX11_feed_71 hl (by decide) rfl (fun ls hl => ?_)
  refine lv_aload_n hx hb dX11_feed_73 rfl (lv_at hl 2 rfl) ?_
  refine r_get (v := .ref z7) C0 hE ffX11_0 mw_310 hP 0 rfl rfl dX11_feed_74 ?_
  refine lv_aload_n hx hb dX11_feed_77 rfl (lv_at hl 2 rfl) ?_
  refine r_get (v := .int 1) C0 hE ffX11_1 mw_642 hP 0 rfl rfl dX11_feed_78 ?_
  refine lv_iload hx hb dX11_feed_81 (lv_at hl 0 rfl) ?_
  refine lv_bipush (v := 8) hx hb dX11_feed_83 (by decide) ?_
  refine lv_iconst (v := 3) hx hb dX11_feed_85 (by decide) ?_
  refine lv_iload hx hb dX11_feed_86 (lv_at hl 1 rfl) ?_
  refine lv_iconst (v := 4) hx hb dX11_feed_88 (by decide) ?_
  refine lv_irem hx hb dX11_feed_89 (by decide +kernel) ?_
  refine r_ci (v := 1) (by decide +kernel) ?_
  refine lv_isub hx hb dX11_feed_90 ?_
  refine r_ci (v := 2) (by decide +kernel) ?_
  refine lv_imul hx hb dX11_feed_91 ?_
  refine r_ci (v := 16) (by decide +kernel) ?_
  refine lv_ishr hx hb dX11_feed_92 ?_
  refine lv_topi (fun x1709 ex1709 => ?_)
  refine lv_sipush (v := 255) hx hb dX11_feed_93 (by decide) ?_
  refine lv_iand hx hb dX11_feed_96 ?_
  refine lv_topi (fun x1710 ex1710 => ?_)
  refine r_iastO hx hb hK hP hD hS 1 rfl (vp_lit (by decide +kernel)) dX11_feed_97 (fun f1711 H locs hP hD hS => ?_)
  have hP : va_P D vwCl [(z1, .inr (11, (.ref z7 :: .int 1 :: .int 0 :: .int 0 :: .int 0 :: .int 0 :: .int 0 :: .int 0 :: .int (-1) :: .ref z8 :: .ref z9 :: .ref z10 :: .ref z11 :: .ref z12 :: .ref z13 :: .ref z14 :: .ref z15 :: .ref z16 :: .ref z17 :: .ref z18 :: .ref z19 :: .ref z20 :: .ref z21 :: .ref z22 :: .ref z23 :: .ref z24 :: .ref z25 :: .ref z26 :: .ref z27 :: .ref z28 :: .int 0 :: .ref z29 :: .ref z30 :: .ref z31 :: .ref z32 :: .ref z33 :: .ref z34 :: .ref z35 :: .ref z36 :: .ref z37 :: .ref z38 :: .ref z39 :: .ref z40 :: .int 0 :: .ref z41 :: .int 0 :: .int 0 :: .int 0 :: .int 0 :: .int 1 :: .int 1 :: .int 0 :: .ref z42 :: .ref z43 :: .ref z44 :: .ref z45 :: .ref z46 :: .ref z47 :: .int (-1) :: .int (-1) :: .ref z48 :: .ref z49 :: .ref z50 :: .ref z51 :: .ref z52 :: .int 0 :: .ref z53 :: .ref z54 :: .int 0 :: .int (-1) :: .ref z55 :: .ref z56 :: .int 0 :: .ref z57 :: .ref z58 :: .ref z59 :: .ref z60 :: .ref z61 :: .int 0 :: .ref z62 :: .int 0 :: .int 0 :: .int 0 :: .ref z63 :: .ref z64 :: .ref z65 :: .ref z66 :: .int (-1) :: .ref z67 :: .ref z68 :: .ref z69 :: .ref z70 :: .int (-1) :: .ref z71 :: .ref z72 :: .ref z73 :: .int 0 :: .ref z74 :: .ref z75 :: .ref z76 :: .int 0 :: .ref z77 :: .ref z78 :: .int (-1) :: .int 0 :: []))), (z7, .inl (T 0, 700, .inl f1711))] H := hP
  have hD : va_D A [(z1, .inr (11, (.ref z7 :: .int 1 :: .int 0 :: .int 0 :: .int 0 :: .int 0 :: .int 0 :: .int 0 :: .int (-1) :: .ref z8 :: .ref z9 :: .ref z10 :: .ref z11 :: .ref z12 :: .ref z13 :: .ref z14 :: .ref z15 :: .ref z16 :: .ref z17 :: .ref z18 :: .ref z19 :: .ref z20 :: .ref z21 :: .ref z22 :: .ref z23 :: .ref z24 :: .ref z25 :: .ref z26 :: .ref z27 :: .ref z28 :: .int 0 :: .ref z29 :: .ref z30 :: .ref z31 :: .ref z32 :: .ref z33 :: .ref z34 :: .ref z35 :: .ref z36 :: .ref z37 :: .ref z38 :: .ref z39 :: .ref z40 :: .int 0 :: .ref z41 :: .int 0 :: .int 0 :: .int 0 :: .int 0 :: .int 1 :: .int 1 :: .int 0 :: .ref z42 :: .ref z43 :: .ref z44 :: .ref z45 :: .ref z46 :: .ref z47 :: .int (-1) :: .int (-1) :: .ref z48 :: .ref z49 :: .ref z50 :: .ref z51 :: .ref z52 :: .int 0 :: .ref z53 :: .ref z54 :: .int 0 :: .int (-1) :: .ref z55 :: .ref z56 :: .int 0 :: .ref z57 :: .ref z58 :: .ref z59 :: .ref z60 :: .ref z61 :: .int 0 :: .ref z62 :: .int 0 :: .int 0 :: .int 0 :: .ref z63 :: .ref z64 :: .ref z65 :: .ref z66 :: .int (-1) :: .ref z67 :: .ref z68 :: .ref z69 :: .ref z70 :: .int (-1) :: .ref z71 :: .ref z72 :: .ref z73 :: .int 0 :: .ref z74 :: .ref z75 :: .ref z76 :: .int 0 :: .ref z77 :: .ref z78 :: .int (-1) :: .int 0 :: []))), (z7, .inl (T 0, 700, .inl f1711))] := hD
  refine lv_aload_n hx hb dX11_feed_98 rfl (lv_at hl 2 rfl) ?_
  refine lv_dup hx hb dX11_feed_99 rfl ?_
  refine r_get (v := .int 1) C0 hE ffX11_1 mw_642 hP 0 rfl rfl dX11_feed_100 ?_
  refine lv_iconst (v := 1) hx hb dX11_feed_103 (by decide) ?_
  refine lv_iadd hx hb dX11_feed_104 ?_
  refine r_ci (v := 2) (by decide +kernel) ?_
  refine r_put (v := .int 2) (ty := .int) (fs1 := (.ref z7 :: .int 2 :: .int 0 :: .int 0 :: .int 0 :: .int 0 :: .int 0 :: .int 0 :: .int (-1) :: .ref z8 :: .ref z9 :: .ref z10 :: .ref z11 :: .ref z12 :: .ref z13 :: .ref z14 :: .ref z15 :: .ref z16 :: .ref z17 :: .ref z18 :: .ref z19 :: .ref z20 :: .ref z21 :: .ref z22 :: .ref z23 :: .ref z24 :: .ref z25 :: .ref z26 :: .ref z27 :: .ref z28 :: .int 0 :: .ref z29 :: .ref z30 :: .ref z31 :: .ref z32 :: .ref z33 :: .ref z34 :: .ref z35 :: .ref z36 :: .ref z37 :: .ref z38 :: .ref z39 :: .ref z40 :: .int 0 :: .ref z41 :: .int 0 :: .int 0 :: .int 0 :: .int 0 :: .int 1 :: .int 1 :: .int 0 :: .ref z42 :: .ref z43 :: .ref z44 :: .ref z45 :: .ref z46 :: .ref z47 :: .int (-1) :: .int (-1) :: .ref z48 :: .ref z49 :: .ref z50 :: .ref z51 :: .ref z52 :: .int 0 :: .ref z53 :: .ref z54 :: .int 0 :: .int (-1) :: .ref z55 :: .ref z56 :: .int 0 :: .ref z57 :: .ref z58 :: .ref z59 :: .ref z60 :: .ref z61 :: .int 0 :: .ref z62 :: .int 0 :: .int 0 :: .int 0 :: .ref z63 :: .ref z64 :: .ref z65 :: .ref z66 :: .int (-1) :: .ref z67 :: .ref z68 :: .ref z69 :: .ref z70 :: .int (-1) :: .ref z71 :: .ref z72 :: .ref z73 :: .int 0 :: .ref z74 :: .ref z75 :: .ref z76 :: .int 0 :: .ref z77 :: .ref z78 :: .int (-1) :: .int 0 :: [])) (ws1 := [(z1, .inr (11, (.ref z7 :: .int 2 :: .int 0 :: .int 0 :: .int 0 :: .int 0 :: .int 0 :: .int 0 :: .int (-1) :: .ref z8 :: .ref z9 :: .ref z10 :: .ref z11 :: .ref z12 :: .ref z13 :: .ref z14 :: .ref z15 :: .ref z16 :: .ref z17 :: .ref z18 :: .ref z19 :: .ref z20 :: .ref z21 :: .ref z22 :: .ref z23 :: .ref z24 :: .ref z25 :: .ref z26 :: .ref z27 :: .ref z28 :: .int 0 :: .ref z29 :: .ref z30 :: .ref z31 :: .ref z32 :: .ref z33 :: .ref z34 :: .ref z35 :: .ref z36 :: .ref z37 :: .ref z38 :: .ref z39 :: .ref z40 :: .int 0 :: .ref z41 :: .int 0 :: .int 0 :: .int 0 :: .int 0 :: .int 1 :: .int 1 :: .int 0 :: .ref z42 :: .ref z43 :: .ref z44 :: .ref z45 :: .ref z46 :: .ref z47 :: .int (-1) :: .int (-1) :: .ref z48 :: .ref z49 :: .ref z50 :: .ref z51 :: .ref z52 :: .int 0 :: .ref z53 :: .ref z54 :: .int 0 :: .int (-1) :: .ref z55 :: .ref z56 :: .int 0 :: .ref z57 :: .ref z58 :: .ref z59 :: .ref z60 :: .ref z61 :: .int 0 :: .ref z62 :: .int 0 :: .int 0 :: .int 0 :: .ref z63 :: .ref z64 :: .ref z65 :: .ref z66 :: .int (-1) :: .ref z67 :: .ref z68 :: .ref z69 :: .ref z70 :: .int (-1) :: .ref z71 :: .ref z72 :: .ref z73 :: .int 0 :: .ref z74 :: .ref z75 :: .ref z76 :: .int 0 :: .ref z77 :: .ref z78 :: .int (-1) :: .int 0 :: []))), (z7, .inl (T 0, 700, .inl f1711))]) C0 hE ffX11_1 tyX11 tyX11_ok nmX11 mw_642 pf_29 hP hD hS 0 rfl rfl rfl (Nat.le_of_ble_eq_true rfl) rfl rfl dX11_feed_105 (fun H locs hP hD hS => ?_)
  refine lv_iinc (v := 2) (lv' := [(6, .int 2), (7, .int z2), (0, .ref z1), (1, .int z2), (2, .int z3), (3, .int z4), (4, .int z5), (5, .int z6)]) hx hb dX11_feed_108 hl (k := 1) rfl (by decide +kernel) (by decide) rfl (fun ls hl => ?_)
  refine lv_goto (tgt := 18) hx hb dX11_feed_111 (by decide) ?_
  refine lv_iload hx hb dX11_feed_18 (lv_at hl 0 rfl) ?_
  refine lv_bipush (v := 20) hx hb dX11_feed_20 (by decide) ?_
  refine lv_icmp_ge (tgt := 114) hx hb dX11_feed_22 (by decide) (fun hc => absurd hc (by decide +kernel)) (fun _ => ?_)
  refine lv_iload hx hb dX11_feed_25 (lv_at hl 0 rfl) ?_
  refine lv_iconst (v := 4) hx hb dX11_feed_27 (by decide) ?_
  refine lv_icmp_ge (tgt := 35) hx hb dX11_feed_28 (by decide) (fun hc => absurd hc (by decide +kernel)) (fun _ => ?_)
  refine lv_iload_n hx hb dX11_feed_31 rfl (lv_at hl 3 rfl) ?_
  refine lv_goto (tgt := 71) hx hb dX11_feed_32 (by decide) ?_
  refine lv_istore (lv' := [(7, .int z2), (6, .int 2), (0, .ref z1), (1, .int z2), (2, .int z3), (3, .int z4), (4, .int z5), (5, .int z6)]) hx hb dX11_feed_71 hl (by decide) rfl (fun ls hl => ?_)
  refine lv_aload_n hx hb dX11_feed_73 rfl (lv_at hl 2 rfl) ?_
  refine r_get (v := .ref z7) C0 hE ffX11_0 mw_310 hP 0 rfl rfl dX11_feed_74 ?_
  refine lv_aload_n hx hb dX11_feed_77 rfl (lv_at hl 2 rfl) ?_
  refine r_get (v := .int 2) C0 hE ffX11_1 mw_642 hP 0 rfl rfl dX11_feed_78 ?_
  refine lv_iload hx hb dX11_feed_81 (lv_at hl 0 rfl) ?_
  refine lv_bipush (v := 8) hx hb dX11_feed_83 (by decide) ?_
  refine lv_iconst (v := 3) hx hb dX11_feed_85 (by decide) ?_
  exact kk x1709 x1710 f1711 H locs ls hP hD hS hl
