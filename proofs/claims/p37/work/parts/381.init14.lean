set_option maxHeartbeats 4000000 in
set_option maxRecDepth 100000 in
theorem c_X10_within_706 (l : Launch) (D : va_G) (T : Nat → ClassId) (sz : Nat) (z1 : Int32) : Met l yX10_within (.code yX10_within cX10_within 3 (some .boolean) :: TB) { frames := 0, cells := 0, slots := 0, locals := 0 } (PC D T [.int z1, .int 1, .int 50] [] sz) (Qi (S := Unit) (fun (r : Int32) (_ : Unit) => r = (bi (wi z1 1 50))) (fun (_ : Unit) => []) D (va_A [] sz)) 0 0 (va_A [] sz) := by
  refine ct_begin (Qc := Qi (S := Unit) (fun (r : Int32) (_ : Unit) => r = (bi (wi z1 1 50))) (fun (_ : Unit) => []) D) (by decide +kernel) (Nat.le_of_ble_eq_true rfl) ?_
  intro p e s m below meth c A ls C0 hr hlocks hnm hE hA hP hD hS hl
  have hx := C0.1
  have hb := C0.2.1
  have hml := C0.2.2.1
  have hown := C0.2.2.2.1
  have hT := C0.2.2.2.2
  have hK := hE.1
  have hl : lv_has ls 3 [(0, .int z1), (1, .int 1), (2, .int 50)] := hl
  refine lv_iload_n hx hb dX10_within_0 rfl (lv_at hl 0 rfl) ?_
  refine lv_iload_n hx hb dX10_within_1 rfl (lv_at hl 1 rfl) ?_
  refine lv_icmp_lt (tgt := 14) hx hb dX10_within_2 (by decide) (fun c_704 => ?_) (fun c_704 => ?_)
  · skip
    refine lv_iconst (v := 0) hx hb dX10_within_14 (by decide) ?_
    exact r_zret () C0 hr (by decide +kernel) hlocks hS (Nat.le_of_ble_eq_true rfl) (Nat.le_of_ble_eq_true rfl) dX10_within_15 (wi_a c_704) P_nil D_nil
  · skip
    refine lv_iload_n hx hb dX10_within_5 rfl (lv_at hl 0 rfl) ?_
    refine lv_iload_n hx hb dX10_within_6 rfl (lv_at hl 2 rfl) ?_
    refine lv_icmp_gt (tgt := 14) hx hb dX10_within_7 (by decide) (fun c_705 => ?_) (fun c_705 => ?_)
    · skip
      refine lv_iconst (v := 0) hx hb dX10_within_14 (by decide) ?_
      exact r_zret () C0 hr (by decide +kernel) hlocks hS (Nat.le_of_ble_eq_true rfl) (Nat.le_of_ble_eq_true rfl) dX10_within_15 (wi_b c_705) P_nil D_nil
    · skip
      refine lv_iconst (v := 1) hx hb dX10_within_10 (by decide) ?_
      refine lv_goto (tgt := 15) hx hb dX10_within_11 (by decide) ?_
      exact r_zret () C0 hr (by decide +kernel) hlocks hS (Nat.le_of_ble_eq_true rfl) (Nat.le_of_ble_eq_true rfl) dX10_within_15 (wi_c c_704 c_705) P_nil D_nil
set_option maxHeartbeats 4000000 in
set_option maxRecDepth 100000 in
theorem c_X10_within_713 (l : Launch) (D : va_G) (T : Nat → ClassId) (sz : Nat) (z1 : Int32) (z2 : Int32) : Met l yX10_within (.code yX10_within cX10_within 3 (some .boolean) :: TB) { frames := 0, cells := 0, slots := 0, locals := 0 } (PC D T [.int z1, .int 0, .int z2] [] sz) (Qi (S := Unit) (fun (r : Int32) (_ : Unit) => r = (bi (wi z1 0 z2))) (fun (_ : Unit) => []) D (va_A [] sz)) 0 0 (va_A [] sz) := by
  refine ct_begin (Qc := Qi (S := Unit) (fun (r : Int32) (_ : Unit) => r = (bi (wi z1 0 z2))) (fun (_ : Unit) => []) D) (by decide +kernel) (Nat.le_of_ble_eq_true rfl) ?_
  intro p e s m below meth c A ls C0 hr hlocks hnm hE hA hP hD hS hl
  have hx := C0.1
  have hb := C0.2.1
  have hml := C0.2.2.1
  have hown := C0.2.2.2.1
  have hT := C0.2.2.2.2
  have hK := hE.1
  have hl : lv_has ls 3 [(0, .int z1), (1, .int 0), (2, .int z2)] := hl
  refine lv_iload_n hx hb dX10_within_0 rfl (lv_at hl 0 rfl) ?_
  refine lv_iload_n hx hb dX10_within_1 rfl (lv_at hl 1 rfl) ?_
  refine lv_icmp_lt (tgt := 14) hx hb dX10_within_2 (by decide) (fun c_711 => ?_) (fun c_711 => ?_)
  · skip
    refine lv_iconst (v := 0) hx hb dX10_within_14 (by decide) ?_
    exact r_zret () C0 hr (by decide +kernel) hlocks hS (Nat.le_of_ble_eq_true rfl) (Nat.le_of_ble_eq_true rfl) dX10_within_15 (wi_a c_711) P_nil D_nil
  · skip
    refine lv_iload_n hx hb dX10_within_5 rfl (lv_at hl 0 rfl) ?_
    refine lv_iload_n hx hb dX10_within_6 rfl (lv_at hl 2 rfl) ?_
    refine lv_icmp_gt (tgt := 14) hx hb dX10_within_7 (by decide) (fun c_712 => ?_) (fun c_712 => ?_)
    · skip
      refine lv_iconst (v := 0) hx hb dX10_within_14 (by decide) ?_
      exact r_zret () C0 hr (by decide +kernel) hlocks hS (Nat.le_of_ble_eq_true rfl) (Nat.le_of_ble_eq_true rfl) dX10_within_15 (wi_b c_712) P_nil D_nil
    · skip
      refine lv_iconst (v := 1) hx hb dX10_within_10 (by decide) ?_
      refine lv_goto (tgt := 15) hx hb dX10_within_11 (by decide) ?_
      exact r_zret () C0 hr (by decide +kernel) hlocks hS (Nat.le_of_ble_eq_true rfl) (Nat.le_of_ble_eq_true rfl) dX10_within_15 (wi_c c_711 c_712) P_nil D_nil
set_option maxHeartbeats 4000000 in
set_option maxRecDepth 100000 in
theorem c_X10_isBatch_724 (l : Launch) (D : va_G) (T : Nat → ClassId) (sz : Nat) (z1 : Int32) (z2 : Int32) : Met l yX10_isBatch (.code yX10_isBatch cX10_isBatch 2 (some .boolean) :: TB) { frames := 1, cells := 0, slots := 0, locals := 22 } (PC D T [.int z1, .int z2] [] sz) (Qi (S := Unit) (fun (r : Int32) (_ : Unit) => r = (bi (wi z1 1 50 && wi z2 0 z1))) (fun (_ : Unit) => []) D (va_A [] sz)) 0 0 (va_A [] sz) := by
  refine ct_begin (Qc := Qi (S := Unit) (fun (r : Int32) (_ : Unit) => r = (bi (wi z1 1 50 && wi z2 0 z1))) (fun (_ : Unit) => []) D) (by decide +kernel) (Nat.le_of_ble_eq_true rfl) ?_
  intro p e s m below meth c A ls C0 hr hlocks hnm hE hA hP hD hS hl
  have hx := C0.1
  have hb := C0.2.1
  have hml := C0.2.2.1
  have hown := C0.2.2.2.1
  have hT := C0.2.2.2.2
  have hK := hE.1
  have hl : lv_has ls 2 [(0, .int z1), (1, .int z2)] := hl
  refine lv_iload_n hx hb dX10_isBatch_0 rfl (lv_at hl 0 rfl) ?_
  refine lv_iconst (v := 1) hx hb dX10_isBatch_1 (by decide) ?_
  refine lv_bipush (v := 50) hx hb dX10_isBatch_2 (by decide) ?_
  refine r_calli (wr := []) (r_runS (As := [.int z1, .int 1, .int 50]) (rest := []) (wc := []) C0 hE (c_X10_within_706 l D T s.heap.size z1) mw_282 mw_283 mw_1 mw_284 dn_1700 rfl rfl ⟨Nat.le_of_ble_eq_true rfl, Nat.le_of_ble_eq_true rfl⟩ (hP.sub (ws' := []) [] rfl) (hD.sub (ws' := []) [] (by decide +kernel) rfl) hl.1 rfl (Nat.le_of_ble_eq_true rfl) dX10_isBatch_4 ⟨Nat.le_of_ble_eq_true rfl, Nat.le_of_ble_eq_true rfl⟩) hP hD hS hA [] [] rfl rfl (by decide +kernel) (by decide +kernel) (fun r718 u H locs hq hP hD hS => ?_)
  have hq : r718 = (bi (wi z1 1 50)) := hq
  subst hq
  have hP : va_P D vwCl [] H := hP
  have hD : va_D A [] := hD
  refine W.widen (k := 0) (n := 0) (Nat.le_of_ble_eq_true rfl) (Nat.le_of_ble_eq_true rfl) ?_
  refine lv_if_eq (tgt := 23) hx hb dX10_isBatch_7 (by decide) (fun c_719 => ?_) (fun c_719 => ?_)
  · skip
    have c_719 := bi_z c_719
    refine lv_iconst (v := 0) hx hb dX10_isBatch_23 (by decide) ?_
    exact r_zret () C0 hr (by decide +kernel) hlocks hS (Nat.le_of_ble_eq_true rfl) (Nat.le_of_ble_eq_true rfl) dX10_isBatch_24 (by first | rfl | decide +kernel | simp [bi, FO, TS, c_719]) P_nil D_nil
  · skip
    have c_719 := bi_nz c_719
    refine lv_iload_n hx hb dX10_isBatch_10 rfl (lv_at hl 1 rfl) ?_
    refine lv_iconst (v := 0) hx hb dX10_isBatch_11 (by decide) ?_
    refine lv_iload_n hx hb dX10_isBatch_12 rfl (lv_at hl 0 rfl) ?_
    refine r_calli (wr := []) (r_runS (As := [.int z2, .int 0, .int z1]) (rest := []) (wc := []) C0 hE (c_X10_within_713 l D T H.size z2 z1) mw_282 mw_283 mw_1 mw_284 dn_1700 rfl rfl ⟨Nat.le_of_ble_eq_true rfl, Nat.le_of_ble_eq_true rfl⟩ (hP.sub (ws' := []) [] rfl) (hD.sub (ws' := []) [] (by decide +kernel) rfl) hl.1 rfl (Nat.le_of_ble_eq_true rfl) dX10_isBatch_13 ⟨Nat.le_of_ble_eq_true rfl, Nat.le_of_ble_eq_true rfl⟩) hP hD hS hA [] [] rfl rfl (by decide +kernel) (by decide +kernel) (fun r722 u H locs hq hP hD hS => ?_)
    have hq : r722 = (bi (wi z2 0 z1)) := hq
    subst hq
    have hP : va_P D vwCl [] H := hP
    have hD : va_D A [] := hD
    refine W.widen (k := 0) (n := 0) (Nat.le_of_ble_eq_true rfl) (Nat.le_of_ble_eq_true rfl) ?_
    refine lv_if_eq (tgt := 23) hx hb dX10_isBatch_16 (by decide) (fun c_723 => ?_) (fun c_723 => ?_)
    · skip
      have c_723 := bi_z c_723
      refine lv_iconst (v := 0) hx hb dX10_isBatch_23 (by decide) ?_
      exact r_zret () C0 hr (by decide +kernel) hlocks hS (Nat.le_of_ble_eq_true rfl) (Nat.le_of_ble_eq_true rfl) dX10_isBatch_24 (by first | rfl | decide +kernel | simp [bi, FO, TS, c_719, c_723]) P_nil D_nil
    · skip
      have c_723 := bi_nz c_723
      refine lv_iconst (v := 1) hx hb dX10_isBatch_19 (by decide) ?_
      refine lv_goto (tgt := 24) hx hb dX10_isBatch_20 (by decide) ?_
      exact r_zret () C0 hr (by decide +kernel) hlocks hS (Nat.le_of_ble_eq_true rfl) (Nat.le_of_ble_eq_true rfl) dX10_isBatch_24 (by first | rfl | decide +kernel | simp [bi, FO, TS, c_719, c_723]) P_nil D_nil
set_option maxHeartbeats 4000000 in
set_option maxRecDepth 100000 in
theorem c_X10_within_731 (l : Launch) (D : va_G) (T : Nat → ClassId) (sz : Nat) (z1 : Int32) : Met l yX10_within (.code yX10_within cX10_within 3 (some .boolean) :: TB) { frames := 0, cells := 0, slots := 0, locals := 0 } (PC D T [.int z1, .int 1, .int 1000] [] sz) (Qi (S := Unit) (fun (r : Int32) (_ : Unit) => r = (bi (wi z1 1 1000))) (fun (_ : Unit) => []) D (va_A [] sz)) 0 0 (va_A [] sz) := by
  refine ct_begin (Qc := Qi (S := Unit) (fun (r : Int32) (_ : Unit) => r = (bi (wi z1 1 1000))) (fun (_ : Unit) => []) D) (by decide +kernel) (Nat.le_of_ble_eq_true rfl) ?_
  intro p e s m below meth c A ls C0 hr hlocks hnm hE hA hP hD hS hl
  have hx := C0.1
  have hb := C0.2.1
  have hml := C0.2.2.1
  have hown := C0.2.2.2.1
  have hT := C0.2.2.2.2
  have hK := hE.1
  have hl : lv_has ls 3 [(0, .int z1), (1, .int 1), (2, .int 1000)] := hl
  refine lv_iload_n hx hb dX10_within_0 rfl (lv_at hl 0 rfl) ?_
  refine lv_iload_n hx hb dX10_within_1 rfl (lv_at hl 1 rfl) ?_
  refine lv_icmp_lt (tgt := 14) hx hb dX10_within_2 (by decide) (fun c_729 => ?_) (fun c_729 => ?_)
  · skip
    refine lv_iconst (v := 0) hx hb dX10_within_14 (by decide) ?_
    exact r_zret () C0 hr (by decide +kernel) hlocks hS (Nat.le_of_ble_eq_true rfl) (Nat.le_of_ble_eq_true rfl) dX10_within_15 (wi_a c_729) P_nil D_nil
  · skip
    refine lv_iload_n hx hb dX10_within_5 rfl (lv_at hl 0 rfl) ?_
    refine lv_iload_n hx hb dX10_within_6 rfl (lv_at hl 2 rfl) ?_
    refine lv_icmp_gt (tgt := 14) hx hb dX10_within_7 (by decide) (fun c_730 => ?_) (fun c_730 => ?_)
    · skip
      refine lv_iconst (v := 0) hx hb dX10_within_14 (by decide) ?_
      exact r_zret () C0 hr (by decide +kernel) hlocks hS (Nat.le_of_ble_eq_true rfl) (Nat.le_of_ble_eq_true rfl) dX10_within_15 (wi_b c_730) P_nil D_nil
    · skip
      refine lv_iconst (v := 1) hx hb dX10_within_10 (by decide) ?_
      refine lv_goto (tgt := 15) hx hb dX10_within_11 (by decide) ?_
      exact r_zret () C0 hr (by decide +kernel) hlocks hS (Nat.le_of_ble_eq_true rfl) (Nat.le_of_ble_eq_true rfl) dX10_within_15 (wi_c c_729 c_730) P_nil D_nil
set_option maxHeartbeats 4000000 in
set_option maxRecDepth 100000 in
theorem c_X10_tests_748 (l : Launch) (D : va_G) (T : Nat → ClassId) (sz : Nat) (z1 : Nat) (z2 : Int32) (z3 : Int32) (z4 : Int32) : Met l yX10_tests (.code yX10_tests cX10_tests 9 (some .int) :: TB) { frames := 2, cells := 0, slots := 0, locals := 43 } (PC D T [.ref z1, .int z2, .int z3, .int z4] [] sz) (Qi (S := Unit) (fun (r : Int32) (_ : Unit) => r = (TS z2 z3 z4)) (fun (_ : Unit) => []) D (va_A [] sz)) 0 0 (va_A [] sz) := by
  refine ct_begin (Qc := Qi (S := Unit) (fun (r : Int32) (_ : Unit) => r = (TS z2 z3 z4)) (fun (_ : Unit) => []) D) (by decide +kernel) (Nat.le_of_ble_eq_true rfl) ?_
  intro p e s m below meth c A ls C0 hr hlocks hnm hE hA hP hD hS hl
  have hx := C0.1
  have hb := C0.2.1
  have hml := C0.2.2.1
  have hown := C0.2.2.2.1
  have hT := C0.2.2.2.2
  have hK := hE.1
  have hl : lv_has ls 9 [(0, .ref z1), (1, .int z2), (2, .int z3), (3, .int z4)] := hl
  refine lv_iload_n hx hb dX10_tests_0 rfl (lv_at hl 1 rfl) ?_
  refine lv_iload_n hx hb dX10_tests_1 rfl (lv_at hl 2 rfl) ?_
  refine r_calli (wr := []) (r_runS (As := [.int z2, .int z3]) (rest := []) (wc := []) C0 hE (c_X10_isBatch_724 l D T s.heap.size z2 z3) mw_765 mw_766 mw_1 mw_767 dn_1699 rfl rfl ⟨Nat.le_of_ble_eq_true rfl, Nat.le_of_ble_eq_true rfl⟩ (hP.sub (ws' := []) [] rfl) (hD.sub (ws' := []) [] (by decide +kernel) rfl) hl.1 rfl (Nat.le_of_ble_eq_true rfl) dX10_tests_2 ⟨Nat.le_of_ble_eq_true rfl, Nat.le_of_ble_eq_true rfl⟩) hP hD hS hA [] [] rfl rfl (by decide +kernel) (by decide +kernel) (fun r742 u H locs hq hP hD hS => ?_)
  have hq : r742 = (bi (wi z2 1 50 && wi z3 0 z2)) := hq
  subst hq
  have hP : va_P D vwCl [] H := hP
  have hD : va_D A [] := hD
  refine W.widen (k := 0) (n := 0) (Nat.le_of_ble_eq_true rfl) (Nat.le_of_ble_eq_true rfl) ?_
  refine lv_if_eq (tgt := 19) hx hb dX10_tests_5 (by decide) (fun c_743 => ?_) (fun c_743 => ?_)
  · skip
    have c_743 := bi_z c_743
    refine lv_iconst (v := (-1)) hx hb dX10_tests_19 (by decide) ?_
    exact r_iret () C0 hr hlocks hS (Nat.le_of_ble_eq_true rfl) (Nat.le_of_ble_eq_true rfl) dX10_tests_20 (by first | rfl | decide +kernel | simp [bi, FO, TS, c_743]) P_nil D_nil
  · skip
    have c_743 := bi_nz c_743
    refine lv_iload_n hx hb dX10_tests_8 rfl (lv_at hl 3 rfl) ?_
    refine lv_iconst (v := 1) hx hb dX10_tests_9 (by decide) ?_
    refine lv_sipush (v := 1000) hx hb dX10_tests_10 (by decide) ?_
    refine r_calli (wr := []) (r_runS (As := [.int z4, .int 1, .int 1000]) (rest := []) (wc := []) C0 hE (c_X10_within_731 l D T H.size z4) mw_282 mw_283 mw_1 mw_284 dn_1700 rfl rfl ⟨Nat.le_of_ble_eq_true rfl, Nat.le_of_ble_eq_true rfl⟩ (hP.sub (ws' := []) [] rfl) (hD.sub (ws' := []) [] (by decide +kernel) rfl) hl.1 rfl (Nat.le_of_ble_eq_true rfl) dX10_tests_13 ⟨Nat.le_of_ble_eq_true rfl, Nat.le_of_ble_eq_true rfl⟩) hP hD hS hA [] [] rfl rfl (by decide +kernel) (by decide +kernel) (fun r746 u H locs hq hP hD hS => ?_)
    have hq : r746 = (bi (wi z4 1 1000)) := hq
    subst hq
    have hP : va_P D vwCl [] H := hP
    have hD : va_D A [] := hD
    refine W.widen (k := 0) (n := 0) (Nat.le_of_ble_eq_true rfl) (Nat.le_of_ble_eq_true rfl) ?_
    refine lv_if_ne (tgt := 21) hx hb dX10_tests_16 (by decide) (fun c_747 => ?_) (fun c_747 => ?_)
    · skip
      have c_747 := bi_nz c_747
      have g1 := (Bool.and_eq_true _ _).mp c_743
      have k1 := g1.1
      have k2 := g1.2
      have k3 := c_747
      obtain ⟨Na, hNa, rfl⟩ := wi_nat (L := 50) (by decide) (by decide) (by decide) k1
      obtain ⟨Nb, hNb, rfl⟩ := wi_nat (L := Na) (Int32.le_refl _) (by omega) (by decide) k2
      exact tests10_tail hNa hNb (Nat.le_of_ble_eq_true rfl) (Nat.le_of_ble_eq_true rfl) C0 hE hA hr hlocks (by simp only [TS, k1, k2, k3, Bool.and_self, if_true, nI_clamp (show Na < 2 ^ 31 by omega), nI_clamp (show Nb < 2 ^ 31 by omega)]) hS hl
    · skip
      have c_747 := bi_z c_747
      refine lv_iconst (v := (-1)) hx hb dX10_tests_19 (by decide) ?_
      exact r_iret () C0 hr hlocks hS (Nat.le_of_ble_eq_true rfl) (Nat.le_of_ble_eq_true rfl) dX10_tests_20 (by first | rfl | decide +kernel | simp [bi, FO, TS, c_743, c_747]) P_nil D_nil
set_option maxHeartbeats 4000000 in
set_option maxRecDepth 100000 in
theorem c_X11_isIn_753 (l : Launch) (D : va_G) (T : Nat → ClassId) (sz : Nat) (z1 : Int64) : Met l yX11_isIn (.code yX11_isIn cX11_isIn 6 (some .boolean) :: TB) { frames := 0, cells := 0, slots := 0, locals := 0 } (PC D T [.long z1, .long 1, .long 50] [] sz) (Qi (S := Unit) (fun (r : Int32) (_ : Unit) => r = (bi (wl z1 1 50))) (fun (_ : Unit) => []) D (va_A [] sz)) 0 0 (va_A [] sz) := by
  refine ct_begin (Qc := Qi (S := Unit) (fun (r : Int32) (_ : Unit) => r = (bi (wl z1 1 50))) (fun (_ : Unit) => []) D) (by decide +kernel) (Nat.le_of_ble_eq_true rfl) ?_
  intro p e s m below meth c A ls C0 hr hlocks hnm hE hA hP hD hS hl
  have hx := C0.1
  have hb := C0.2.1
  have hml := C0.2.2.1
  have hown := C0.2.2.2.1
  have hT := C0.2.2.2.2
  have hK := hE.1
  have hl : lv_has ls 6 [(0, .long z1), (2, .long 1), (4, .long 50)] := hl
  refine lv_lload_n hx hb dX11_isIn_0 rfl (lv_at hl 0 rfl) ?_
  refine lv_lload_n hx hb dX11_isIn_1 rfl (lv_at hl 1 rfl) ?_
  refine W.lcmp hx hb dX11_isIn_2 ?_
  refine lv_if_lt (tgt := 17) hx hb dX11_isIn_3 (by decide) (fun c_751 => ?_) (fun c_751 => ?_)
  · skip
    refine lv_iconst (v := 0) hx hb dX11_isIn_17 (by decide) ?_
    exact r_zret () C0 hr (by decide +kernel) hlocks hS (Nat.le_of_ble_eq_true rfl) (Nat.le_of_ble_eq_true rfl) dX11_isIn_18 (wl_a c_751) P_nil D_nil
  · skip
    refine lv_lload_n hx hb dX11_isIn_6 rfl (lv_at hl 0 rfl) ?_
    refine lv_lload hx hb dX11_isIn_7 (lv_at hl 2 rfl) ?_
    refine W.lcmp hx hb dX11_isIn_9 ?_
    refine lv_if_gt (tgt := 17) hx hb dX11_isIn_10 (by decide) (fun c_752 => ?_) (fun c_752 => ?_)
    · skip
      refine lv_iconst (v := 0) hx hb dX11_isIn_17 (by decide) ?_
      exact r_zret () C0 hr (by decide +kernel) hlocks hS (Nat.le_of_ble_eq_true rfl) (Nat.le_of_ble_eq_true rfl) dX11_isIn_18 (wl_b c_752) P_nil D_nil
    · skip
      refine lv_iconst (v := 1) hx hb dX11_isIn_13 (by decide) ?_
      refine lv_goto (tgt := 18) hx hb dX11_isIn_14 (by decide) ?_
      exact r_zret () C0 hr (by decide +kernel) hlocks hS (Nat.le_of_ble_eq_true rfl) (Nat.le_of_ble_eq_true rfl) dX11_isIn_18 (wl_c c_751 c_752) P_nil D_nil
set_option maxHeartbeats 4000000 in
set_option maxRecDepth 100000 in
theorem c_X11_isIn_760 (l : Launch) (D : va_G) (T : Nat → ClassId) (sz : Nat) (z1 : Int64) (z2 : Int64) : Met l yX11_isIn (.code yX11_isIn cX11_isIn 6 (some .boolean) :: TB) { frames := 0, cells := 0, slots := 0, locals := 0 } (PC D T [.long z1, .long 0, .long z2] [] sz) (Qi (S := Unit) (fun (r : Int32) (_ : Unit) => r = (bi (wl z1 0 z2))) (fun (_ : Unit) => []) D (va_A [] sz)) 0 0 (va_A [] sz) := by
  refine ct_begin (Qc := Qi (S := Unit) (fun (r : Int32) (_ : Unit) => r = (bi (wl z1 0 z2))) (fun (_ : Unit) => []) D) (by decide +kernel) (Nat.le_of_ble_eq_true rfl) ?_
  intro p e s m below meth c A ls C0 hr hlocks hnm hE hA hP hD hS hl
  have hx := C0.1
  have hb := C0.2.1
  have hml := C0.2.2.1
  have hown := C0.2.2.2.1
  have hT := C0.2.2.2.2
  have hK := hE.1
  have hl : lv_has ls 6 [(0, .long z1), (2, .long 0), (4, .long z2)] := hl
  refine lv_lload_n hx hb dX11_isIn_0 rfl (lv_at hl 0 rfl) ?_
  refine lv_lload_n hx hb dX11_isIn_1 rfl (lv_at hl 1 rfl) ?_
  refine W.lcmp hx hb dX11_isIn_2 ?_
  refine lv_if_lt (tgt := 17) hx hb dX11_isIn_3 (by decide) (fun c_758 => ?_) (fun c_758 => ?_)
  · skip
    refine lv_iconst (v := 0) hx hb dX11_isIn_17 (by decide) ?_
    exact r_zret () C0 hr (by decide +kernel) hlocks hS (Nat.le_of_ble_eq_true rfl) (Nat.le_of_ble_eq_true rfl) dX11_isIn_18 (wl_a c_758) P_nil D_nil
  · skip
    refine lv_lload_n hx hb dX11_isIn_6 rfl (lv_at hl 0 rfl) ?_
    refine lv_lload hx hb dX11_isIn_7 (lv_at hl 2 rfl) ?_
    refine W.lcmp hx hb dX11_isIn_9 ?_
    refine lv_if_gt (tgt := 17) hx hb dX11_isIn_10 (by decide) (fun c_759 => ?_) (fun c_759 => ?_)
    · skip
      refine lv_iconst (v := 0) hx hb dX11_isIn_17 (by decide) ?_
      exact r_zret () C0 hr (by decide +kernel) hlocks hS (Nat.le_of_ble_eq_true rfl) (Nat.le_of_ble_eq_true rfl) dX11_isIn_18 (wl_b c_759) P_nil D_nil
    · skip
      refine lv_iconst (v := 1) hx hb dX11_isIn_13 (by decide) ?_
      refine lv_goto (tgt := 18) hx hb dX11_isIn_14 (by decide) ?_
      exact r_zret () C0 hr (by decide +kernel) hlocks hS (Nat.le_of_ble_eq_true rfl) (Nat.le_of_ble_eq_true rfl) dX11_isIn_18 (wl_c c_758 c_759) P_nil D_nil
set_option maxHeartbeats 4000000 in
set_option maxRecDepth 100000 in
theorem c_X11_isIn_767 (l : Launch) (D : va_G) (T : Nat → ClassId) (sz : Nat) (z1 : Int64) : Met l yX11_isIn (.code yX11_isIn cX11_isIn 6 (some .boolean) :: TB) { frames := 0, cells := 0, slots := 0, locals := 0 } (PC D T [.long z1, .long 1, .long 1000] [] sz) (Qi (S := Unit) (fun (r : Int32) (_ : Unit) => r = (bi (wl z1 1 1000))) (fun (_ : Unit) => []) D (va_A [] sz)) 0 0 (va_A [] sz) := by
  refine ct_begin (Qc := Qi (S := Unit) (fun (r : Int32) (_ : Unit) => r = (bi (wl z1 1 1000))) (fun (_ : Unit) => []) D) (by decide +kernel) (Nat.le_of_ble_eq_true rfl) ?_
  intro p e s m below meth c A ls C0 hr hlocks hnm hE hA hP hD hS hl
  have hx := C0.1
  have hb := C0.2.1
  have hml := C0.2.2.1
  have hown := C0.2.2.2.1
  have hT := C0.2.2.2.2
  have hK := hE.1
  have hl : lv_has ls 6 [(0, .long z1), (2, .long 1), (4, .long 1000)] := hl
  refine lv_lload_n hx hb dX11_isIn_0 rfl (lv_at hl 0 rfl) ?_
  refine lv_lload_n hx hb dX11_isIn_1 rfl (lv_at hl 1 rfl) ?_
  refine W.lcmp hx hb dX11_isIn_2 ?_
  refine lv_if_lt (tgt := 17) hx hb dX11_isIn_3 (by decide) (fun c_765 => ?_) (fun c_765 => ?_)
  · skip
    refine lv_iconst (v := 0) hx hb dX11_isIn_17 (by decide) ?_
    exact r_zret () C0 hr (by decide +kernel) hlocks hS (Nat.le_of_ble_eq_true rfl) (Nat.le_of_ble_eq_true rfl) dX11_isIn_18 (wl_a c_765) P_nil D_nil
  · skip
    refine lv_lload_n hx hb dX11_isIn_6 rfl (lv_at hl 0 rfl) ?_
    refine lv_lload hx hb dX11_isIn_7 (lv_at hl 2 rfl) ?_
    refine W.lcmp hx hb dX11_isIn_9 ?_
    refine lv_if_gt (tgt := 17) hx hb dX11_isIn_10 (by decide) (fun c_766 => ?_) (fun c_766 => ?_)
    · skip
      refine lv_iconst (v := 0) hx hb dX11_isIn_17 (by decide) ?_
      exact r_zret () C0 hr (by decide +kernel) hlocks hS (Nat.le_of_ble_eq_true rfl) (Nat.le_of_ble_eq_true rfl) dX11_isIn_18 (wl_b c_766) P_nil D_nil
    · skip
      refine lv_iconst (v := 1) hx hb dX11_isIn_13 (by decide) ?_
      refine lv_goto (tgt := 18) hx hb dX11_isIn_14 (by decide) ?_
      exact r_zret () C0 hr (by decide +kernel) hlocks hS (Nat.le_of_ble_eq_true rfl) (Nat.le_of_ble_eq_true rfl) dX11_isIn_18 (wl_c c_765 c_766) P_nil D_nil
set_option maxHeartbeats 4000000 in
set_option maxRecDepth 100000 in
theorem c_X11_tests_782 (l : Launch) (D : va_G) (T : Nat → ClassId) (sz : Nat) (z1 : Nat) (z2 : Int32) (z3 : Int32) (z4 : Int32) : Met l yX11_tests (.code yX11_tests cX11_tests 5 (some .int) :: TB) { frames := 2, cells := 0, slots := 0, locals := 50 } (PC D T [.ref z1, .int z2, .int z3, .int z4] [] sz) (Qi (S := Unit) (fun (r : Int32) (_ : Unit) => r = (TS z2 z3 z4)) (fun (_ : Unit) => []) D (va_A [] sz)) 0 0 (va_A [] sz) := by
  refine ct_begin (Qc := Qi (S := Unit) (fun (r : Int32) (_ : Unit) => r = (TS z2 z3 z4)) (fun (_ : Unit) => []) D) (by decide +kernel) (Nat.le_of_ble_eq_true rfl) ?_
  intro p e s m below meth c A ls C0 hr hlocks hnm hE hA hP hD hS hl
  have hx := C0.1
  have hb := C0.2.1
  have hml := C0.2.2.1
  have hown := C0.2.2.2.1
  have hT := C0.2.2.2.2
  have hK := hE.1
  have hl : lv_has ls 5 [(0, .ref z1), (1, .int z2), (2, .int z3), (3, .int z4)] := hl
  refine lv_iload_n hx hb dX11_tests_0 rfl (lv_at hl 1 rfl) ?_
  refine lv_i2l hx hb dX11_tests_1 rfl ?_
  refine lv_lconst (v := 1) hx hb dX11_tests_2 (by decide) ?_
  refine lv_ldc2 hx hb hown (hT _ mw_1241) dX11_tests_3 ?_
  refine r_calli (wr := []) (r_runS (As := [.long z2.toInt64, .long 1, .long 50]) (rest := []) (wc := []) C0 hE (c_X11_isIn_753 l D T s.heap.size z2.toInt64) mw_910 mw_911 mw_14 mw_912 dn_1704 rfl rfl ⟨Nat.le_of_ble_eq_true rfl, Nat.le_of_ble_eq_true rfl⟩ (hP.sub (ws' := []) [] rfl) (hD.sub (ws' := []) [] (by decide +kernel) rfl) hl.1 rfl (Nat.le_of_ble_eq_true rfl) dX11_tests_6 ⟨Nat.le_of_ble_eq_true rfl, Nat.le_of_ble_eq_true rfl⟩) hP hD hS hA [] [] rfl rfl (by decide +kernel) (by decide +kernel) (fun r772 u H locs hq hP hD hS => ?_)
  have hq : r772 = (bi (wl z2.toInt64 1 50)) := hq
  subst hq
  have hP : va_P D vwCl [] H := hP
  have hD : va_D A [] := hD
  refine W.widen (k := 0) (n := 0) (Nat.le_of_ble_eq_true rfl) (Nat.le_of_ble_eq_true rfl) ?_
  refine r_ci (v := (bi (wi z2 1 50))) (congrArg bi (wl_wi (by first | rfl | decide +kernel) (by first | rfl | decide +kernel))) ?_
  refine lv_if_eq (tgt := 35) hx hb dX11_tests_9 (by decide) (fun c_773 => ?_) (fun c_773 => ?_)
  · skip
    have c_773 := bi_z c_773
    refine lv_iconst (v := (-1)) hx hb dX11_tests_35 (by decide) ?_
    exact r_iret () C0 hr hlocks hS (Nat.le_of_ble_eq_true rfl) (Nat.le_of_ble_eq_true rfl) dX11_tests_36 (by first | rfl | decide +kernel | simp [bi, FO, TS, c_773]) P_nil D_nil
  · skip
    have c_773 := bi_nz c_773
    refine lv_iload_n hx hb dX11_tests_12 rfl (lv_at hl 2 rfl) ?_
    refine lv_i2l hx hb dX11_tests_13 rfl ?_
    refine lv_lconst (v := 0) hx hb dX11_tests_14 (by decide) ?_
    refine lv_iload_n hx hb dX11_tests_15 rfl (lv_at hl 1 rfl) ?_
    refine lv_i2l hx hb dX11_tests_16 rfl ?_
    refine r_calli (wr := []) (r_runS (As := [.long z3.toInt64, .long 0, .long z2.toInt64]) (rest := []) (wc := []) C0 hE (c_X11_isIn_760 l D T H.size z3.toInt64 z2.toInt64) mw_910 mw_911 mw_14 mw_912 dn_1704 rfl rfl ⟨Nat.le_of_ble_eq_true rfl, Nat.le_of_ble_eq_true rfl⟩ (hP.sub (ws' := []) [] rfl) (hD.sub (ws' := []) [] (by decide +kernel) rfl) hl.1 rfl (Nat.le_of_ble_eq_true rfl) dX11_tests_17 ⟨Nat.le_of_ble_eq_true rfl, Nat.le_of_ble_eq_true rfl⟩) hP hD hS hA [] [] rfl rfl (by decide +kernel) (by decide +kernel) (fun r776 u H locs hq hP hD hS => ?_)
    have hq : r776 = (bi (wl z3.toInt64 0 z2.toInt64)) := hq
    subst hq
    have hP : va_P D vwCl [] H := hP
    have hD : va_D A [] := hD
    refine W.widen (k := 0) (n := 0) (Nat.le_of_ble_eq_true rfl) (Nat.le_of_ble_eq_true rfl) ?_
    refine r_ci (v := (bi (wi z3 0 z2))) (congrArg bi (wl_wi (by first | rfl | decide +kernel) (by first | rfl | decide +kernel))) ?_
    refine lv_if_eq (tgt := 35) hx hb dX11_tests_20 (by decide) (fun c_777 => ?_) (fun c_777 => ?_)
    · skip
      have c_777 := bi_z c_777
      refine lv_iconst (v := (-1)) hx hb dX11_tests_35 (by decide) ?_
      exact r_iret () C0 hr hlocks hS (Nat.le_of_ble_eq_true rfl) (Nat.le_of_ble_eq_true rfl) dX11_tests_36 (by first | rfl | decide +kernel | simp [bi, FO, TS, c_773, c_777]) P_nil D_nil
    · skip
      have c_777 := bi_nz c_777
      refine lv_iload_n hx hb dX11_tests_23 rfl (lv_at hl 3 rfl) ?_
      refine lv_i2l hx hb dX11_tests_24 rfl ?_
      refine lv_lconst (v := 1) hx hb dX11_tests_25 (by decide) ?_
      refine lv_ldc2 hx hb hown (hT _ mw_1085) dX11_tests_26 ?_
      refine r_calli (wr := []) (r_runS (As := [.long z4.toInt64, .long 1, .long 1000]) (rest := []) (wc := []) C0 hE (c_X11_isIn_767 l D T H.size z4.toInt64) mw_910 mw_911 mw_14 mw_912 dn_1704 rfl rfl ⟨Nat.le_of_ble_eq_true rfl, Nat.le_of_ble_eq_true rfl⟩ (hP.sub (ws' := []) [] rfl) (hD.sub (ws' := []) [] (by decide +kernel) rfl) hl.1 rfl (Nat.le_of_ble_eq_true rfl) dX11_tests_29 ⟨Nat.le_of_ble_eq_true rfl, Nat.le_of_ble_eq_true rfl⟩) hP hD hS hA [] [] rfl rfl (by decide +kernel) (by decide +kernel) (fun r780 u H locs hq hP hD hS => ?_)
      have hq : r780 = (bi (wl z4.toInt64 1 1000)) := hq
      subst hq
      have hP : va_P D vwCl [] H := hP
      have hD : va_D A [] := hD
      refine W.widen (k := 0) (n := 0) (Nat.le_of_ble_eq_true rfl) (Nat.le_of_ble_eq_true rfl) ?_
      refine r_ci (v := (bi (wi z4 1 1000))) (congrArg bi (wl_wi (by first | rfl | decide +kernel) (by first | rfl | decide +kernel))) ?_
      refine lv_if_ne (tgt := 37) hx hb dX11_tests_32 (by decide) (fun c_781 => ?_) (fun c_781 => ?_)
      · skip
        have c_781 := bi_nz c_781
        have k1 := c_773
        have k2 := c_777
        have k3 := c_781
        obtain ⟨Na, hNa, rfl⟩ := wi_nat (L := 50) (by decide) (by decide) (by decide) k1
        obtain ⟨Nb, hNb, rfl⟩ := wi_nat (L := Na) (Int32.le_refl _) (by omega) (by decide) k2
        exact tests11_tail hNa hNb (Nat.le_of_ble_eq_true rfl) (Nat.le_of_ble_eq_true rfl) C0 hE hA hr hlocks (by simp only [TS, k1, k2, k3, Bool.and_self, if_true, nI_clamp (show Na < 2 ^ 31 by omega), nI_clamp (show Nb < 2 ^ 31 by omega)]) hS hl
      · skip
        have c_781 := bi_z c_781
        refine lv_iconst (v := (-1)) hx hb dX11_tests_35 (by decide) ?_
        exact r_iret () C0 hr hlocks hS (Nat.le_of_ble_eq_true rfl) (Nat.le_of_ble_eq_true rfl) dX11_tests_36 (by first | rfl | decide +kernel | simp [bi, FO, TS, c_773, c_777, c_781]) P_nil D_nil
