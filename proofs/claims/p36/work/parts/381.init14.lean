set_option maxHeartbeats 4000000 in
set_option maxRecDepth 100000 in
theorem c_X10_within_706 (l : Launch) (D : va_G) (T : Nat → ClassId) (sz : Nat) (z1 : Int32) : Met l yX10_within (.code yX10_within cX10_within 3 (some .boolean) :: TB) { frames := 0, cells := 0, slots := 0, locals := 0 } (PC D T [.int z1, .int 1, .int 50] [] sz) (Qi (S := Unit) (fun (r : Int32) (_ : Unit) => r = (bi (wi z1 1 50))) (fun (_ : Unit) => []) D (va_A [] sz)) 0 0 (va_A [] sz) := by
  refine ct_begin (Qc := Qi (S := Unit) (fun (r : Int32) (_ : Unit) => r = (bi (wi z1 1 50))) (fun (_ : Unit) => []) D) (by decide +kernel) (Nat.le_of_ble_eq_true rfl) ?_
  intro p e s m below meth c A ls C0 hr hlocks hnm hE hA hP hD hS hl
  have hx := C0.1
  have hb := C0.2.1
  have hml := C0.2.2.1
  have hown := C0.2.2.2.1
  have hT := C0.2.2.2.2
  have hK := hE.1
  have hl : lv_has ls 3 [(0, .int z1), (1, .int 1), (2, .int 50)] := hl
  refine lv_iload_n hx hb dX10_within_0 rfl (lv_at hl 0 rfl) ?_
  refine lv_iload_n hx hb dX10_within_1 rfl (lv_at hl 1 rfl) ?_
  refine lv_icmp_lt (tgt := 14) hx hb dX10_within_2 (by decide) (fun c_704 => ?_) (fun c_704 => ?_)
  · skip
    refine lv_iconst (v := 0) hx hb dX10_within_14 (by decide) ?_
    exact r_zret () C0 hr (by decide +kernel) hlocks hS (Nat.le_of_ble_eq_true rfl) (Nat.le_of_ble_eq_true rfl) dX10_within_15 (wi_a c_704) P_nil D_nil
  · skip
    refine lv_iload_n hx hb dX10_within_5 rfl (lv_at hl 0 rfl) ?_
    refine lv_iload_n hx hb dX10_within_6 rfl (lv_at hl 2 rfl) ?_
    refine lv_icmp_gt (tgt := 14) hx hb dX10_within_7 (by decide) (fun c_705 => ?_) (fun c_705 => ?_)
    · skip
      refine lv_iconst (v := 0) hx hb dX10_within_14 (by decide) ?_
      exact r_zret () C0 hr (by decide +kernel) hlocks hS (Nat.le_of_ble_eq_true rfl) (Nat.le_of_ble_eq_true rfl) dX10_within_15 (wi_b c_705) P_nil D_nil
    · skip
      refine lv_iconst (v := 1) hx hb dX10_within_10 (by decide) ?_
      refine lv_goto (tgt := 15) hx hb dX10_within_11 (by decide) ?_
      exact r_zret () C0 hr (by decide +kernel) hlocks hS (Nat.le_of_ble_eq_true rfl) (Nat.le_of_ble_eq_true rfl) dX10_within_15 (wi_c c_704 c_705) P_nil D_nil
set_option maxHeartbeats 4000000 in
set_option maxRecDepth 100000 in
theorem c_X10_within_713 (l : Launch) (D : va_G) (T : Nat → ClassId) (sz : Nat) (z1 : Int32) (z2 : Int32) : Met l yX10_within (.code yX10_within cX10_within 3 (some .boolean) :: TB) { frames := 0, cells := 0, slots := 0, locals := 0 } (PC D T [.int z1, .int 0, .int z2] [] sz) (Qi (S := Unit) (fun (r : Int32) (_ : Unit) => r = (bi (wi z1 0 z2))) (fun (_ : Unit) => []) D (va_A [] sz)) 0 0 (va_A [] sz) := by
  refine ct_begin (Qc := Qi (S := Unit) (fun (r : Int32) (_ : Unit) => r = (bi (wi z1 0 z2))) (fun (_ : Unit) => []) D) (by decide +kernel) (Nat.le_of_ble_eq_true rfl) ?_
  intro p e s m below meth c A ls C0 hr hlocks hnm hE hA hP hD hS hl
  have hx := C0.1
  have hb := C0.2.1
  have hml := C0.2.2.1
  have hown := C0.2.2.2.1
  have hT := C0.2.2.2.2
  have hK := hE.1
  have hl : lv_has ls 3 [(0, .int z1), (1, .int 0), (2, .int z2)] := hl
  refine lv_iload_n hx hb dX10_within_0 rfl (lv_at hl 0 rfl) ?_
  refine lv_iload_n hx hb dX10_within_1 rfl (lv_at hl 1 rfl) ?_
  refine lv_icmp_lt (tgt := 14) hx hb dX10_within_2 (by decide) (fun c_711 => ?_) (fun c_711 => ?_)
  · skip
    refine lv_iconst (v := 0) hx hb dX10_within_14 (by decide) ?_
    exact r_zret () C0 hr (by decide +kernel) hlocks hS (Nat.le_of_ble_eq_true rfl) (Nat.le_of_ble_eq_true rfl) dX10_within_15 (wi_a c_711) P_nil D_nil
  · skip
    refine lv_iload_n hx hb dX10_within_5 rfl (lv_at hl 0 rfl) ?_
    refine lv_iload_n hx hb dX10_within_6 rfl (lv_at hl 2 rfl) ?_
    refine lv_icmp_gt (tgt := 14) hx hb dX10_within_7 (by decide) (fun c_712 => ?_) (fun c_712 => ?_)
    · skip
      refine lv_iconst (v := 0) hx hb dX10_within_14 (by decide) ?_
      exact r_zret () C0 hr (by decide +kernel) hlocks hS (Nat.le_of_ble_eq_true rfl) (Nat.le_of_ble_eq_true rfl) dX10_within_15 (wi_b c_712) P_nil D_nil
    · skip
      refine lv_iconst (v := 1) hx hb dX10_within_10 (by decide) ?_
      refine lv_goto (tgt := 15) hx hb dX10_within_11 (by decide) ?_
      exact r_zret () C0 hr (by decide +kernel) hlocks hS (Nat.le_of_ble_eq_true rfl) (Nat.le_of_ble_eq_true rfl) dX10_within_15 (wi_c c_711 c_712) P_nil D_nil
set_option maxHeartbeats 4000000 in
set_option maxRecDepth 100000 in
theorem c_X10_isBatch_724 (l : Launch) (D : va_G) (T : Nat → ClassId) (sz : Nat) (z1 : Int32) (z2 : Int32) : Met l yX10_isBatch (.code yX10_isBatch cX10_isBatch 2 (some .boolean) :: TB) { frames := 1, cells := 0, slots := 0, locals := 22 } (PC D T [.int z1, .int z2] [] sz) (Qi (S := Unit) (fun (r : Int32) (_ : Unit) => r = (bi (wi z1 1 50 && wi z2 0 z1))) (fun (_ : Unit) => []) D (va_A [] sz)) 0 0 (va_A [] sz) := by
  refine ct_begin (Qc := Qi (S := Unit) (fun (r : Int32) (_ : Unit) => r = (bi (wi z1 1 50 && wi z2 0 z1))) (fun (_ : Unit) => []) D) (by decide +kernel) (Nat.le_of_ble_eq_true rfl) ?_
  intro p e s m below meth c A ls C0 hr hlocks hnm hE hA hP hD hS hl
  have hx := C0.1
  have hb := C0.2.1
  have hml := C0.2.2.1
  have hown := C0.2.2.2.1
  have hT := C0.2.2.2.2
  have hK := hE.1
  have hl : lv_has ls 2 [(0, .int z1), (1, .int z2)] := hl
  refine lv_iload_n hx hb dX10_isBatch_0 rfl (lv_at hl 0 rfl) ?_
  refine lv_iconst (v := 1) hx hb dX10_isBatch_1 (by decide) ?_
  refine lv_bipush (v := 50) hx hb dX10_isBatch_2 (by decide) ?_
  refine r_calli (wr := []) (r_runS (As := [.int z1, .int 1, .int 50]) (rest := []) (wc := []) C0 hE (c_X10_within_706 l D T s.heap.size z1) mw_282 mw_283 mw_1 mw_284 dn_1700 rfl rfl ⟨Nat.le_of_ble_eq_true rfl, Nat.le_of_ble_eq_true rfl⟩ (hP.sub (ws' := []) [] rfl) (hD.sub (ws' := []) [] (by decide +kernel) rfl) hl.1 rfl (Nat.le_of_ble_eq_true rfl) dX10_isBatch_4 ⟨Nat.le_of_ble_eq_true rfl, Nat.le_of_ble_eq_true rfl⟩) hP hD hS hA [] [] rfl rfl (by decide +kernel) (by decide +kernel) (fun r718 u H locs hq hP hD hS => ?_)
  have hq : r718 = (bi (wi z1 1 50)) := hq
  subst hq
  have hP : va_P D vwCl [] H := hP
  have hD : va_D A [] := hD
  refine W.widen (k := 0) (n := 0) (Nat.le_of_ble_eq_true rfl) (Nat.le_of_ble_eq_true rfl) ?_
  refine lv_if_eq (tgt := 23) hx hb dX10_isBatch_7 (by decide) (fun c_719 => ?_) (fun c_719 => ?_)
  · skip
    have c_719 := bi_z c_719
    refine lv_iconst (v := 0) hx hb dX10_isBatch_23 (by decide) ?_
    exact r_zret () C0 hr (by decide +kernel) hlocks hS (Nat.le_of_ble_eq_true rfl) (Nat.le_of_ble_eq_true rfl) dX10_isBatch_24 (by first | rfl | decide +kernel | simp [bi, FO, TS, c_719]) P_nil D_nil
  · skip
    have c_719 := bi_nz c_719
    refine lv_iload_n hx hb dX10_isBatch_10 rfl (lv_at hl 1 rfl) ?_
    refine lv_iconst (v := 0) hx hb dX10_isBatch_11 (by decide) ?_
    refine lv_iload_n hx hb dX10_isBatch_12 rfl (lv_at hl 0 rfl) ?_
    refine r_calli (wr := []) (r_runS (As := [.int z2, .int 0, .int z1]) (rest := []) (wc := []) C0 hE (c_X10_within_713 l D T H.size z2 z1) mw_282 mw_283 mw_1 mw_284 dn_1700 rfl rfl ⟨Nat.le_of_ble_eq_true rfl, Nat.le_of_ble_eq_true rfl⟩ (hP.sub (ws' := []) [] rfl) (hD.sub (ws' := []) [] (by decide +kernel) rfl) hl.1 rfl (Nat.le_of_ble_eq_true rfl) dX10_isBatch_13 ⟨Nat.le_of_ble_eq_true rfl, Nat.le_of_ble_eq_true rfl⟩) hP hD hS hA [] [] rfl rfl (by decide +kernel) (by decide +kernel) (fun r722 u H locs hq hP hD hS => ?_)
    have hq : r722 = (bi (wi z2 0 z1)) := hq
    subst hq
    have hP : va_P D vwCl [] H := hP
    have hD : va_D A [] := hD
    refine W.widen (k := 0) (n := 0) (Nat.le_of_ble_eq_true rfl) (Nat.le_of_ble_eq_true rfl) ?_
    refine lv_if_eq (tgt := 23) hx hb dX10_isBatch_16 (by decide) (fun c_723 => ?_) (fun c_723 => ?_)
    · skip
      have c_723 := bi_z c_723
      refine lv_iconst (v := 0) hx hb dX10_isBatch_23 (by decide) ?_
      exact r_zret () C0 hr (by decide +kernel) hlocks hS (Nat.le_of_ble_eq_true rfl) (Nat.le_of_ble_eq_true rfl) dX10_isBatch_24 (by first | rfl | decide +kernel | simp [bi, FO, TS, c_719, c_723]) P_nil D_nil
    · skip
      have c_723 := bi_nz c_723
      refine lv_iconst (v := 1) hx hb dX10_isBatch_19 (by decide) ?_
      refine lv_goto (tgt := 24) hx hb dX10_isBatch_20 (by decide) ?_
      exact r_zret () C0 hr (by decide +kernel) hlocks hS (Nat.le_of_ble_eq_true rfl) (Nat.le_of_ble_eq_true rfl) dX10_isBatch_24 (by first | rfl | decide +kernel | simp [bi, FO, TS, c_719, c_723]) P_nil D_nil
set_option maxHeartbeats 4000000 in
set_option maxRecDepth 100000 in
theorem c_X10_found_753 (l : Launch) (D : va_G) (T : Nat → ClassId) (sz : Nat) (z1 : Nat) (z2 : Int32) (z3 : Int32) (z4 : Int32) (z5 : Int32) (z6 : Int32) : Met l yX10_found (.code yX10_found cX10_found 9 (some .long) :: TB) { frames := 2, cells := 0, slots := 0, locals := 43 } (PC D T [.ref z1, .int z2, .int z3, .int z4, .int z5, .int z6] [] sz) (Ql (S := Unit) (fun (r : Int64) (_ : Unit) => r = (FO z2 z3 z4 z5 z6)) (fun (_ : Unit) => []) D (va_A [] sz)) 0 0 (va_A [] sz) := by
  refine ct_begin (Qc := Ql (S := Unit) (fun (r : Int64) (_ : Unit) => r = (FO z2 z3 z4 z5 z6)) (fun (_ : Unit) => []) D) (by decide +kernel) (Nat.le_of_ble_eq_true rfl) ?_
  intro p e s m below meth c A ls C0 hr hlocks hnm hE hA hP hD hS hl
  have hx := C0.1
  have hb := C0.2.1
  have hml := C0.2.2.1
  have hown := C0.2.2.2.1
  have hT := C0.2.2.2.2
  have hK := hE.1
  have hl : lv_has ls 9 [(0, .ref z1), (1, .int z2), (2, .int z3), (3, .int z4), (4, .int z5), (5, .int z6)] := hl
  refine lv_iload_n hx hb dX10_found_0 rfl (lv_at hl 1 rfl) ?_
  refine lv_iload_n hx hb dX10_found_1 rfl (lv_at hl 2 rfl) ?_
  refine r_calli (wr := []) (r_runS (As := [.int z2, .int z3]) (rest := []) (wc := []) C0 hE (c_X10_isBatch_724 l D T s.heap.size z2 z3) mw_765 mw_766 mw_1 mw_767 dn_1699 rfl rfl ⟨Nat.le_of_ble_eq_true rfl, Nat.le_of_ble_eq_true rfl⟩ (hP.sub (ws' := []) [] rfl) (hD.sub (ws' := []) [] (by decide +kernel) rfl) hl.1 rfl (Nat.le_of_ble_eq_true rfl) dX10_found_2 ⟨Nat.le_of_ble_eq_true rfl, Nat.le_of_ble_eq_true rfl⟩) hP hD hS hA [] [] rfl rfl (by decide +kernel) (by decide +kernel) (fun r743 u H locs hq hP hD hS => ?_)
  have hq : r743 = (bi (wi z2 1 50 && wi z3 0 z2)) := hq
  subst hq
  have hP : va_P D vwCl [] H := hP
  have hD : va_D A [] := hD
  refine W.widen (k := 0) (n := 0) (Nat.le_of_ble_eq_true rfl) (Nat.le_of_ble_eq_true rfl) ?_
  refine lv_if_eq (tgt := 27) hx hb dX10_found_5 (by decide) (fun c_744 => ?_) (fun c_744 => ?_)
  · skip
    have c_744 := bi_z c_744
    refine lv_ldc2 hx hb hown (hT _ mw_608) dX10_found_27 ?_
    exact r_lret () C0 hr hlocks hS (Nat.le_of_ble_eq_true rfl) (Nat.le_of_ble_eq_true rfl) dX10_found_30 (by first | rfl | decide +kernel | simp [bi, FO, TS, c_744]) P_nil D_nil
  · skip
    have c_744 := bi_nz c_744
    refine lv_iload_n hx hb dX10_found_8 rfl (lv_at hl 3 rfl) ?_
    refine lv_iconst (v := 0) hx hb dX10_found_9 (by decide) ?_
    refine lv_iload_n hx hb dX10_found_10 rfl (lv_at hl 1 rfl) ?_
    refine r_calli (wr := []) (r_runS (As := [.int z4, .int 0, .int z2]) (rest := []) (wc := []) C0 hE (c_X10_within_713 l D T H.size z4 z2) mw_282 mw_283 mw_1 mw_284 dn_1700 rfl rfl ⟨Nat.le_of_ble_eq_true rfl, Nat.le_of_ble_eq_true rfl⟩ (hP.sub (ws' := []) [] rfl) (hD.sub (ws' := []) [] (by decide +kernel) rfl) hl.1 rfl (Nat.le_of_ble_eq_true rfl) dX10_found_11 ⟨Nat.le_of_ble_eq_true rfl, Nat.le_of_ble_eq_true rfl⟩) hP hD hS hA [] [] rfl rfl (by decide +kernel) (by decide +kernel) (fun r747 u H locs hq hP hD hS => ?_)
    have hq : r747 = (bi (wi z4 0 z2)) := hq
    subst hq
    have hP : va_P D vwCl [] H := hP
    have hD : va_D A [] := hD
    refine W.widen (k := 0) (n := 0) (Nat.le_of_ble_eq_true rfl) (Nat.le_of_ble_eq_true rfl) ?_
    refine lv_if_eq (tgt := 27) hx hb dX10_found_14 (by decide) (fun c_748 => ?_) (fun c_748 => ?_)
    · skip
      have c_748 := bi_z c_748
      refine lv_ldc2 hx hb hown (hT _ mw_608) dX10_found_27 ?_
      exact r_lret () C0 hr hlocks hS (Nat.le_of_ble_eq_true rfl) (Nat.le_of_ble_eq_true rfl) dX10_found_30 (by first | rfl | decide +kernel | simp [bi, FO, TS, c_744, c_748]) P_nil D_nil
    · skip
      have c_748 := bi_nz c_748
      refine lv_iload hx hb dX10_found_17 (lv_at hl 4 rfl) ?_
      refine lv_iconst (v := 0) hx hb dX10_found_19 (by decide) ?_
      refine lv_iload_n hx hb dX10_found_20 rfl (lv_at hl 3 rfl) ?_
      refine r_calli (wr := []) (r_runS (As := [.int z5, .int 0, .int z4]) (rest := []) (wc := []) C0 hE (c_X10_within_713 l D T H.size z5 z4) mw_282 mw_283 mw_1 mw_284 dn_1700 rfl rfl ⟨Nat.le_of_ble_eq_true rfl, Nat.le_of_ble_eq_true rfl⟩ (hP.sub (ws' := []) [] rfl) (hD.sub (ws' := []) [] (by decide +kernel) rfl) hl.1 rfl (Nat.le_of_ble_eq_true rfl) dX10_found_21 ⟨Nat.le_of_ble_eq_true rfl, Nat.le_of_ble_eq_true rfl⟩) hP hD hS hA [] [] rfl rfl (by decide +kernel) (by decide +kernel) (fun r751 u H locs hq hP hD hS => ?_)
      have hq : r751 = (bi (wi z5 0 z4)) := hq
      subst hq
      have hP : va_P D vwCl [] H := hP
      have hD : va_D A [] := hD
      refine W.widen (k := 0) (n := 0) (Nat.le_of_ble_eq_true rfl) (Nat.le_of_ble_eq_true rfl) ?_
      refine lv_if_ne (tgt := 31) hx hb dX10_found_24 (by decide) (fun c_752 => ?_) (fun c_752 => ?_)
      · skip
        have c_752 := bi_nz c_752
        have g1 := (Bool.and_eq_true _ _).mp c_744
        have k1 := g1.1
        have k2 := g1.2
        have k3 := c_748
        have k4 := c_752
        obtain ⟨Na, hNa, rfl⟩ := wi_nat (L := 50) (by decide) (by decide) (by decide) k1
        obtain ⟨Nb, hNb, rfl⟩ := wi_nat (L := Na) (Int32.le_refl _) (by omega) (by decide) k2
        obtain ⟨Nn, hNn, rfl⟩ := wi_nat (L := Na) (Int32.le_refl _) (by omega) (by decide) k3
        obtain ⟨Nk, hNk, rfl⟩ := wi_nat (L := Nn) (Int32.le_refl _) (by omega) (by decide) k4
        exact found10_tail hNa hNb hNn hNk (Nat.le_of_ble_eq_true rfl) (Nat.le_of_ble_eq_true rfl) C0 hE hA hr hlocks (by simp only [FO, k1, k2, k3, k4, Bool.and_self, if_true, nI_clamp (show Na < 2 ^ 31 by omega), nI_clamp (show Nb < 2 ^ 31 by omega), nI_clamp (show Nn < 2 ^ 31 by omega), nI_clamp (show Nk < 2 ^ 31 by omega)]) hS hl
      · skip
        have c_752 := bi_z c_752
        refine lv_ldc2 hx hb hown (hT _ mw_608) dX10_found_27 ?_
        exact r_lret () C0 hr hlocks hS (Nat.le_of_ble_eq_true rfl) (Nat.le_of_ble_eq_true rfl) dX10_found_30 (by first | rfl | decide +kernel | simp [bi, FO, TS, c_744, c_748, c_752]) P_nil D_nil
set_option maxHeartbeats 4000000 in
set_option maxRecDepth 100000 in
theorem c_X11_isIn_758 (l : Launch) (D : va_G) (T : Nat → ClassId) (sz : Nat) (z1 : Int64) : Met l yX11_isIn (.code yX11_isIn cX11_isIn 6 (some .boolean) :: TB) { frames := 0, cells := 0, slots := 0, locals := 0 } (PC D T [.long z1, .long 1, .long 50] [] sz) (Qi (S := Unit) (fun (r : Int32) (_ : Unit) => r = (bi (wl z1 1 50))) (fun (_ : Unit) => []) D (va_A [] sz)) 0 0 (va_A [] sz) := by
  refine ct_begin (Qc := Qi (S := Unit) (fun (r : Int32) (_ : Unit) => r = (bi (wl z1 1 50))) (fun (_ : Unit) => []) D) (by decide +kernel) (Nat.le_of_ble_eq_true rfl) ?_
  intro p e s m below meth c A ls C0 hr hlocks hnm hE hA hP hD hS hl
  have hx := C0.1
  have hb := C0.2.1
  have hml := C0.2.2.1
  have hown := C0.2.2.2.1
  have hT := C0.2.2.2.2
  have hK := hE.1
  have hl : lv_has ls 6 [(0, .long z1), (2, .long 1), (4, .long 50)] := hl
  refine lv_lload_n hx hb dX11_isIn_0 rfl (lv_at hl 0 rfl) ?_
  refine lv_lload_n hx hb dX11_isIn_1 rfl (lv_at hl 1 rfl) ?_
  refine W.lcmp hx hb dX11_isIn_2 ?_
  refine lv_if_lt (tgt := 17) hx hb dX11_isIn_3 (by decide) (fun c_756 => ?_) (fun c_756 => ?_)
  · skip
    refine lv_iconst (v := 0) hx hb dX11_isIn_17 (by decide) ?_
    exact r_zret () C0 hr (by decide +kernel) hlocks hS (Nat.le_of_ble_eq_true rfl) (Nat.le_of_ble_eq_true rfl) dX11_isIn_18 (wl_a c_756) P_nil D_nil
  · skip
    refine lv_lload_n hx hb dX11_isIn_6 rfl (lv_at hl 0 rfl) ?_
    refine lv_lload hx hb dX11_isIn_7 (lv_at hl 2 rfl) ?_
    refine W.lcmp hx hb dX11_isIn_9 ?_
    refine lv_if_gt (tgt := 17) hx hb dX11_isIn_10 (by decide) (fun c_757 => ?_) (fun c_757 => ?_)
    · skip
      refine lv_iconst (v := 0) hx hb dX11_isIn_17 (by decide) ?_
      exact r_zret () C0 hr (by decide +kernel) hlocks hS (Nat.le_of_ble_eq_true rfl) (Nat.le_of_ble_eq_true rfl) dX11_isIn_18 (wl_b c_757) P_nil D_nil
    · skip
      refine lv_iconst (v := 1) hx hb dX11_isIn_13 (by decide) ?_
      refine lv_goto (tgt := 18) hx hb dX11_isIn_14 (by decide) ?_
      exact r_zret () C0 hr (by decide +kernel) hlocks hS (Nat.le_of_ble_eq_true rfl) (Nat.le_of_ble_eq_true rfl) dX11_isIn_18 (wl_c c_756 c_757) P_nil D_nil
set_option maxHeartbeats 4000000 in
set_option maxRecDepth 100000 in
theorem c_X11_isIn_765 (l : Launch) (D : va_G) (T : Nat → ClassId) (sz : Nat) (z1 : Int64) (z2 : Int64) : Met l yX11_isIn (.code yX11_isIn cX11_isIn 6 (some .boolean) :: TB) { frames := 0, cells := 0, slots := 0, locals := 0 } (PC D T [.long z1, .long 0, .long z2] [] sz) (Qi (S := Unit) (fun (r : Int32) (_ : Unit) => r = (bi (wl z1 0 z2))) (fun (_ : Unit) => []) D (va_A [] sz)) 0 0 (va_A [] sz) := by
  refine ct_begin (Qc := Qi (S := Unit) (fun (r : Int32) (_ : Unit) => r = (bi (wl z1 0 z2))) (fun (_ : Unit) => []) D) (by decide +kernel) (Nat.le_of_ble_eq_true rfl) ?_
  intro p e s m below meth c A ls C0 hr hlocks hnm hE hA hP hD hS hl
  have hx := C0.1
  have hb := C0.2.1
  have hml := C0.2.2.1
  have hown := C0.2.2.2.1
  have hT := C0.2.2.2.2
  have hK := hE.1
  have hl : lv_has ls 6 [(0, .long z1), (2, .long 0), (4, .long z2)] := hl
  refine lv_lload_n hx hb dX11_isIn_0 rfl (lv_at hl 0 rfl) ?_
  refine lv_lload_n hx hb dX11_isIn_1 rfl (lv_at hl 1 rfl) ?_
  refine W.lcmp hx hb dX11_isIn_2 ?_
  refine lv_if_lt (tgt := 17) hx hb dX11_isIn_3 (by decide) (fun c_763 => ?_) (fun c_763 => ?_)
  · skip
    refine lv_iconst (v := 0) hx hb dX11_isIn_17 (by decide) ?_
    exact r_zret () C0 hr (by decide +kernel) hlocks hS (Nat.le_of_ble_eq_true rfl) (Nat.le_of_ble_eq_true rfl) dX11_isIn_18 (wl_a c_763) P_nil D_nil
  · skip
    refine lv_lload_n hx hb dX11_isIn_6 rfl (lv_at hl 0 rfl) ?_
    refine lv_lload hx hb dX11_isIn_7 (lv_at hl 2 rfl) ?_
    refine W.lcmp hx hb dX11_isIn_9 ?_
    refine lv_if_gt (tgt := 17) hx hb dX11_isIn_10 (by decide) (fun c_764 => ?_) (fun c_764 => ?_)
    · skip
      refine lv_iconst (v := 0) hx hb dX11_isIn_17 (by decide) ?_
      exact r_zret () C0 hr (by decide +kernel) hlocks hS (Nat.le_of_ble_eq_true rfl) (Nat.le_of_ble_eq_true rfl) dX11_isIn_18 (wl_b c_764) P_nil D_nil
    · skip
      refine lv_iconst (v := 1) hx hb dX11_isIn_13 (by decide) ?_
      refine lv_goto (tgt := 18) hx hb dX11_isIn_14 (by decide) ?_
      exact r_zret () C0 hr (by decide +kernel) hlocks hS (Nat.le_of_ble_eq_true rfl) (Nat.le_of_ble_eq_true rfl) dX11_isIn_18 (wl_c c_763 c_764) P_nil D_nil
set_option maxHeartbeats 4000000 in
set_option maxRecDepth 100000 in
theorem c_X11_found_792 (l : Launch) (D : va_G) (T : Nat → ClassId) (sz : Nat) (z1 : Nat) (z2 : Int32) (z3 : Int32) (z4 : Int32) (z5 : Int32) (z6 : Int32) : Met l yX11_found (.code yX11_found cX11_found 6 (some .long) :: TB) { frames := 2, cells := 0, slots := 0, locals := 50 } (PC D T [.ref z1, .int z2, .int z3, .int z4, .int z5, .int z6] [] sz) (Ql (S := Unit) (fun (r : Int64) (_ : Unit) => r = (FO z2 z3 z4 z5 z6)) (fun (_ : Unit) => []) D (va_A [] sz)) 0 0 (va_A [] sz) := by
  refine ct_begin (Qc := Ql (S := Unit) (fun (r : Int64) (_ : Unit) => r = (FO z2 z3 z4 z5 z6)) (fun (_ : Unit) => []) D) (by decide +kernel) (Nat.le_of_ble_eq_true rfl) ?_
  intro p e s m below meth c A ls C0 hr hlocks hnm hE hA hP hD hS hl
  have hx := C0.1
  have hb := C0.2.1
  have hml := C0.2.2.1
  have hown := C0.2.2.2.1
  have hT := C0.2.2.2.2
  have hK := hE.1
  have hl : lv_has ls 6 [(0, .ref z1), (1, .int z2), (2, .int z3), (3, .int z4), (4, .int z5), (5, .int z6)] := hl
  refine lv_iload_n hx hb dX11_found_0 rfl (lv_at hl 1 rfl) ?_
  refine lv_i2l hx hb dX11_found_1 rfl ?_
  refine lv_lconst (v := 1) hx hb dX11_found_2 (by decide) ?_
  refine lv_ldc2 hx hb hown (hT _ mw_1241) dX11_found_3 ?_
  refine r_calli (wr := []) (r_runS (As := [.long z2.toInt64, .long 1, .long 50]) (rest := []) (wc := []) C0 hE (c_X11_isIn_758 l D T s.heap.size z2.toInt64) mw_910 mw_911 mw_14 mw_912 dn_1704 rfl rfl ⟨Nat.le_of_ble_eq_true rfl, Nat.le_of_ble_eq_true rfl⟩ (hP.sub (ws' := []) [] rfl) (hD.sub (ws' := []) [] (by decide +kernel) rfl) hl.1 rfl (Nat.le_of_ble_eq_true rfl) dX11_found_6 ⟨Nat.le_of_ble_eq_true rfl, Nat.le_of_ble_eq_true rfl⟩) hP hD hS hA [] [] rfl rfl (by decide +kernel) (by decide +kernel) (fun r778 u H locs hq hP hD hS => ?_)
  have hq : r778 = (bi (wl z2.toInt64 1 50)) := hq
  subst hq
  have hP : va_P D vwCl [] H := hP
  have hD : va_D A [] := hD
  refine W.widen (k := 0) (n := 0) (Nat.le_of_ble_eq_true rfl) (Nat.le_of_ble_eq_true rfl) ?_
  refine r_ci (v := (bi (wi z2 1 50))) (congrArg bi (wl_wi (by first | rfl | decide +kernel) (by first | rfl | decide +kernel))) ?_
  refine lv_if_eq (tgt := 46) hx hb dX11_found_9 (by decide) (fun c_779 => ?_) (fun c_779 => ?_)
  · skip
    have c_779 := bi_z c_779
    refine lv_ldc2 hx hb hown (hT _ mw_1058) dX11_found_46 ?_
    exact r_lret () C0 hr hlocks hS (Nat.le_of_ble_eq_true rfl) (Nat.le_of_ble_eq_true rfl) dX11_found_49 (by first | rfl | decide +kernel | simp [bi, FO, TS, c_779]) P_nil D_nil
  · skip
    have c_779 := bi_nz c_779
    refine lv_iload_n hx hb dX11_found_12 rfl (lv_at hl 2 rfl) ?_
    refine lv_i2l hx hb dX11_found_13 rfl ?_
    refine lv_lconst (v := 0) hx hb dX11_found_14 (by decide) ?_
    refine lv_iload_n hx hb dX11_found_15 rfl (lv_at hl 1 rfl) ?_
    refine lv_i2l hx hb dX11_found_16 rfl ?_
    refine r_calli (wr := []) (r_runS (As := [.long z3.toInt64, .long 0, .long z2.toInt64]) (rest := []) (wc := []) C0 hE (c_X11_isIn_765 l D T H.size z3.toInt64 z2.toInt64) mw_910 mw_911 mw_14 mw_912 dn_1704 rfl rfl ⟨Nat.le_of_ble_eq_true rfl, Nat.le_of_ble_eq_true rfl⟩ (hP.sub (ws' := []) [] rfl) (hD.sub (ws' := []) [] (by decide +kernel) rfl) hl.1 rfl (Nat.le_of_ble_eq_true rfl) dX11_found_17 ⟨Nat.le_of_ble_eq_true rfl, Nat.le_of_ble_eq_true rfl⟩) hP hD hS hA [] [] rfl rfl (by decide +kernel) (by decide +kernel) (fun r782 u H locs hq hP hD hS => ?_)
    have hq : r782 = (bi (wl z3.toInt64 0 z2.toInt64)) := hq
    subst hq
    have hP : va_P D vwCl [] H := hP
    have hD : va_D A [] := hD
    refine W.widen (k := 0) (n := 0) (Nat.le_of_ble_eq_true rfl) (Nat.le_of_ble_eq_true rfl) ?_
    refine r_ci (v := (bi (wi z3 0 z2))) (congrArg bi (wl_wi (by first | rfl | decide +kernel) (by first | rfl | decide +kernel))) ?_
    refine lv_if_eq (tgt := 46) hx hb dX11_found_20 (by decide) (fun c_783 => ?_) (fun c_783 => ?_)
    · skip
      have c_783 := bi_z c_783
      refine lv_ldc2 hx hb hown (hT _ mw_1058) dX11_found_46 ?_
      exact r_lret () C0 hr hlocks hS (Nat.le_of_ble_eq_true rfl) (Nat.le_of_ble_eq_true rfl) dX11_found_49 (by first | rfl | decide +kernel | simp [bi, FO, TS, c_779, c_783]) P_nil D_nil
    · skip
      have c_783 := bi_nz c_783
      refine lv_iload_n hx hb dX11_found_23 rfl (lv_at hl 3 rfl) ?_
      refine lv_i2l hx hb dX11_found_24 rfl ?_
      refine lv_lconst (v := 0) hx hb dX11_found_25 (by decide) ?_
      refine lv_iload_n hx hb dX11_found_26 rfl (lv_at hl 1 rfl) ?_
      refine lv_i2l hx hb dX11_found_27 rfl ?_
      refine r_calli (wr := []) (r_runS (As := [.long z4.toInt64, .long 0, .long z2.toInt64]) (rest := []) (wc := []) C0 hE (c_X11_isIn_765 l D T H.size z4.toInt64 z2.toInt64) mw_910 mw_911 mw_14 mw_912 dn_1704 rfl rfl ⟨Nat.le_of_ble_eq_true rfl, Nat.le_of_ble_eq_true rfl⟩ (hP.sub (ws' := []) [] rfl) (hD.sub (ws' := []) [] (by decide +kernel) rfl) hl.1 rfl (Nat.le_of_ble_eq_true rfl) dX11_found_28 ⟨Nat.le_of_ble_eq_true rfl, Nat.le_of_ble_eq_true rfl⟩) hP hD hS hA [] [] rfl rfl (by decide +kernel) (by decide +kernel) (fun r786 u H locs hq hP hD hS => ?_)
      have hq : r786 = (bi (wl z4.toInt64 0 z2.toInt64)) := hq
      subst hq
      have hP : va_P D vwCl [] H := hP
      have hD : va_D A [] := hD
      refine W.widen (k := 0) (n := 0) (Nat.le_of_ble_eq_true rfl) (Nat.le_of_ble_eq_true rfl) ?_
      refine r_ci (v := (bi (wi z4 0 z2))) (congrArg bi (wl_wi (by first | rfl | decide +kernel) (by first | rfl | decide +kernel))) ?_
      refine lv_if_eq (tgt := 46) hx hb dX11_found_31 (by decide) (fun c_787 => ?_) (fun c_787 => ?_)
      · skip
        have c_787 := bi_z c_787
        refine lv_ldc2 hx hb hown (hT _ mw_1058) dX11_found_46 ?_
        exact r_lret () C0 hr hlocks hS (Nat.le_of_ble_eq_true rfl) (Nat.le_of_ble_eq_true rfl) dX11_found_49 (by first | rfl | decide +kernel | simp [bi, FO, TS, c_779, c_783, c_787]) P_nil D_nil
      · skip
        have c_787 := bi_nz c_787
        refine lv_iload hx hb dX11_found_34 (lv_at hl 4 rfl) ?_
        refine lv_i2l hx hb dX11_found_36 rfl ?_
        refine lv_lconst (v := 0) hx hb dX11_found_37 (by decide) ?_
        refine lv_iload_n hx hb dX11_found_38 rfl (lv_at hl 3 rfl) ?_
        refine lv_i2l hx hb dX11_found_39 rfl ?_
        refine r_calli (wr := []) (r_runS (As := [.long z5.toInt64, .long 0, .long z4.toInt64]) (rest := []) (wc := []) C0 hE (c_X11_isIn_765 l D T H.size z5.toInt64 z4.toInt64) mw_910 mw_911 mw_14 mw_912 dn_1704 rfl rfl ⟨Nat.le_of_ble_eq_true rfl, Nat.le_of_ble_eq_true rfl⟩ (hP.sub (ws' := []) [] rfl) (hD.sub (ws' := []) [] (by decide +kernel) rfl) hl.1 rfl (Nat.le_of_ble_eq_true rfl) dX11_found_40 ⟨Nat.le_of_ble_eq_true rfl, Nat.le_of_ble_eq_true rfl⟩) hP hD hS hA [] [] rfl rfl (by decide +kernel) (by decide +kernel) (fun r790 u H locs hq hP hD hS => ?_)
        have hq : r790 = (bi (wl z5.toInt64 0 z4.toInt64)) := hq
        subst hq
        have hP : va_P D vwCl [] H := hP
        have hD : va_D A [] := hD
        refine W.widen (k := 0) (n := 0) (Nat.le_of_ble_eq_true rfl) (Nat.le_of_ble_eq_true rfl) ?_
        refine r_ci (v := (bi (wi z5 0 z4))) (congrArg bi (wl_wi (by first | rfl | decide +kernel) (by first | rfl | decide +kernel))) ?_
        refine lv_if_ne (tgt := 50) hx hb dX11_found_43 (by decide) (fun c_791 => ?_) (fun c_791 => ?_)
        · skip
          have c_791 := bi_nz c_791
          have k1 := c_779
          have k2 := c_783
          have k3 := c_787
          have k4 := c_791
          obtain ⟨Na, hNa, rfl⟩ := wi_nat (L := 50) (by decide) (by decide) (by decide) k1
          obtain ⟨Nb, hNb, rfl⟩ := wi_nat (L := Na) (Int32.le_refl _) (by omega) (by decide) k2
          obtain ⟨Nn, hNn, rfl⟩ := wi_nat (L := Na) (Int32.le_refl _) (by omega) (by decide) k3
          obtain ⟨Nk, hNk, rfl⟩ := wi_nat (L := Nn) (Int32.le_refl _) (by omega) (by decide) k4
          exact found11_tail hNa hNb hNn hNk (Nat.le_of_ble_eq_true rfl) (Nat.le_of_ble_eq_true rfl) C0 hE hA hr hlocks (by simp only [FO, k1, k2, k3, k4, Bool.and_self, if_true, nI_clamp (show Na < 2 ^ 31 by omega), nI_clamp (show Nb < 2 ^ 31 by omega), nI_clamp (show Nn < 2 ^ 31 by omega), nI_clamp (show Nk < 2 ^ 31 by omega)]) hS hl
        · skip
          have c_791 := bi_z c_791
          refine lv_ldc2 hx hb hown (hT _ mw_1058) dX11_found_46 ?_
          exact r_lret () C0 hr hlocks hS (Nat.le_of_ble_eq_true rfl) (Nat.le_of_ble_eq_true rfl) dX11_found_49 (by first | rfl | decide +kernel | simp [bi, FO, TS, c_779, c_783, c_787, c_791]) P_nil D_nil
