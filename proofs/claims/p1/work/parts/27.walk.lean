set_option maxHeartbeats 4000000 in
set_option maxRecDepth 100000 in
theorem c_X10_fault_939 (l : Launch) (D : va_G) (T : Nat → ClassId) (sz : Nat) (z1 : Nat) (z2 : Int32) (z3 : Nat) (z4 : Nat) (z5 : Nat) (z6 : Nat) (z7 : Nat) (z8 : Nat) (z9 : Nat) (z10 : Nat) (z11 : Nat) (z12 : Nat) (z13 : Nat) : Met l yX10_fault (.code yX10_fault cX10_fault 2 (some .int) :: TB) { frames := 0, cells := 0, slots := 0, locals := 0 } (PC D T [.ref z1, .int z2] [(z1, .inr (10, [.ref z3, .ref z4, .ref z5, .ref z6, .ref z7, .ref z8, .ref z9, .ref z10, .ref z11, .ref z12, .ref z13, .int 1, .int (-1), .int 0, .int (-1)]))] sz) (Qi (S := Unit) (fun (r : Int32) (_ : Unit) => r = (if z2 = 0 then 0 else (-1))) (fun (_ : Unit) => []) D (va_A [(z1, .inr (10, [.ref z3, .ref z4, .ref z5, .ref z6, .ref z7, .ref z8, .ref z9, .ref z10, .ref z11, .ref z12, .ref z13, .int 1, .int (-1), .int 0, .int (-1)]))] sz)) 0 0 (va_A [(z1, .inr (10, [.ref z3, .ref z4, .ref z5, .ref z6, .ref z7, .ref z8, .ref z9, .ref z10, .ref z11, .ref z12, .ref z13, .int 1, .int (-1), .int 0, .int (-1)]))] sz) := by
  refine ct_begin (Qc := Qi (S := Unit) (fun (r : Int32) (_ : Unit) => r = (if z2 = 0 then 0 else (-1))) (fun (_ : Unit) => []) D) (by decide +kernel) (Nat.le_of_ble_eq_true rfl) ?_
  intro p e s m below meth c A ls C0 hr hlocks hnm hE hA hP hD hS hl
  have hx := C0.1
  have hb := C0.2.1
  have hml := C0.2.2.1
  have hown := C0.2.2.2.1
  have hT := C0.2.2.2.2
  have hK := hE.1
  have hl : lv_has ls 2 [(0, .ref z1), (1, .int z2)] := hl
  refine lv_iload_n hx hb dX10_fault_0 rfl (lv_at hl 1 rfl) ?_
  refine lv_if_ne (tgt := 9) hx hb dX10_fault_1 (by decide) (fun c_937 => ?_) (fun c_937 => ?_)
  · skip
    refine lv_iload_n hx hb dX10_fault_9 rfl (lv_at hl 1 rfl) ?_
    refine lv_iconst (v := 1) hx hb dX10_fault_10 (by decide) ?_
    refine lv_icmp_ne (tgt := 21) hx hb dX10_fault_11 (by decide) (fun c_938 => ?_) (fun c_938 => ?_)
    · skip
      refine lv_iconst (v := (-1)) hx hb dX10_fault_21 (by decide) ?_
      exact r_iret () C0 hr hlocks hS (Nat.le_of_ble_eq_true rfl) (Nat.le_of_ble_eq_true rfl) dX10_fault_22 (by first | rfl | decide +kernel | simp [bi, FO, TS, c_937, c_938]) P_nil D_nil
    · skip
      refine lv_aload_n hx hb dX10_fault_14 rfl (lv_at hl 0 rfl) ?_
      refine r_get (v := .int (-1)) C0 hE ffX10_14 mw_285 hP 0 rfl rfl dX10_fault_15 ?_
      refine lv_goto (tgt := 22) hx hb dX10_fault_18 (by decide) ?_
      exact r_iret () C0 hr hlocks hS (Nat.le_of_ble_eq_true rfl) (Nat.le_of_ble_eq_true rfl) dX10_fault_22 (by first | rfl | decide +kernel | simp [bi, FO, TS, c_937, c_938]) P_nil D_nil
  · skip
    refine lv_aload_n hx hb dX10_fault_4 rfl (lv_at hl 0 rfl) ?_
    refine r_get (v := .int 0) C0 hE ffX10_13 mw_283 hP 0 rfl rfl dX10_fault_5 ?_
    exact r_iret () C0 hr hlocks hS (Nat.le_of_ble_eq_true rfl) (Nat.le_of_ble_eq_true rfl) dX10_fault_8 (by first | rfl | decide +kernel | simp [bi, FO, TS, c_937]) P_nil D_nil
set_option maxHeartbeats 4000000 in
set_option maxRecDepth 100000 in
theorem c_X10_within_944 (l : Launch) (D : va_G) (T : Nat → ClassId) (sz : Nat) (z1 : Int32) : Met l yX10_within (.code yX10_within cX10_within 3 (some .boolean) :: TB) { frames := 0, cells := 0, slots := 0, locals := 0 } (PC D T [.int z1, .int 0, .int (-1)] [] sz) (Qi (S := Unit) (fun (r : Int32) (_ : Unit) => r = (bi (wi z1 0 (-1)))) (fun (_ : Unit) => []) D (va_A [] sz)) 0 0 (va_A [] sz) := by
  refine ct_begin (Qc := Qi (S := Unit) (fun (r : Int32) (_ : Unit) => r = (bi (wi z1 0 (-1)))) (fun (_ : Unit) => []) D) (by decide +kernel) (Nat.le_of_ble_eq_true rfl) ?_
  intro p e s m below meth c A ls C0 hr hlocks hnm hE hA hP hD hS hl
  have hx := C0.1
  have hb := C0.2.1
  have hml := C0.2.2.1
  have hown := C0.2.2.2.1
  have hT := C0.2.2.2.2
  have hK := hE.1
  have hl : lv_has ls 3 [(0, .int z1), (1, .int 0), (2, .int (-1))] := hl
  refine lv_iload_n hx hb dX10_within_0 rfl (lv_at hl 0 rfl) ?_
  refine lv_iload_n hx hb dX10_within_1 rfl (lv_at hl 1 rfl) ?_
  refine lv_icmp_lt (tgt := 14) hx hb dX10_within_2 (by decide) (fun c_942 => ?_) (fun c_942 => ?_)
  · skip
    refine lv_iconst (v := 0) hx hb dX10_within_14 (by decide) ?_
    exact r_zret () C0 hr (by decide +kernel) hlocks hS (Nat.le_of_ble_eq_true rfl) (Nat.le_of_ble_eq_true rfl) dX10_within_15 (wi_a c_942) P_nil D_nil
  · skip
    refine lv_iload_n hx hb dX10_within_5 rfl (lv_at hl 0 rfl) ?_
    refine lv_iload_n hx hb dX10_within_6 rfl (lv_at hl 2 rfl) ?_
    refine lv_icmp_gt (tgt := 14) hx hb dX10_within_7 (by decide) (fun c_943 => ?_) (fun c_943 => ?_)
    · skip
      refine lv_iconst (v := 0) hx hb dX10_within_14 (by decide) ?_
      exact r_zret () C0 hr (by decide +kernel) hlocks hS (Nat.le_of_ble_eq_true rfl) (Nat.le_of_ble_eq_true rfl) dX10_within_15 (wi_b c_943) P_nil D_nil
    · skip
      exact absurd (Int32.lt_of_lt_of_le (show ((-1) : Int32) < 0 by decide +kernel) (Int32.not_lt.mp c_942)) c_943
set_option maxHeartbeats 4000000 in
set_option maxRecDepth 100000 in
theorem c_X10_kind_951 (l : Launch) (D : va_G) (T : Nat → ClassId) (sz : Nat) (z1 : Nat) (z2 : Int32) (z3 : Int32) (z4 : Nat) (z5 : Nat) (z6 : Nat) (z7 : Nat) (z8 : Nat) (z9 : Nat) (z10 : Nat) (z11 : Nat) (z12 : Nat) (z13 : Nat) (z14 : Nat) (z15 : Nat) (z16 : Nat) (z17 : Nat) (z18 : Nat) (z19 : Nat) (z20 : Nat) (z21 : Nat) (z22 : Nat) (z23 : Nat) : Met l yX10_kind (.code yX10_kind cX10_kind 3 (some .int) :: TB) { frames := 1, cells := 0, slots := 0, locals := 22 } (PC D T [.ref z1, .int z2, .int z3] [(z1, .inr (10, [.ref z4, .ref z5, .ref z6, .ref z7, .ref z8, .ref z9, .ref z10, .ref z11, .ref z12, .ref z13, .ref z14, .int 1, .int (-1), .int 0, .int (-1)])), (z13, .inr (8, [.ref z15, .ref z16, .ref z17, .ref z18, .ref z19, .ref z20, .ref z21, .ref z22, .ref z23, .int 0, .int 0, .int 0, .int 0]))] sz) (Qi (S := Unit) (fun (r : Int32) (_ : Unit) => r = (-1)) (fun (_ : Unit) => []) D (va_A [(z1, .inr (10, [.ref z4, .ref z5, .ref z6, .ref z7, .ref z8, .ref z9, .ref z10, .ref z11, .ref z12, .ref z13, .ref z14, .int 1, .int (-1), .int 0, .int (-1)])), (z13, .inr (8, [.ref z15, .ref z16, .ref z17, .ref z18, .ref z19, .ref z20, .ref z21, .ref z22, .ref z23, .int 0, .int 0, .int 0, .int 0]))] sz)) 0 0 (va_A [(z1, .inr (10, [.ref z4, .ref z5, .ref z6, .ref z7, .ref z8, .ref z9, .ref z10, .ref z11, .ref z12, .ref z13, .ref z14, .int 1, .int (-1), .int 0, .int (-1)])), (z13, .inr (8, [.ref z15, .ref z16, .ref z17, .ref z18, .ref z19, .ref z20, .ref z21, .ref z22, .ref z23, .int 0, .int 0, .int 0, .int 0]))] sz) := by
  refine ct_begin (Qc := Qi (S := Unit) (fun (r : Int32) (_ : Unit) => r = (-1)) (fun (_ : Unit) => []) D) (by decide +kernel) (Nat.le_of_ble_eq_true rfl) ?_
  intro p e s m below meth c A ls C0 hr hlocks hnm hE hA hP hD hS hl
  have hx := C0.1
  have hb := C0.2.1
  have hml := C0.2.2.1
  have hown := C0.2.2.2.1
  have hT := C0.2.2.2.2
  have hK := hE.1
  have hl : lv_has ls 3 [(0, .ref z1), (1, .int z2), (2, .int z3)] := hl
  refine lv_iload_n hx hb dX10_kind_0 rfl (lv_at hl 1 rfl) ?_
  refine lv_iconst (v := 0) hx hb dX10_kind_1 (by decide) ?_
  refine lv_aload_n hx hb dX10_kind_2 rfl (lv_at hl 0 rfl) ?_
  refine r_get (v := .ref z13) C0 hE ffX10_9 mw_255 hP 0 rfl rfl dX10_kind_3 ?_
  refine r_get (v := .int 0) C0 hE ffX8_9 mw_526 hP 1 rfl rfl dX10_kind_6 ?_
  refine lv_iconst (v := 1) hx hb dX10_kind_9 (by decide) ?_
  refine lv_isub hx hb dX10_kind_10 ?_
  refine r_ci (v := (-1)) (by decide +kernel) ?_
  refine r_calli (wr := [(z1, .inr (10, [.ref z4, .ref z5, .ref z6, .ref z7, .ref z8, .ref z9, .ref z10, .ref z11, .ref z12, .ref z13, .ref z14, .int 1, .int (-1), .int 0, .int (-1)])), (z13, .inr (8, [.ref z15, .ref z16, .ref z17, .ref z18, .ref z19, .ref z20, .ref z21, .ref z22, .ref z23, .int 0, .int 0, .int 0, .int 0]))]) (r_runS (As := [.int z2, .int 0, .int (-1)]) (rest := []) (wc := []) C0 hE (c_X10_within_944 l D T s.heap.size z2) mw_483 mw_484 mw_7 mw_485 dn_482 rfl rfl ⟨Nat.le_of_ble_eq_true rfl, Nat.le_of_ble_eq_true rfl⟩ (hP.sub (ws' := []) [] rfl) (hD.sub (ws' := []) [] (by decide +kernel) rfl) hl.1 rfl (Nat.le_of_ble_eq_true rfl) dX10_kind_11 ⟨Nat.le_of_ble_eq_true rfl, Nat.le_of_ble_eq_true rfl⟩) hP hD hS hA [] [0, 1] rfl rfl (by decide +kernel) (by decide +kernel) (fun r949 u H locs hq hP hD hS => ?_)
  have hq : r949 = (bi (wi z2 0 (-1))) := hq
  subst hq
  have hP : va_P D vwCl [(z1, .inr (10, [.ref z4, .ref z5, .ref z6, .ref z7, .ref z8, .ref z9, .ref z10, .ref z11, .ref z12, .ref z13, .ref z14, .int 1, .int (-1), .int 0, .int (-1)])), (z13, .inr (8, [.ref z15, .ref z16, .ref z17, .ref z18, .ref z19, .ref z20, .ref z21, .ref z22, .ref z23, .int 0, .int 0, .int 0, .int 0]))] H := hP
  have hD : va_D A [(z1, .inr (10, [.ref z4, .ref z5, .ref z6, .ref z7, .ref z8, .ref z9, .ref z10, .ref z11, .ref z12, .ref z13, .ref z14, .int 1, .int (-1), .int 0, .int (-1)])), (z13, .inr (8, [.ref z15, .ref z16, .ref z17, .ref z18, .ref z19, .ref z20, .ref z21, .ref z22, .ref z23, .int 0, .int 0, .int 0, .int 0]))] := hD
  refine W.widen (k := 0) (n := 0) (Nat.le_of_ble_eq_true rfl) (Nat.le_of_ble_eq_true rfl) ?_
  refine lv_if_eq (tgt := 26) hx hb dX10_kind_14 (by decide) (fun c_950 => ?_) (fun c_950 => ?_)
  · skip
    have c_950 := bi_z c_950
    refine lv_iconst (v := (-1)) hx hb dX10_kind_26 (by decide) ?_
    exact r_iret () C0 hr hlocks hS (Nat.le_of_ble_eq_true rfl) (Nat.le_of_ble_eq_true rfl) dX10_kind_27 (by first | rfl | decide +kernel | simp [bi, FO, TS, c_950]) P_nil D_nil
  · skip
    have c_950 := bi_nz c_950
    exact absurd c_950 (wi_empty (by decide +kernel))
set_option maxHeartbeats 4000000 in
set_option maxRecDepth 100000 in
theorem c_X10_within_956 (l : Launch) (D : va_G) (T : Nat → ClassId) (sz : Nat) (z1 : Int32) : Met l yX10_within (.code yX10_within cX10_within 3 (some .boolean) :: TB) { frames := 0, cells := 0, slots := 0, locals := 0 } (PC D T [.int z1, .int 0, .int 0] [] sz) (Qi (S := Unit) (fun (r : Int32) (_ : Unit) => r = (bi (wi z1 0 0))) (fun (_ : Unit) => []) D (va_A [] sz)) 0 0 (va_A [] sz) := by
  refine ct_begin (Qc := Qi (S := Unit) (fun (r : Int32) (_ : Unit) => r = (bi (wi z1 0 0))) (fun (_ : Unit) => []) D) (by decide +kernel) (Nat.le_of_ble_eq_true rfl) ?_
  intro p e s m below meth c A ls C0 hr hlocks hnm hE hA hP hD hS hl
  have hx := C0.1
  have hb := C0.2.1
  have hml := C0.2.2.1
  have hown := C0.2.2.2.1
  have hT := C0.2.2.2.2
  have hK := hE.1
  have hl : lv_has ls 3 [(0, .int z1), (1, .int 0), (2, .int 0)] := hl
  refine lv_iload_n hx hb dX10_within_0 rfl (lv_at hl 0 rfl) ?_
  refine lv_iload_n hx hb dX10_within_1 rfl (lv_at hl 1 rfl) ?_
  refine lv_icmp_lt (tgt := 14) hx hb dX10_within_2 (by decide) (fun c_954 => ?_) (fun c_954 => ?_)
  · skip
    refine lv_iconst (v := 0) hx hb dX10_within_14 (by decide) ?_
    exact r_zret () C0 hr (by decide +kernel) hlocks hS (Nat.le_of_ble_eq_true rfl) (Nat.le_of_ble_eq_true rfl) dX10_within_15 (wi_a c_954) P_nil D_nil
  · skip
    refine lv_iload_n hx hb dX10_within_5 rfl (lv_at hl 0 rfl) ?_
    refine lv_iload_n hx hb dX10_within_6 rfl (lv_at hl 2 rfl) ?_
    refine lv_icmp_gt (tgt := 14) hx hb dX10_within_7 (by decide) (fun c_955 => ?_) (fun c_955 => ?_)
    · skip
      refine lv_iconst (v := 0) hx hb dX10_within_14 (by decide) ?_
      exact r_zret () C0 hr (by decide +kernel) hlocks hS (Nat.le_of_ble_eq_true rfl) (Nat.le_of_ble_eq_true rfl) dX10_within_15 (wi_b c_955) P_nil D_nil
    · skip
      refine lv_iconst (v := 1) hx hb dX10_within_10 (by decide) ?_
      refine lv_goto (tgt := 15) hx hb dX10_within_11 (by decide) ?_
      exact r_zret () C0 hr (by decide +kernel) hlocks hS (Nat.le_of_ble_eq_true rfl) (Nat.le_of_ble_eq_true rfl) dX10_within_15 (wi_c c_954 c_955) P_nil D_nil
set_option maxHeartbeats 4000000 in
set_option maxRecDepth 100000 in
theorem c_X10_isCell_961 (l : Launch) (D : va_G) (T : Nat → ClassId) (sz : Nat) (z1 : Nat) (z2 : Int32) (z3 : Nat) (z4 : Nat) (z5 : Nat) (z6 : Nat) (z7 : Nat) (z8 : Nat) (z9 : Nat) (z10 : Nat) (z11 : Nat) (z12 : Nat) (z13 : Nat) : Met l yX10_isCell (.code yX10_isCell cX10_isCell 2 (some .boolean) :: TB) { frames := 1, cells := 0, slots := 0, locals := 22 } (PC D T [.ref z1, .int z2] [(z1, .inr (10, [.ref z3, .ref z4, .ref z5, .ref z6, .ref z7, .ref z8, .ref z9, .ref z10, .ref z11, .ref z12, .ref z13, .int 1, .int (-1), .int 0, .int (-1)]))] sz) (Qi (S := Unit) (fun (r : Int32) (_ : Unit) => r = (bi (wi z2 0 0))) (fun (_ : Unit) => [(z1, .inr (10, [.ref z3, .ref z4, .ref z5, .ref z6, .ref z7, .ref z8, .ref z9, .ref z10, .ref z11, .ref z12, .ref z13, .int 1, .int (-1), .int 0, .int (-1)]))]) D (va_A [(z1, .inr (10, [.ref z3, .ref z4, .ref z5, .ref z6, .ref z7, .ref z8, .ref z9, .ref z10, .ref z11, .ref z12, .ref z13, .int 1, .int (-1), .int 0, .int (-1)]))] sz)) 0 0 (va_A [(z1, .inr (10, [.ref z3, .ref z4, .ref z5, .ref z6, .ref z7, .ref z8, .ref z9, .ref z10, .ref z11, .ref z12, .ref z13, .int 1, .int (-1), .int 0, .int (-1)]))] sz) := by
  refine ct_begin (Qc := Qi (S := Unit) (fun (r : Int32) (_ : Unit) => r = (bi (wi z2 0 0))) (fun (_ : Unit) => [(z1, .inr (10, [.ref z3, .ref z4, .ref z5, .ref z6, .ref z7, .ref z8, .ref z9, .ref z10, .ref z11, .ref z12, .ref z13, .int 1, .int (-1), .int 0, .int (-1)]))]) D) (by decide +kernel) (Nat.le_of_ble_eq_true rfl) ?_
  intro p e s m below meth c A ls C0 hr hlocks hnm hE hA hP hD hS hl
  have hx := C0.1
  have hb := C0.2.1
  have hml := C0.2.2.1
  have hown := C0.2.2.2.1
  have hT := C0.2.2.2.2
  have hK := hE.1
  have hl : lv_has ls 2 [(0, .ref z1), (1, .int z2)] := hl
  refine lv_iload_n hx hb dX10_isCell_0 rfl (lv_at hl 1 rfl) ?_
  refine lv_iconst (v := 0) hx hb dX10_isCell_1 (by decide) ?_
  refine lv_aload_n hx hb dX10_isCell_2 rfl (lv_at hl 0 rfl) ?_
  refine r_get (v := .int 1) C0 hE ffX10_11 mw_279 hP 0 rfl rfl dX10_isCell_3 ?_
  refine lv_iconst (v := 1) hx hb dX10_isCell_6 (by decide) ?_
  refine lv_isub hx hb dX10_isCell_7 ?_
  refine r_ci (v := 0) (by decide +kernel) ?_
  refine r_calli (wr := [(z1, .inr (10, [.ref z3, .ref z4, .ref z5, .ref z6, .ref z7, .ref z8, .ref z9, .ref z10, .ref z11, .ref z12, .ref z13, .int 1, .int (-1), .int 0, .int (-1)]))]) (r_runS (As := [.int z2, .int 0, .int 0]) (rest := []) (wc := []) C0 hE (c_X10_within_956 l D T s.heap.size z2) mw_483 mw_484 mw_7 mw_485 dn_482 rfl rfl ⟨Nat.le_of_ble_eq_true rfl, Nat.le_of_ble_eq_true rfl⟩ (hP.sub (ws' := []) [] rfl) (hD.sub (ws' := []) [] (by decide +kernel) rfl) hl.1 rfl (Nat.le_of_ble_eq_true rfl) dX10_isCell_8 ⟨Nat.le_of_ble_eq_true rfl, Nat.le_of_ble_eq_true rfl⟩) hP hD hS hA [] [0] rfl rfl (by decide +kernel) (by decide +kernel) (fun r960 u H locs hq hP hD hS => ?_)
  have hq : r960 = (bi (wi z2 0 0)) := hq
  subst hq
  have hP : va_P D vwCl [(z1, .inr (10, [.ref z3, .ref z4, .ref z5, .ref z6, .ref z7, .ref z8, .ref z9, .ref z10, .ref z11, .ref z12, .ref z13, .int 1, .int (-1), .int 0, .int (-1)]))] H := hP
  have hD : va_D A [(z1, .inr (10, [.ref z3, .ref z4, .ref z5, .ref z6, .ref z7, .ref z8, .ref z9, .ref z10, .ref z11, .ref z12, .ref z13, .int 1, .int (-1), .int 0, .int (-1)]))] := hD
  refine W.widen (k := 0) (n := 0) (Nat.le_of_ble_eq_true rfl) (Nat.le_of_ble_eq_true rfl) ?_
  exact r_zret () C0 hr (bi_nar _) hlocks hS (Nat.le_of_ble_eq_true rfl) (Nat.le_of_ble_eq_true rfl) dX10_isCell_11 rfl hP hD
set_option maxHeartbeats 4000000 in
set_option maxRecDepth 100000 in
theorem c_X10_hook_977 (l : Launch) (D : va_G) (T : Nat → ClassId) (sz : Nat) (z1 : Nat) (z2 : Int32) (z3 : Int32) (z4 : Int32) (z5 : Nat) (z6 : Nat) (z7 : Nat) (z8 : Nat) (z9 : Nat) (z10 : Nat) (z11 : Nat) (z12 : Nat) (z13 : Nat) (z14 : Nat) (z15 : Nat) (z16 : Nat) (z17 : Nat) (z18 : Nat) (z19 : Nat) (z20 : Nat) (z21 : Nat) (z22 : Nat) (z23 : Nat) (z24 : Nat) : Met l yX10_hook (.code yX10_hook cX10_hook 4 (some .int) :: TB) { frames := 2, cells := 0, slots := 0, locals := 43 } (PC D T [.ref z1, .int z2, .int z3, .int z4] [(z1, .inr (10, [.ref z5, .ref z6, .ref z7, .ref z8, .ref z9, .ref z10, .ref z11, .ref z12, .ref z13, .ref z14, .ref z15, .int 1, .int (-1), .int 0, .int (-1)])), (z14, .inr (8, [.ref z16, .ref z17, .ref z18, .ref z19, .ref z20, .ref z21, .ref z22, .ref z23, .ref z24, .int 0, .int 0, .int 0, .int 0]))] sz) (Qi (S := Unit) (fun (r : Int32) (_ : Unit) => r = (-1)) (fun (_ : Unit) => []) D (va_A [(z1, .inr (10, [.ref z5, .ref z6, .ref z7, .ref z8, .ref z9, .ref z10, .ref z11, .ref z12, .ref z13, .ref z14, .ref z15, .int 1, .int (-1), .int 0, .int (-1)])), (z14, .inr (8, [.ref z16, .ref z17, .ref z18, .ref z19, .ref z20, .ref z21, .ref z22, .ref z23, .ref z24, .int 0, .int 0, .int 0, .int 0]))] sz)) 0 0 (va_A [(z1, .inr (10, [.ref z5, .ref z6, .ref z7, .ref z8, .ref z9, .ref z10, .ref z11, .ref z12, .ref z13, .ref z14, .ref z15, .int 1, .int (-1), .int 0, .int (-1)])), (z14, .inr (8, [.ref z16, .ref z17, .ref z18, .ref z19, .ref z20, .ref z21, .ref z22, .ref z23, .ref z24, .int 0, .int 0, .int 0, .int 0]))] sz) := by
  refine ct_begin (Qc := Qi (S := Unit) (fun (r : Int32) (_ : Unit) => r = (-1)) (fun (_ : Unit) => []) D) (by decide +kernel) (Nat.le_of_ble_eq_true rfl) ?_
  intro p e s m below meth c A ls C0 hr hlocks hnm hE hA hP hD hS hl
  have hx := C0.1
  have hb := C0.2.1
  have hml := C0.2.2.1
  have hown := C0.2.2.2.1
  have hT := C0.2.2.2.2
  have hK := hE.1
  have hl : lv_has ls 4 [(0, .ref z1), (1, .int z2), (2, .int z3), (3, .int z4)] := hl
  refine lv_aload_n hx hb dX10_hook_0 rfl (lv_at hl 0 rfl) ?_
  refine lv_iload_n hx hb dX10_hook_1 rfl (lv_at hl 1 rfl) ?_
  refine r_calli (wr := [(z14, .inr (8, [.ref z16, .ref z17, .ref z18, .ref z19, .ref z20, .ref z21, .ref z22, .ref z23, .ref z24, .int 0, .int 0, .int 0, .int 0]))]) (r_runV (As := [.int z2]) (rest := []) (wc := [(z1, .inr (10, [.ref z5, .ref z6, .ref z7, .ref z8, .ref z9, .ref z10, .ref z11, .ref z12, .ref z13, .ref z14, .ref z15, .int 1, .int (-1), .int 0, .int (-1)]))]) (ci := 10) C0 hE (c_X10_isCell_961 l D T s.heap.size z1 z2 z5 z6 z7 z8 z9 z10 z11 z12 z13 z14 z15) mw_528 mw_529 mw_530 mw_7 mw_531 dn_527 rfl rfl ⟨Nat.le_of_ble_eq_true rfl, Nat.le_of_ble_eq_true rfl⟩ (hP.sub (ws' := [(z1, .inr (10, [.ref z5, .ref z6, .ref z7, .ref z8, .ref z9, .ref z10, .ref z11, .ref z12, .ref z13, .ref z14, .ref z15, .int 1, .int (-1), .int 0, .int (-1)]))]) [0] rfl) (hD.sub (ws' := [(z1, .inr (10, [.ref z5, .ref z6, .ref z7, .ref z8, .ref z9, .ref z10, .ref z11, .ref z12, .ref z13, .ref z14, .ref z15, .int 1, .int (-1), .int 0, .int (-1)]))]) [0] (by decide +kernel) rfl) rfl rfl rfl hl.1 rfl (Nat.le_of_ble_eq_true rfl) dX10_hook_2 ⟨Nat.le_of_ble_eq_true rfl, Nat.le_of_ble_eq_true rfl⟩) hP hD hS hA [0] [1] rfl rfl (by decide +kernel) (by decide +kernel) (fun r971 u H locs hq hP hD hS => ?_)
  have hq : r971 = (bi (wi z2 0 0)) := hq
  subst hq
  have hP : va_P D vwCl [(z14, .inr (8, [.ref z16, .ref z17, .ref z18, .ref z19, .ref z20, .ref z21, .ref z22, .ref z23, .ref z24, .int 0, .int 0, .int 0, .int 0])), (z1, .inr (10, [.ref z5, .ref z6, .ref z7, .ref z8, .ref z9, .ref z10, .ref z11, .ref z12, .ref z13, .ref z14, .ref z15, .int 1, .int (-1), .int 0, .int (-1)]))] H := hP
  have hD : va_D A [(z14, .inr (8, [.ref z16, .ref z17, .ref z18, .ref z19, .ref z20, .ref z21, .ref z22, .ref z23, .ref z24, .int 0, .int 0, .int 0, .int 0])), (z1, .inr (10, [.ref z5, .ref z6, .ref z7, .ref z8, .ref z9, .ref z10, .ref z11, .ref z12, .ref z13, .ref z14, .ref z15, .int 1, .int (-1), .int 0, .int (-1)]))] := hD
  refine W.widen (k := 0) (n := 0) (Nat.le_of_ble_eq_true rfl) (Nat.le_of_ble_eq_true rfl) ?_
  refine lv_if_eq (tgt := 35) hx hb dX10_hook_5 (by decide) (fun c_972 => ?_) (fun c_972 => ?_)
  · skip
    have c_972 := bi_z c_972
    refine lv_iconst (v := (-1)) hx hb dX10_hook_35 (by decide) ?_
    exact r_iret () C0 hr hlocks hS (Nat.le_of_ble_eq_true rfl) (Nat.le_of_ble_eq_true rfl) dX10_hook_36 (by first | rfl | decide +kernel | simp [bi, FO, TS, c_972]) P_nil D_nil
  · skip
    have c_972 := bi_nz c_972
    obtain rfl := wi_one c_972
    refine lv_iload_n hx hb dX10_hook_8 rfl (lv_at hl 2 rfl) ?_
    refine lv_iconst (v := 0) hx hb dX10_hook_9 (by decide) ?_
    refine lv_aload_n hx hb dX10_hook_10 rfl (lv_at hl 0 rfl) ?_
    refine r_get (v := .ref z14) C0 hE ffX10_9 mw_255 hP 1 rfl rfl dX10_hook_11 ?_
    refine r_get (v := .int 0) C0 hE ffX8_9 mw_526 hP 0 rfl rfl dX10_hook_14 ?_
    refine lv_iconst (v := 1) hx hb dX10_hook_17 (by decide) ?_
    refine lv_isub hx hb dX10_hook_18 ?_
    refine r_ci (v := (-1)) (by decide +kernel) ?_
    refine r_calli (wr := [(z14, .inr (8, [.ref z16, .ref z17, .ref z18, .ref z19, .ref z20, .ref z21, .ref z22, .ref z23, .ref z24, .int 0, .int 0, .int 0, .int 0])), (z1, .inr (10, [.ref z5, .ref z6, .ref z7, .ref z8, .ref z9, .ref z10, .ref z11, .ref z12, .ref z13, .ref z14, .ref z15, .int 1, .int (-1), .int 0, .int (-1)]))]) (r_runS (As := [.int z3, .int 0, .int (-1)]) (rest := []) (wc := []) C0 hE (c_X10_within_944 l D T H.size z3) mw_483 mw_484 mw_7 mw_485 dn_482 rfl rfl ⟨Nat.le_of_ble_eq_true rfl, Nat.le_of_ble_eq_true rfl⟩ (hP.sub (ws' := []) [] rfl) (hD.sub (ws' := []) [] (by decide +kernel) rfl) hl.1 rfl (Nat.le_of_ble_eq_true rfl) dX10_hook_19 ⟨Nat.le_of_ble_eq_true rfl, Nat.le_of_ble_eq_true rfl⟩) hP hD hS hA [] [0, 1] rfl rfl (by decide +kernel) (by decide +kernel) (fun r975 u H locs hq hP hD hS => ?_)
    have hq : r975 = (bi (wi z3 0 (-1))) := hq
    subst hq
    have hP : va_P D vwCl [(z14, .inr (8, [.ref z16, .ref z17, .ref z18, .ref z19, .ref z20, .ref z21, .ref z22, .ref z23, .ref z24, .int 0, .int 0, .int 0, .int 0])), (z1, .inr (10, [.ref z5, .ref z6, .ref z7, .ref z8, .ref z9, .ref z10, .ref z11, .ref z12, .ref z13, .ref z14, .ref z15, .int 1, .int (-1), .int 0, .int (-1)]))] H := hP
    have hD : va_D A [(z14, .inr (8, [.ref z16, .ref z17, .ref z18, .ref z19, .ref z20, .ref z21, .ref z22, .ref z23, .ref z24, .int 0, .int 0, .int 0, .int 0])), (z1, .inr (10, [.ref z5, .ref z6, .ref z7, .ref z8, .ref z9, .ref z10, .ref z11, .ref z12, .ref z13, .ref z14, .ref z15, .int 1, .int (-1), .int 0, .int (-1)]))] := hD
    refine W.widen (k := 0) (n := 0) (Nat.le_of_ble_eq_true rfl) (Nat.le_of_ble_eq_true rfl) ?_
    refine lv_if_eq (tgt := 35) hx hb dX10_hook_22 (by decide) (fun c_976 => ?_) (fun c_976 => ?_)
    · skip
      have c_976 := bi_z c_976
      refine lv_iconst (v := (-1)) hx hb dX10_hook_35 (by decide) ?_
      exact r_iret () C0 hr hlocks hS (Nat.le_of_ble_eq_true rfl) (Nat.le_of_ble_eq_true rfl) dX10_hook_36 (by first | rfl | decide +kernel | simp [bi, FO, TS, c_972, c_976]) P_nil D_nil
    · skip
      have c_976 := bi_nz c_976
      exact absurd c_976 (wi_empty (by decide +kernel))
set_option maxHeartbeats 4000000 in
set_option maxRecDepth 100000 in
theorem c_X10_within_987 (l : Launch) (D : va_G) (T : Nat → ClassId) (sz : Nat) (z1 : Int32) : Met l yX10_within (.code yX10_within cX10_within 3 (some .boolean) :: TB) { frames := 0, cells := 0, slots := 0, locals := 0 } (PC D T [.int z1, .int 0, .int 9] [] sz) (Qi (S := Unit) (fun (r : Int32) (_ : Unit) => r = (bi (wi z1 0 9))) (fun (_ : Unit) => []) D (va_A [] sz)) 0 0 (va_A [] sz) := by
  refine ct_begin (Qc := Qi (S := Unit) (fun (r : Int32) (_ : Unit) => r = (bi (wi z1 0 9))) (fun (_ : Unit) => []) D) (by decide +kernel) (Nat.le_of_ble_eq_true rfl) ?_
  intro p e s m below meth c A ls C0 hr hlocks hnm hE hA hP hD hS hl
  have hx := C0.1
  have hb := C0.2.1
  have hml := C0.2.2.1
  have hown := C0.2.2.2.1
  have hT := C0.2.2.2.2
  have hK := hE.1
  have hl : lv_has ls 3 [(0, .int z1), (1, .int 0), (2, .int 9)] := hl
  refine lv_iload_n hx hb dX10_within_0 rfl (lv_at hl 0 rfl) ?_
  refine lv_iload_n hx hb dX10_within_1 rfl (lv_at hl 1 rfl) ?_
  refine lv_icmp_lt (tgt := 14) hx hb dX10_within_2 (by decide) (fun c_985 => ?_) (fun c_985 => ?_)
  · skip
    refine lv_iconst (v := 0) hx hb dX10_within_14 (by decide) ?_
    exact r_zret () C0 hr (by decide +kernel) hlocks hS (Nat.le_of_ble_eq_true rfl) (Nat.le_of_ble_eq_true rfl) dX10_within_15 (wi_a c_985) P_nil D_nil
  · skip
    refine lv_iload_n hx hb dX10_within_5 rfl (lv_at hl 0 rfl) ?_
    refine lv_iload_n hx hb dX10_within_6 rfl (lv_at hl 2 rfl) ?_
    refine lv_icmp_gt (tgt := 14) hx hb dX10_within_7 (by decide) (fun c_986 => ?_) (fun c_986 => ?_)
    · skip
      refine lv_iconst (v := 0) hx hb dX10_within_14 (by decide) ?_
      exact r_zret () C0 hr (by decide +kernel) hlocks hS (Nat.le_of_ble_eq_true rfl) (Nat.le_of_ble_eq_true rfl) dX10_within_15 (wi_b c_986) P_nil D_nil
    · skip
      refine lv_iconst (v := 1) hx hb dX10_within_10 (by decide) ?_
      refine lv_goto (tgt := 15) hx hb dX10_within_11 (by decide) ?_
      exact r_zret () C0 hr (by decide +kernel) hlocks hS (Nat.le_of_ble_eq_true rfl) (Nat.le_of_ble_eq_true rfl) dX10_within_15 (wi_c c_985 c_986) P_nil D_nil
set_option maxHeartbeats 4000000 in
set_option maxRecDepth 100000 in
theorem sg_1002 {p : Program} {l : Launch} {e : Env} {s : State} {m : MethodId} {args : Array Value} {below : List Frame} {meth : Method} {c : Code} {H : Heap} {locs : List Loc} {Q : State → Prop} {D : va_G} {T : Nat → ClassId} {A : Nat → Prop} {ls : Array Slot} (z1 : Nat) (z2 : Int32) (z3 : Nat) (z4 : Nat) (z5 : Nat) (z6 : Nat) (z7 : Nat) (z8 : Nat) (C0 : CallFix p m c cX0_add 6 s args TB yX0_add.cls) (hE : EV D T s) (hnm : meth.name = yX0_add.name) (hA : ∀ q, s.heap.size ≤ q → A q) (hP : va_P D vwCl [(z1, .inr (0, [.ref z3, .ref z4, .ref z5, .ref z6, .ref z7, .ref z8, .int 0])), (z3, .inl (T 0, 121, .inl (fun _ => 0))), (z4, .inl (T 0, 121, .inl (fun _ => 0))), (z5, .inl (T 0, 121, .inl (fun _ => 0))), (z6, .inl (T 0, 121, .inl (fun _ => 0))), (z7, .inl (T 0, 121, .inl (fun _ => 0))), (z8, .inl (T 0, 121, .inl (fun _ => 0)))] H) (hD : va_D A [(z1, .inr (0, [.ref z3, .ref z4, .ref z5, .ref z6, .ref z7, .ref z8, .int 0])), (z3, .inl (T 0, 121, .inl (fun _ => 0))), (z4, .inl (T 0, 121, .inl (fun _ => 0))), (z5, .inl (T 0, 121, .inl (fun _ => 0))), (z6, .inl (T 0, 121, .inl (fun _ => 0))), (z7, .inl (T 0, 121, .inl (fun _ => 0))), (z8, .inl (T 0, 121, .inl (fun _ => 0)))]) (hS : va_S A s.heap H locs) (hl : lv_has ls 6 [(0, .ref z1), (1, .int 1), (2, .int 0), (3, .int z2), (4, .int 0), (5, .int 0)])
    (kk : ∀ (f997 : Nat → Int32) (f998 : Nat → Int32) (f999 : Nat → Int32) (f1000 : Nat → Int32) (f1001 : Nat → Int32) (H : Heap) (locs : List Loc) (ls : Array Slot), va_P D vwCl [(z1, .inr (0, [.ref z3, .ref z4, .ref z5, .ref z6, .ref z7, .ref z8, .int 1])), (z3, .inl (T 0, 121, .inl f997)), (z4, .inl (T 0, 121, .inl f998)), (z5, .inl (T 0, 121, .inl f999)), (z6, .inl (T 0, 121, .inl f1000)), (z7, .inl (T 0, 121, .inl f1001)), (z8, .inl (T 0, 121, .inl (fun _ => 0)))] H → va_D A [(z1, .inr (0, [.ref z3, .ref z4, .ref z5, .ref z6, .ref z7, .ref z8, .int 1])), (z3, .inl (T 0, 121, .inl f997)), (z4, .inl (T 0, 121, .inl f998)), (z5, .inl (T 0, 121, .inl f999)), (z6, .inl (T 0, 121, .inl f1000)), (z7, .inl (T 0, 121, .inl f1001)), (z8, .inl (T 0, 121, .inl (fun _ => 0)))] → va_S A s.heap H locs → lv_has ls 6 [(0, .ref z1), (1, .int 1), (2, .int 0), (3, .int z2), (4, .int 0), (5, .int 0)] → W p l e { frames := 0, cells := 0, slots := 0, locals := 0 } s m args below meth c H locs 0 0 Q (F0 m 82 ls [.int 0, .int 1, .ref z8])) : W p l e { frames := 0, cells := 0, slots := 0, locals := 0 } s m args below meth c H locs 0 0 Q (F0 m 0 ls []) := by
  have hx := C0.1
  have hb := C0.2.1
  have hml := C0.2.2.1
  have hown := C0.2.2.2.1
  have hT := C0.2.2.2.2
  have hK := hE.1
  refine lv_aload_n hx hb dX0_add_0 rfl (lv_at hl 0 rfl) ?_
  refine r_get (v := .int 0) C0 hE ffX0_6 mw_54 hP 0 rfl rfl dX0_add_1 ?_
  refine lv_bipush (v := 120) hx hb dX0_add_4 (by decide) ?_
  refine lv_icmp_lt (tgt := 11) hx hb dX0_add_6 (by decide) (fun _ => ?_) (fun hc => absurd (by decide +kernel) hc)
  refine lv_aload_n hx hb dX0_add_11 rfl (lv_at hl 0 rfl) ?_
  refine lv_dup hx hb dX0_add_12 rfl ?_
  refine r_get (v := .int 0) C0 hE ffX0_6 mw_54 hP 0 rfl rfl dX0_add_13 ?_
  refine lv_iconst (v := 1) hx hb dX0_add_16 (by decide) ?_
  refine lv_iadd hx hb dX0_add_17 ?_
  refine r_ci (v := 1) (by decide +kernel) ?_
  refine r_put (v := .int 1) (ty := .int) (fs1 := [.ref z3, .ref z4, .ref z5, .ref z6, .ref z7, .ref z8, .int 1]) (ws1 := [(z1, .inr (0, [.ref z3, .ref z4, .ref z5, .ref z6, .ref z7, .ref z8, .int 1])), (z3, .inl (T 0, 121, .inl (fun _ => 0))), (z4, .inl (T 0, 121, .inl (fun _ => 0))), (z5, .inl (T 0, 121, .inl (fun _ => 0))), (z6, .inl (T 0, 121, .inl (fun _ => 0))), (z7, .inl (T 0, 121, .inl (fun _ => 0))), (z8, .inl (T 0, 121, .inl (fun _ => 0)))]) C0 hE ffX0_6 tyX0 tyX0_ok nmX0 mw_54 pf_29 hP hD hS 0 rfl rfl rfl (Nat.le_of_ble_eq_true rfl) rfl rfl dX0_add_18 (fun H locs hP hD hS => ?_)
  refine lv_aload_n hx hb dX0_add_21 rfl (lv_at hl 0 rfl) ?_
  refine r_get (v := .ref z3) C0 hE ffX0_0 mw_41 hP 0 rfl rfl dX0_add_22 ?_
  refine lv_aload_n hx hb dX0_add_25 rfl (lv_at hl 0 rfl) ?_
  refine r_get (v := .int 1) C0 hE ffX0_6 mw_54 hP 0 rfl rfl dX0_add_26 ?_
  refine lv_iload_n hx hb dX0_add_29 rfl (lv_at hl 1 rfl) ?_
  refine r_iastO hx hb hK hP hD hS 1 rfl (vp_lit (by decide +kernel)) dX0_add_30 (fun f997 H locs hP hD hS => ?_)
  have hP : va_P D vwCl [(z1, .inr (0, [.ref z3, .ref z4, .ref z5, .ref z6, .ref z7, .ref z8, .int 1])), (z3, .inl (T 0, 121, .inl f997)), (z4, .inl (T 0, 121, .inl (fun _ => 0))), (z5, .inl (T 0, 121, .inl (fun _ => 0))), (z6, .inl (T 0, 121, .inl (fun _ => 0))), (z7, .inl (T 0, 121, .inl (fun _ => 0))), (z8, .inl (T 0, 121, .inl (fun _ => 0)))] H := hP
  have hD : va_D A [(z1, .inr (0, [.ref z3, .ref z4, .ref z5, .ref z6, .ref z7, .ref z8, .int 1])), (z3, .inl (T 0, 121, .inl f997)), (z4, .inl (T 0, 121, .inl (fun _ => 0))), (z5, .inl (T 0, 121, .inl (fun _ => 0))), (z6, .inl (T 0, 121, .inl (fun _ => 0))), (z7, .inl (T 0, 121, .inl (fun _ => 0))), (z8, .inl (T 0, 121, .inl (fun _ => 0)))] := hD
  refine lv_aload_n hx hb dX0_add_31 rfl (lv_at hl 0 rfl) ?_
  refine r_get (v := .ref z4) C0 hE ffX0_1 mw_44 hP 0 rfl rfl dX0_add_32 ?_
  refine lv_aload_n hx hb dX0_add_35 rfl (lv_at hl 0 rfl) ?_
  refine r_get (v := .int 1) C0 hE ffX0_6 mw_54 hP 0 rfl rfl dX0_add_36 ?_
  refine lv_iload_n hx hb dX0_add_39 rfl (lv_at hl 2 rfl) ?_
  refine r_iastO hx hb hK hP hD hS 2 rfl (vp_lit (by decide +kernel)) dX0_add_40 (fun f998 H locs hP hD hS => ?_)
  have hP : va_P D vwCl [(z1, .inr (0, [.ref z3, .ref z4, .ref z5, .ref z6, .ref z7, .ref z8, .int 1])), (z3, .inl (T 0, 121, .inl f997)), (z4, .inl (T 0, 121, .inl f998)), (z5, .inl (T 0, 121, .inl (fun _ => 0))), (z6, .inl (T 0, 121, .inl (fun _ => 0))), (z7, .inl (T 0, 121, .inl (fun _ => 0))), (z8, .inl (T 0, 121, .inl (fun _ => 0)))] H := hP
  have hD : va_D A [(z1, .inr (0, [.ref z3, .ref z4, .ref z5, .ref z6, .ref z7, .ref z8, .int 1])), (z3, .inl (T 0, 121, .inl f997)), (z4, .inl (T 0, 121, .inl f998)), (z5, .inl (T 0, 121, .inl (fun _ => 0))), (z6, .inl (T 0, 121, .inl (fun _ => 0))), (z7, .inl (T 0, 121, .inl (fun _ => 0))), (z8, .inl (T 0, 121, .inl (fun _ => 0)))] := hD
  refine lv_aload_n hx hb dX0_add_41 rfl (lv_at hl 0 rfl) ?_
  refine r_get (v := .ref z5) C0 hE ffX0_2 mw_46 hP 0 rfl rfl dX0_add_42 ?_
  refine lv_aload_n hx hb dX0_add_45 rfl (lv_at hl 0 rfl) ?_
  refine r_get (v := .int 1) C0 hE ffX0_6 mw_54 hP 0 rfl rfl dX0_add_46 ?_
  refine lv_iload_n hx hb dX0_add_49 rfl (lv_at hl 3 rfl) ?_
  refine r_iastO hx hb hK hP hD hS 3 rfl (vp_lit (by decide +kernel)) dX0_add_50 (fun f999 H locs hP hD hS => ?_)
  have hP : va_P D vwCl [(z1, .inr (0, [.ref z3, .ref z4, .ref z5, .ref z6, .ref z7, .ref z8, .int 1])), (z3, .inl (T 0, 121, .inl f997)), (z4, .inl (T 0, 121, .inl f998)), (z5, .inl (T 0, 121, .inl f999)), (z6, .inl (T 0, 121, .inl (fun _ => 0))), (z7, .inl (T 0, 121, .inl (fun _ => 0))), (z8, .inl (T 0, 121, .inl (fun _ => 0)))] H := hP
  have hD : va_D A [(z1, .inr (0, [.ref z3, .ref z4, .ref z5, .ref z6, .ref z7, .ref z8, .int 1])), (z3, .inl (T 0, 121, .inl f997)), (z4, .inl (T 0, 121, .inl f998)), (z5, .inl (T 0, 121, .inl f999)), (z6, .inl (T 0, 121, .inl (fun _ => 0))), (z7, .inl (T 0, 121, .inl (fun _ => 0))), (z8, .inl (T 0, 121, .inl (fun _ => 0)))] := hD
  refine lv_aload_n hx hb dX0_add_51 rfl (lv_at hl 0 rfl) ?_
  refine r_get (v := .ref z6) C0 hE ffX0_3 mw_48 hP 0 rfl rfl dX0_add_52 ?_
  refine lv_aload_n hx hb dX0_add_55 rfl (lv_at hl 0 rfl) ?_
  refine r_get (v := .int 1) C0 hE ffX0_6 mw_54 hP 0 rfl rfl dX0_add_56 ?_
  refine lv_iload hx hb dX0_add_59 (lv_at hl 4 rfl) ?_
  refine r_iastO hx hb hK hP hD hS 4 rfl (vp_lit (by decide +kernel)) dX0_add_61 (fun f1000 H locs hP hD hS => ?_)
  have hP : va_P D vwCl [(z1, .inr (0, [.ref z3, .ref z4, .ref z5, .ref z6, .ref z7, .ref z8, .int 1])), (z3, .inl (T 0, 121, .inl f997)), (z4, .inl (T 0, 121, .inl f998)), (z5, .inl (T 0, 121, .inl f999)), (z6, .inl (T 0, 121, .inl f1000)), (z7, .inl (T 0, 121, .inl (fun _ => 0))), (z8, .inl (T 0, 121, .inl (fun _ => 0)))] H := hP
  have hD : va_D A [(z1, .inr (0, [.ref z3, .ref z4, .ref z5, .ref z6, .ref z7, .ref z8, .int 1])), (z3, .inl (T 0, 121, .inl f997)), (z4, .inl (T 0, 121, .inl f998)), (z5, .inl (T 0, 121, .inl f999)), (z6, .inl (T 0, 121, .inl f1000)), (z7, .inl (T 0, 121, .inl (fun _ => 0))), (z8, .inl (T 0, 121, .inl (fun _ => 0)))] := hD
  refine lv_aload_n hx hb dX0_add_62 rfl (lv_at hl 0 rfl) ?_
  refine r_get (v := .ref z7) C0 hE ffX0_4 mw_50 hP 0 rfl rfl dX0_add_63 ?_
  refine lv_aload_n hx hb dX0_add_66 rfl (lv_at hl 0 rfl) ?_
  refine r_get (v := .int 1) C0 hE ffX0_6 mw_54 hP 0 rfl rfl dX0_add_67 ?_
  refine lv_iload hx hb dX0_add_70 (lv_at hl 5 rfl) ?_
  refine r_iastO hx hb hK hP hD hS 5 rfl (vp_lit (by decide +kernel)) dX0_add_72 (fun f1001 H locs hP hD hS => ?_)
  have hP : va_P D vwCl [(z1, .inr (0, [.ref z3, .ref z4, .ref z5, .ref z6, .ref z7, .ref z8, .int 1])), (z3, .inl (T 0, 121, .inl f997)), (z4, .inl (T 0, 121, .inl f998)), (z5, .inl (T 0, 121, .inl f999)), (z6, .inl (T 0, 121, .inl f1000)), (z7, .inl (T 0, 121, .inl f1001)), (z8, .inl (T 0, 121, .inl (fun _ => 0)))] H := hP
  have hD : va_D A [(z1, .inr (0, [.ref z3, .ref z4, .ref z5, .ref z6, .ref z7, .ref z8, .int 1])), (z3, .inl (T 0, 121, .inl f997)), (z4, .inl (T 0, 121, .inl f998)), (z5, .inl (T 0, 121, .inl f999)), (z6, .inl (T 0, 121, .inl f1000)), (z7, .inl (T 0, 121, .inl f1001)), (z8, .inl (T 0, 121, .inl (fun _ => 0)))] := hD
  refine lv_aload_n hx hb dX0_add_73 rfl (lv_at hl 0 rfl) ?_
  refine r_get (v := .ref z8) C0 hE ffX0_5 mw_52 hP 0 rfl rfl dX0_add_74 ?_
  refine lv_aload_n hx hb dX0_add_77 rfl (lv_at hl 0 rfl) ?_
  refine r_get (v := .int 1) C0 hE ffX0_6 mw_54 hP 0 rfl rfl dX0_add_78 ?_
  refine lv_iconst (v := 0) hx hb dX0_add_81 (by decide) ?_
  exact kk f997 f998 f999 f1000 f1001 H locs ls hP hD hS hl
set_option maxHeartbeats 4000000 in
set_option maxRecDepth 100000 in
theorem c_X0_add_1004 (l : Launch) (D : va_G) (T : Nat → ClassId) (sz : Nat) (z1 : Nat) (z2 : Int32) (z3 : Nat) (z4 : Nat) (z5 : Nat) (z6 : Nat) (z7 : Nat) (z8 : Nat) : Met l yX0_add (.code yX0_add cX0_add 6 (some .int) :: TB) { frames := 0, cells := 0, slots := 0, locals := 0 } (PC D T [.ref z1, .int 1, .int 0, .int z2, .int 0, .int 0] [(z1, .inr (0, [.ref z3, .ref z4, .ref z5, .ref z6, .ref z7, .ref z8, .int 0])), (z3, .inl (T 0, 121, .inl (fun _ => 0))), (z4, .inl (T 0, 121, .inl (fun _ => 0))), (z5, .inl (T 0, 121, .inl (fun _ => 0))), (z6, .inl (T 0, 121, .inl (fun _ => 0))), (z7, .inl (T 0, 121, .inl (fun _ => 0))), (z8, .inl (T 0, 121, .inl (fun _ => 0)))] sz) (Qi (S := (Nat → Int32) × (Nat → Int32) × (Nat → Int32) × (Nat → Int32) × (Nat → Int32) × (Nat → Int32)) (fun (r : Int32) (u : (Nat → Int32) × (Nat → Int32) × (Nat → Int32) × (Nat → Int32) × (Nat → Int32) × (Nat → Int32)) => match u with | (f997, f998, f999, f1000, f1001, f1003) => r = 1) (fun (u : (Nat → Int32) × (Nat → Int32) × (Nat → Int32) × (Nat → Int32) × (Nat → Int32) × (Nat → Int32)) => match u with | (f997, f998, f999, f1000, f1001, f1003) => [(z1, .inr (0, [.ref z3, .ref z4, .ref z5, .ref z6, .ref z7, .ref z8, .int 1])), (z3, .inl (T 0, 121, .inl f997)), (z4, .inl (T 0, 121, .inl f998)), (z5, .inl (T 0, 121, .inl f999)), (z6, .inl (T 0, 121, .inl f1000)), (z7, .inl (T 0, 121, .inl f1001)), (z8, .inl (T 0, 121, .inl f1003))]) D (va_A [(z1, .inr (0, [.ref z3, .ref z4, .ref z5, .ref z6, .ref z7, .ref z8, .int 0])), (z3, .inl (T 0, 121, .inl (fun _ => 0))), (z4, .inl (T 0, 121, .inl (fun _ => 0))), (z5, .inl (T 0, 121, .inl (fun _ => 0))), (z6, .inl (T 0, 121, .inl (fun _ => 0))), (z7, .inl (T 0, 121, .inl (fun _ => 0))), (z8, .inl (T 0, 121, .inl (fun _ => 0)))] sz)) 0 0 (va_A [(z1, .inr (0, [.ref z3, .ref z4, .ref z5, .ref z6, .ref z7, .ref z8, .int 0])), (z3, .inl (T 0, 121, .inl (fun _ => 0))), (z4, .inl (T 0, 121, .inl (fun _ => 0))), (z5, .inl (T 0, 121, .inl (fun _ => 0))), (z6, .inl (T 0, 121, .inl (fun _ => 0))), (z7, .inl (T 0, 121, .inl (fun _ => 0))), (z8, .inl (T 0, 121, .inl (fun _ => 0)))] sz) := by
  refine ct_begin (Qc := Qi (S := (Nat → Int32) × (Nat → Int32) × (Nat → Int32) × (Nat → Int32) × (Nat → Int32) × (Nat → Int32)) (fun (r : Int32) (u : (Nat → Int32) × (Nat → Int32) × (Nat → Int32) × (Nat → Int32) × (Nat → Int32) × (Nat → Int32)) => match u with | (f997, f998, f999, f1000, f1001, f1003) => r = 1) (fun (u : (Nat → Int32) × (Nat → Int32) × (Nat → Int32) × (Nat → Int32) × (Nat → Int32) × (Nat → Int32)) => match u with | (f997, f998, f999, f1000, f1001, f1003) => [(z1, .inr (0, [.ref z3, .ref z4, .ref z5, .ref z6, .ref z7, .ref z8, .int 1])), (z3, .inl (T 0, 121, .inl f997)), (z4, .inl (T 0, 121, .inl f998)), (z5, .inl (T 0, 121, .inl f999)), (z6, .inl (T 0, 121, .inl f1000)), (z7, .inl (T 0, 121, .inl f1001)), (z8, .inl (T 0, 121, .inl f1003))]) D) (by decide +kernel) (Nat.le_of_ble_eq_true rfl) ?_
  intro p e s m below meth c A ls C0 hr hlocks hnm hE hA hP hD hS hl
  have hx := C0.1
  have hb := C0.2.1
  have hml := C0.2.2.1
  have hown := C0.2.2.2.1
  have hT := C0.2.2.2.2
  have hK := hE.1
  have hl : lv_has ls 6 [(0, .ref z1), (1, .int 1), (2, .int 0), (3, .int z2), (4, .int 0), (5, .int 0)] := hl
  refine sg_1002 z1 z2 z3 z4 z5 z6 z7 z8 C0 hE hnm hA hP hD hS hl (fun f997 f998 f999 f1000 f1001 H locs ls hP hD hS hl => ?_)
  refine r_iastO hx hb hK hP hD hS 6 rfl (vp_lit (by decide +kernel)) dX0_add_82 (fun f1003 H locs hP hD hS => ?_)
  have hP : va_P D vwCl [(z1, .inr (0, [.ref z3, .ref z4, .ref z5, .ref z6, .ref z7, .ref z8, .int 1])), (z3, .inl (T 0, 121, .inl f997)), (z4, .inl (T 0, 121, .inl f998)), (z5, .inl (T 0, 121, .inl f999)), (z6, .inl (T 0, 121, .inl f1000)), (z7, .inl (T 0, 121, .inl f1001)), (z8, .inl (T 0, 121, .inl f1003))] H := hP
  have hD : va_D A [(z1, .inr (0, [.ref z3, .ref z4, .ref z5, .ref z6, .ref z7, .ref z8, .int 1])), (z3, .inl (T 0, 121, .inl f997)), (z4, .inl (T 0, 121, .inl f998)), (z5, .inl (T 0, 121, .inl f999)), (z6, .inl (T 0, 121, .inl f1000)), (z7, .inl (T 0, 121, .inl f1001)), (z8, .inl (T 0, 121, .inl f1003))] := hD
  refine lv_aload_n hx hb dX0_add_83 rfl (lv_at hl 0 rfl) ?_
  refine r_get (v := .int 1) C0 hE ffX0_6 mw_54 hP 0 rfl rfl dX0_add_84 ?_
  exact r_iret (f997, f998, f999, f1000, f1001, f1003) C0 hr hlocks hS (Nat.le_of_ble_eq_true rfl) (Nat.le_of_ble_eq_true rfl) dX0_add_87 rfl hP hD
set_option maxHeartbeats 4000000 in
set_option maxRecDepth 100000 in
theorem c_X10_loops_1035 (l : Launch) (D : va_G) (T : Nat → ClassId) (sz : Nat) (z1 : Nat) (z2 : Int32) (z3 : Int32) (z4 : Nat) (z5 : Nat) (z6 : Nat) (z7 : Nat) (z8 : Nat) (z9 : Nat) (z10 : Nat) (z11 : Nat) (z12 : Nat) (z13 : Nat) (z14 : Nat) (z15 : Nat) (z16 : Nat) (z17 : Nat) (z18 : Nat) (z19 : Nat) (z20 : Nat) : Met l yX10_loops (.code yX10_loops cX10_loops 3 (some .int) :: TB) { frames := 2, cells := 0, slots := 0, locals := 43 } (PC D T [.ref z1, .int z2, .int z3] [(z1, .inr (10, [.ref z4, .ref z5, .ref z6, .ref z7, .ref z8, .ref z9, .ref z10, .ref z11, .ref z12, .ref z13, .ref z14, .int 1, .int (-1), .int 0, .int (-1)])), (z6, .inr (0, [.ref z15, .ref z16, .ref z17, .ref z18, .ref z19, .ref z20, .int 0])), (z15, .inl (T 0, 121, .inl (fun _ => 0))), (z16, .inl (T 0, 121, .inl (fun _ => 0))), (z17, .inl (T 0, 121, .inl (fun _ => 0))), (z18, .inl (T 0, 121, .inl (fun _ => 0))), (z19, .inl (T 0, 121, .inl (fun _ => 0))), (z20, .inl (T 0, 121, .inl (fun _ => 0)))] sz) (Qi (S := Unit) (fun (r : Int32) (_ : Unit) => r = (if (wi z2 0 0 && wi z3 0 9) = true then 1 else (-1))) (fun (_ : Unit) => []) D (va_A [(z1, .inr (10, [.ref z4, .ref z5, .ref z6, .ref z7, .ref z8, .ref z9, .ref z10, .ref z11, .ref z12, .ref z13, .ref z14, .int 1, .int (-1), .int 0, .int (-1)])), (z6, .inr (0, [.ref z15, .ref z16, .ref z17, .ref z18, .ref z19, .ref z20, .int 0])), (z15, .inl (T 0, 121, .inl (fun _ => 0))), (z16, .inl (T 0, 121, .inl (fun _ => 0))), (z17, .inl (T 0, 121, .inl (fun _ => 0))), (z18, .inl (T 0, 121, .inl (fun _ => 0))), (z19, .inl (T 0, 121, .inl (fun _ => 0))), (z20, .inl (T 0, 121, .inl (fun _ => 0)))] sz)) 0 0 (va_A [(z1, .inr (10, [.ref z4, .ref z5, .ref z6, .ref z7, .ref z8, .ref z9, .ref z10, .ref z11, .ref z12, .ref z13, .ref z14, .int 1, .int (-1), .int 0, .int (-1)])), (z6, .inr (0, [.ref z15, .ref z16, .ref z17, .ref z18, .ref z19, .ref z20, .int 0])), (z15, .inl (T 0, 121, .inl (fun _ => 0))), (z16, .inl (T 0, 121, .inl (fun _ => 0))), (z17, .inl (T 0, 121, .inl (fun _ => 0))), (z18, .inl (T 0, 121, .inl (fun _ => 0))), (z19, .inl (T 0, 121, .inl (fun _ => 0))), (z20, .inl (T 0, 121, .inl (fun _ => 0)))] sz) := by
  refine ct_begin (Qc := Qi (S := Unit) (fun (r : Int32) (_ : Unit) => r = (if (wi z2 0 0 && wi z3 0 9) = true then 1 else (-1))) (fun (_ : Unit) => []) D) (by decide +kernel) (Nat.le_of_ble_eq_true rfl) ?_
  intro p e s m below meth c A ls C0 hr hlocks hnm hE hA hP hD hS hl
  have hx := C0.1
  have hb := C0.2.1
  have hml := C0.2.2.1
  have hown := C0.2.2.2.1
  have hT := C0.2.2.2.2
  have hK := hE.1
  have hl : lv_has ls 3 [(0, .ref z1), (1, .int z2), (2, .int z3)] := hl
  refine lv_aload_n hx hb dX10_loops_0 rfl (lv_at hl 0 rfl) ?_
  refine lv_iload_n hx hb dX10_loops_1 rfl (lv_at hl 1 rfl) ?_
  refine r_calli (wr := [(z6, .inr (0, [.ref z15, .ref z16, .ref z17, .ref z18, .ref z19, .ref z20, .int 0])), (z15, .inl (T 0, 121, .inl (fun _ => 0))), (z16, .inl (T 0, 121, .inl (fun _ => 0))), (z17, .inl (T 0, 121, .inl (fun _ => 0))), (z18, .inl (T 0, 121, .inl (fun _ => 0))), (z19, .inl (T 0, 121, .inl (fun _ => 0))), (z20, .inl (T 0, 121, .inl (fun _ => 0)))]) (r_runV (As := [.int z2]) (rest := []) (wc := [(z1, .inr (10, [.ref z4, .ref z5, .ref z6, .ref z7, .ref z8, .ref z9, .ref z10, .ref z11, .ref z12, .ref z13, .ref z14, .int 1, .int (-1), .int 0, .int (-1)]))]) (ci := 10) C0 hE (c_X10_isCell_961 l D T s.heap.size z1 z2 z4 z5 z6 z7 z8 z9 z10 z11 z12 z13 z14) mw_528 mw_529 mw_530 mw_7 mw_531 dn_527 rfl rfl ⟨Nat.le_of_ble_eq_true rfl, Nat.le_of_ble_eq_true rfl⟩ (hP.sub (ws' := [(z1, .inr (10, [.ref z4, .ref z5, .ref z6, .ref z7, .ref z8, .ref z9, .ref z10, .ref z11, .ref z12, .ref z13, .ref z14, .int 1, .int (-1), .int 0, .int (-1)]))]) [0] rfl) (hD.sub (ws' := [(z1, .inr (10, [.ref z4, .ref z5, .ref z6, .ref z7, .ref z8, .ref z9, .ref z10, .ref z11, .ref z12, .ref z13, .ref z14, .int 1, .int (-1), .int 0, .int (-1)]))]) [0] (by decide +kernel) rfl) rfl rfl rfl hl.1 rfl (Nat.le_of_ble_eq_true rfl) dX10_loops_2 ⟨Nat.le_of_ble_eq_true rfl, Nat.le_of_ble_eq_true rfl⟩) hP hD hS hA [0] [1, 2, 3, 4, 5, 6, 7] rfl rfl (by decide +kernel) (by decide +kernel) (fun r1015 u H locs hq hP hD hS => ?_)
  have hq : r1015 = (bi (wi z2 0 0)) := hq
  subst hq
  have hP : va_P D vwCl [(z6, .inr (0, [.ref z15, .ref z16, .ref z17, .ref z18, .ref z19, .ref z20, .int 0])), (z15, .inl (T 0, 121, .inl (fun _ => 0))), (z16, .inl (T 0, 121, .inl (fun _ => 0))), (z17, .inl (T 0, 121, .inl (fun _ => 0))), (z18, .inl (T 0, 121, .inl (fun _ => 0))), (z19, .inl (T 0, 121, .inl (fun _ => 0))), (z20, .inl (T 0, 121, .inl (fun _ => 0))), (z1, .inr (10, [.ref z4, .ref z5, .ref z6, .ref z7, .ref z8, .ref z9, .ref z10, .ref z11, .ref z12, .ref z13, .ref z14, .int 1, .int (-1), .int 0, .int (-1)]))] H := hP
  have hD : va_D A [(z6, .inr (0, [.ref z15, .ref z16, .ref z17, .ref z18, .ref z19, .ref z20, .int 0])), (z15, .inl (T 0, 121, .inl (fun _ => 0))), (z16, .inl (T 0, 121, .inl (fun _ => 0))), (z17, .inl (T 0, 121, .inl (fun _ => 0))), (z18, .inl (T 0, 121, .inl (fun _ => 0))), (z19, .inl (T 0, 121, .inl (fun _ => 0))), (z20, .inl (T 0, 121, .inl (fun _ => 0))), (z1, .inr (10, [.ref z4, .ref z5, .ref z6, .ref z7, .ref z8, .ref z9, .ref z10, .ref z11, .ref z12, .ref z13, .ref z14, .int 1, .int (-1), .int 0, .int (-1)]))] := hD
  refine W.widen (k := 0) (n := 0) (Nat.le_of_ble_eq_true rfl) (Nat.le_of_ble_eq_true rfl) ?_
  refine lv_if_eq (tgt := 18) hx hb dX10_loops_5 (by decide) (fun c_1016 => ?_) (fun c_1016 => ?_)
  · skip
    have c_1016 := bi_z c_1016
    refine lv_iconst (v := (-1)) hx hb dX10_loops_18 (by decide) ?_
    exact r_iret () C0 hr hlocks hS (Nat.le_of_ble_eq_true rfl) (Nat.le_of_ble_eq_true rfl) dX10_loops_19 (by first | rfl | decide +kernel | simp [bi, FO, TS, c_1016]) P_nil D_nil
  · skip
    have c_1016 := bi_nz c_1016
    obtain rfl := wi_one c_1016
    refine lv_iload_n hx hb dX10_loops_8 rfl (lv_at hl 2 rfl) ?_
    refine lv_iconst (v := 0) hx hb dX10_loops_9 (by decide) ?_
    refine lv_bipush (v := 9) hx hb dX10_loops_10 (by decide) ?_
    refine r_calli (wr := [(z6, .inr (0, [.ref z15, .ref z16, .ref z17, .ref z18, .ref z19, .ref z20, .int 0])), (z15, .inl (T 0, 121, .inl (fun _ => 0))), (z16, .inl (T 0, 121, .inl (fun _ => 0))), (z17, .inl (T 0, 121, .inl (fun _ => 0))), (z18, .inl (T 0, 121, .inl (fun _ => 0))), (z19, .inl (T 0, 121, .inl (fun _ => 0))), (z20, .inl (T 0, 121, .inl (fun _ => 0))), (z1, .inr (10, [.ref z4, .ref z5, .ref z6, .ref z7, .ref z8, .ref z9, .ref z10, .ref z11, .ref z12, .ref z13, .ref z14, .int 1, .int (-1), .int 0, .int (-1)]))]) (r_runS (As := [.int z3, .int 0, .int 9]) (rest := []) (wc := []) C0 hE (c_X10_within_987 l D T H.size z3) mw_483 mw_484 mw_7 mw_485 dn_482 rfl rfl ⟨Nat.le_of_ble_eq_true rfl, Nat.le_of_ble_eq_true rfl⟩ (hP.sub (ws' := []) [] rfl) (hD.sub (ws' := []) [] (by decide +kernel) rfl) hl.1 rfl (Nat.le_of_ble_eq_true rfl) dX10_loops_12 ⟨Nat.le_of_ble_eq_true rfl, Nat.le_of_ble_eq_true rfl⟩) hP hD hS hA [] [0, 1, 2, 3, 4, 5, 6, 7] rfl rfl (by decide +kernel) (by decide +kernel) (fun r1019 u H locs hq hP hD hS => ?_)
    have hq : r1019 = (bi (wi z3 0 9)) := hq
    subst hq
    have hP : va_P D vwCl [(z6, .inr (0, [.ref z15, .ref z16, .ref z17, .ref z18, .ref z19, .ref z20, .int 0])), (z15, .inl (T 0, 121, .inl (fun _ => 0))), (z16, .inl (T 0, 121, .inl (fun _ => 0))), (z17, .inl (T 0, 121, .inl (fun _ => 0))), (z18, .inl (T 0, 121, .inl (fun _ => 0))), (z19, .inl (T 0, 121, .inl (fun _ => 0))), (z20, .inl (T 0, 121, .inl (fun _ => 0))), (z1, .inr (10, [.ref z4, .ref z5, .ref z6, .ref z7, .ref z8, .ref z9, .ref z10, .ref z11, .ref z12, .ref z13, .ref z14, .int 1, .int (-1), .int 0, .int (-1)]))] H := hP
    have hD : va_D A [(z6, .inr (0, [.ref z15, .ref z16, .ref z17, .ref z18, .ref z19, .ref z20, .int 0])), (z15, .inl (T 0, 121, .inl (fun _ => 0))), (z16, .inl (T 0, 121, .inl (fun _ => 0))), (z17, .inl (T 0, 121, .inl (fun _ => 0))), (z18, .inl (T 0, 121, .inl (fun _ => 0))), (z19, .inl (T 0, 121, .inl (fun _ => 0))), (z20, .inl (T 0, 121, .inl (fun _ => 0))), (z1, .inr (10, [.ref z4, .ref z5, .ref z6, .ref z7, .ref z8, .ref z9, .ref z10, .ref z11, .ref z12, .ref z13, .ref z14, .int 1, .int (-1), .int 0, .int (-1)]))] := hD
    refine W.widen (k := 0) (n := 0) (Nat.le_of_ble_eq_true rfl) (Nat.le_of_ble_eq_true rfl) ?_
    refine lv_if_ne (tgt := 20) hx hb dX10_loops_15 (by decide) (fun c_1020 => ?_) (fun c_1020 => ?_)
    · skip
      have c_1020 := bi_nz c_1020
      refine lv_aload_n hx hb dX10_loops_20 rfl (lv_at hl 0 rfl) ?_
      refine r_get (v := .ref z6) C0 hE ffX10_2 mw_59 hP 7 rfl rfl dX10_loops_21 ?_
      refine lv_iconst (v := 1) hx hb dX10_loops_24 (by decide) ?_
      refine lv_iload_n hx hb dX10_loops_25 rfl (lv_at hl 1 rfl) ?_
      refine lv_iload_n hx hb dX10_loops_26 rfl (lv_at hl 2 rfl) ?_
      refine lv_iconst (v := 0) hx hb dX10_loops_27 (by decide) ?_
      refine lv_iconst (v := 0) hx hb dX10_loops_28 (by decide) ?_
      refine r_calli (wr := [(z1, .inr (10, [.ref z4, .ref z5, .ref z6, .ref z7, .ref z8, .ref z9, .ref z10, .ref z11, .ref z12, .ref z13, .ref z14, .int 1, .int (-1), .int 0, .int (-1)]))]) (r_runV (As := [.int 1, .int 0, .int z3, .int 0, .int 0]) (rest := []) (wc := [(z6, .inr (0, [.ref z15, .ref z16, .ref z17, .ref z18, .ref z19, .ref z20, .int 0])), (z15, .inl (T 0, 121, .inl (fun _ => 0))), (z16, .inl (T 0, 121, .inl (fun _ => 0))), (z17, .inl (T 0, 121, .inl (fun _ => 0))), (z18, .inl (T 0, 121, .inl (fun _ => 0))), (z19, .inl (T 0, 121, .inl (fun _ => 0))), (z20, .inl (T 0, 121, .inl (fun _ => 0)))]) (ci := 0) C0 hE (c_X0_add_1004 l D T H.size z6 z3 z15 z16 z17 z18 z19 z20) mw_533 mw_534 mw_535 mw_38 mw_536 dn_532 rfl rfl ⟨Nat.le_of_ble_eq_true rfl, Nat.le_of_ble_eq_true rfl⟩ (hP.sub (ws' := [(z6, .inr (0, [.ref z15, .ref z16, .ref z17, .ref z18, .ref z19, .ref z20, .int 0])), (z15, .inl (T 0, 121, .inl (fun _ => 0))), (z16, .inl (T 0, 121, .inl (fun _ => 0))), (z17, .inl (T 0, 121, .inl (fun _ => 0))), (z18, .inl (T 0, 121, .inl (fun _ => 0))), (z19, .inl (T 0, 121, .inl (fun _ => 0))), (z20, .inl (T 0, 121, .inl (fun _ => 0)))]) [0, 1, 2, 3, 4, 5, 6] rfl) (hD.sub (ws' := [(z6, .inr (0, [.ref z15, .ref z16, .ref z17, .ref z18, .ref z19, .ref z20, .int 0])), (z15, .inl (T 0, 121, .inl (fun _ => 0))), (z16, .inl (T 0, 121, .inl (fun _ => 0))), (z17, .inl (T 0, 121, .inl (fun _ => 0))), (z18, .inl (T 0, 121, .inl (fun _ => 0))), (z19, .inl (T 0, 121, .inl (fun _ => 0))), (z20, .inl (T 0, 121, .inl (fun _ => 0)))]) [0, 1, 2, 3, 4, 5, 6] (by decide +kernel) rfl) rfl rfl rfl hl.1 rfl (Nat.le_of_ble_eq_true rfl) dX10_loops_29 ⟨Nat.le_of_ble_eq_true rfl, Nat.le_of_ble_eq_true rfl⟩) hP hD hS hA [0, 1, 2, 3, 4, 5, 6] [7] rfl rfl (by decide +kernel) (by decide +kernel) (fun r1034 u H locs hq hP hD hS => ?_)
      obtain ⟨f1028, f1029, f1030, f1031, f1032, f1033⟩ := u
      have hq : r1034 = 1 := hq
      subst hq
      have hP : va_P D vwCl [(z1, .inr (10, [.ref z4, .ref z5, .ref z6, .ref z7, .ref z8, .ref z9, .ref z10, .ref z11, .ref z12, .ref z13, .ref z14, .int 1, .int (-1), .int 0, .int (-1)])), (z6, .inr (0, [.ref z15, .ref z16, .ref z17, .ref z18, .ref z19, .ref z20, .int 1])), (z15, .inl (T 0, 121, .inl f1028)), (z16, .inl (T 0, 121, .inl f1029)), (z17, .inl (T 0, 121, .inl f1030)), (z18, .inl (T 0, 121, .inl f1031)), (z19, .inl (T 0, 121, .inl f1032)), (z20, .inl (T 0, 121, .inl f1033))] H := hP
      have hD : va_D A [(z1, .inr (10, [.ref z4, .ref z5, .ref z6, .ref z7, .ref z8, .ref z9, .ref z10, .ref z11, .ref z12, .ref z13, .ref z14, .int 1, .int (-1), .int 0, .int (-1)])), (z6, .inr (0, [.ref z15, .ref z16, .ref z17, .ref z18, .ref z19, .ref z20, .int 1])), (z15, .inl (T 0, 121, .inl f1028)), (z16, .inl (T 0, 121, .inl f1029)), (z17, .inl (T 0, 121, .inl f1030)), (z18, .inl (T 0, 121, .inl f1031)), (z19, .inl (T 0, 121, .inl f1032)), (z20, .inl (T 0, 121, .inl f1033))] := hD
      refine W.widen (k := 0) (n := 0) (Nat.le_of_ble_eq_true rfl) (Nat.le_of_ble_eq_true rfl) ?_
      exact r_iret () C0 hr hlocks hS (Nat.le_of_ble_eq_true rfl) (Nat.le_of_ble_eq_true rfl) dX10_loops_32 (by first | rfl | decide +kernel | simp [bi, FO, TS, c_1016, c_1020]) P_nil D_nil
    · skip
      have c_1020 := bi_z c_1020
      refine lv_iconst (v := (-1)) hx hb dX10_loops_18 (by decide) ?_
      exact r_iret () C0 hr hlocks hS (Nat.le_of_ble_eq_true rfl) (Nat.le_of_ble_eq_true rfl) dX10_loops_19 (by first | rfl | decide +kernel | simp [bi, FO, TS, c_1016, c_1020]) P_nil D_nil
set_option maxHeartbeats 4000000 in
set_option maxRecDepth 100000 in
theorem c_X10_within_1040 (l : Launch) (D : va_G) (T : Nat → ClassId) (sz : Nat) (z1 : Int32) : Met l yX10_within (.code yX10_within cX10_within 3 (some .boolean) :: TB) { frames := 0, cells := 0, slots := 0, locals := 0 } (PC D T [.int z1, .int 1, .int 10] [] sz) (Qi (S := Unit) (fun (r : Int32) (_ : Unit) => r = (bi (wi z1 1 10))) (fun (_ : Unit) => []) D (va_A [] sz)) 0 0 (va_A [] sz) := by
  refine ct_begin (Qc := Qi (S := Unit) (fun (r : Int32) (_ : Unit) => r = (bi (wi z1 1 10))) (fun (_ : Unit) => []) D) (by decide +kernel) (Nat.le_of_ble_eq_true rfl) ?_
  intro p e s m below meth c A ls C0 hr hlocks hnm hE hA hP hD hS hl
  have hx := C0.1
  have hb := C0.2.1
  have hml := C0.2.2.1
  have hown := C0.2.2.2.1
  have hT := C0.2.2.2.2
  have hK := hE.1
  have hl : lv_has ls 3 [(0, .int z1), (1, .int 1), (2, .int 10)] := hl
  refine lv_iload_n hx hb dX10_within_0 rfl (lv_at hl 0 rfl) ?_
  refine lv_iload_n hx hb dX10_within_1 rfl (lv_at hl 1 rfl) ?_
  refine lv_icmp_lt (tgt := 14) hx hb dX10_within_2 (by decide) (fun c_1038 => ?_) (fun c_1038 => ?_)
  · skip
    refine lv_iconst (v := 0) hx hb dX10_within_14 (by decide) ?_
    exact r_zret () C0 hr (by decide +kernel) hlocks hS (Nat.le_of_ble_eq_true rfl) (Nat.le_of_ble_eq_true rfl) dX10_within_15 (wi_a c_1038) P_nil D_nil
  · skip
    refine lv_iload_n hx hb dX10_within_5 rfl (lv_at hl 0 rfl) ?_
    refine lv_iload_n hx hb dX10_within_6 rfl (lv_at hl 2 rfl) ?_
    refine lv_icmp_gt (tgt := 14) hx hb dX10_within_7 (by decide) (fun c_1039 => ?_) (fun c_1039 => ?_)
    · skip
      refine lv_iconst (v := 0) hx hb dX10_within_14 (by decide) ?_
      exact r_zret () C0 hr (by decide +kernel) hlocks hS (Nat.le_of_ble_eq_true rfl) (Nat.le_of_ble_eq_true rfl) dX10_within_15 (wi_b c_1039) P_nil D_nil
    · skip
      refine lv_iconst (v := 1) hx hb dX10_within_10 (by decide) ?_
      refine lv_goto (tgt := 15) hx hb dX10_within_11 (by decide) ?_
      exact r_zret () C0 hr (by decide +kernel) hlocks hS (Nat.le_of_ble_eq_true rfl) (Nat.le_of_ble_eq_true rfl) dX10_within_15 (wi_c c_1038 c_1039) P_nil D_nil
set_option maxHeartbeats 4000000 in
set_option maxRecDepth 100000 in
theorem c_X10_within_1047 (l : Launch) (D : va_G) (T : Nat → ClassId) (sz : Nat) (z1 : Int32) : Met l yX10_within (.code yX10_within cX10_within 3 (some .boolean) :: TB) { frames := 0, cells := 0, slots := 0, locals := 0 } (PC D T [.int z1, .int 0, .int 99] [] sz) (Qi (S := Unit) (fun (r : Int32) (_ : Unit) => r = (bi (wi z1 0 99))) (fun (_ : Unit) => []) D (va_A [] sz)) 0 0 (va_A [] sz) := by
  refine ct_begin (Qc := Qi (S := Unit) (fun (r : Int32) (_ : Unit) => r = (bi (wi z1 0 99))) (fun (_ : Unit) => []) D) (by decide +kernel) (Nat.le_of_ble_eq_true rfl) ?_
  intro p e s m below meth c A ls C0 hr hlocks hnm hE hA hP hD hS hl
  have hx := C0.1
  have hb := C0.2.1
  have hml := C0.2.2.1
  have hown := C0.2.2.2.1
  have hT := C0.2.2.2.2
  have hK := hE.1
  have hl : lv_has ls 3 [(0, .int z1), (1, .int 0), (2, .int 99)] := hl
  refine lv_iload_n hx hb dX10_within_0 rfl (lv_at hl 0 rfl) ?_
  refine lv_iload_n hx hb dX10_within_1 rfl (lv_at hl 1 rfl) ?_
  refine lv_icmp_lt (tgt := 14) hx hb dX10_within_2 (by decide) (fun c_1045 => ?_) (fun c_1045 => ?_)
  · skip
    refine lv_iconst (v := 0) hx hb dX10_within_14 (by decide) ?_
    exact r_zret () C0 hr (by decide +kernel) hlocks hS (Nat.le_of_ble_eq_true rfl) (Nat.le_of_ble_eq_true rfl) dX10_within_15 (wi_a c_1045) P_nil D_nil
  · skip
    refine lv_iload_n hx hb dX10_within_5 rfl (lv_at hl 0 rfl) ?_
    refine lv_iload_n hx hb dX10_within_6 rfl (lv_at hl 2 rfl) ?_
    refine lv_icmp_gt (tgt := 14) hx hb dX10_within_7 (by decide) (fun c_1046 => ?_) (fun c_1046 => ?_)
    · skip
      refine lv_iconst (v := 0) hx hb dX10_within_14 (by decide) ?_
      exact r_zret () C0 hr (by decide +kernel) hlocks hS (Nat.le_of_ble_eq_true rfl) (Nat.le_of_ble_eq_true rfl) dX10_within_15 (wi_b c_1046) P_nil D_nil
    · skip
      refine lv_iconst (v := 1) hx hb dX10_within_10 (by decide) ?_
      refine lv_goto (tgt := 15) hx hb dX10_within_11 (by decide) ?_
      exact r_zret () C0 hr (by decide +kernel) hlocks hS (Nat.le_of_ble_eq_true rfl) (Nat.le_of_ble_eq_true rfl) dX10_within_15 (wi_c c_1045 c_1046) P_nil D_nil
set_option maxHeartbeats 4000000 in
set_option maxRecDepth 100000 in
theorem c_X10_canPress_1062 (l : Launch) (D : va_G) (T : Nat → ClassId) (sz : Nat) (z1 : Int32) (z2 : Int32) : Met l yX10_canPress (.code yX10_canPress cX10_canPress 2 (some .boolean) :: TB) { frames := 1, cells := 0, slots := 0, locals := 22 } (PC D T [.int z1, .int z2] [] sz) (Qi (S := Unit) (fun (r : Int32) (_ : Unit) => r = (bi (wi z1 0 99 && wi z2 0 99))) (fun (_ : Unit) => []) D (va_A [] sz)) 0 0 (va_A [] sz) := by
  refine ct_begin (Qc := Qi (S := Unit) (fun (r : Int32) (_ : Unit) => r = (bi (wi z1 0 99 && wi z2 0 99))) (fun (_ : Unit) => []) D) (by decide +kernel) (Nat.le_of_ble_eq_true rfl) ?_
  intro p e s m below meth c A ls C0 hr hlocks hnm hE hA hP hD hS hl
  have hx := C0.1
  have hb := C0.2.1
  have hml := C0.2.2.1
  have hown := C0.2.2.2.1
  have hT := C0.2.2.2.2
  have hK := hE.1
  have hl : lv_has ls 2 [(0, .int z1), (1, .int z2)] := hl
  refine lv_iload_n hx hb dX10_canPress_0 rfl (lv_at hl 0 rfl) ?_
  refine lv_iconst (v := 0) hx hb dX10_canPress_1 (by decide) ?_
  refine lv_bipush (v := 99) hx hb dX10_canPress_2 (by decide) ?_
  refine r_calli (wr := []) (r_runS (As := [.int z1, .int 0, .int 99]) (rest := []) (wc := []) C0 hE (c_X10_within_1047 l D T s.heap.size z1) mw_483 mw_484 mw_7 mw_485 dn_482 rfl rfl ⟨Nat.le_of_ble_eq_true rfl, Nat.le_of_ble_eq_true rfl⟩ (hP.sub (ws' := []) [] rfl) (hD.sub (ws' := []) [] (by decide +kernel) rfl) hl.1 rfl (Nat.le_of_ble_eq_true rfl) dX10_canPress_4 ⟨Nat.le_of_ble_eq_true rfl, Nat.le_of_ble_eq_true rfl⟩) hP hD hS hA [] [] rfl rfl (by decide +kernel) (by decide +kernel) (fun r1056 u H locs hq hP hD hS => ?_)
  have hq : r1056 = (bi (wi z1 0 99)) := hq
  subst hq
  have hP : va_P D vwCl [] H := hP
  have hD : va_D A [] := hD
  refine W.widen (k := 0) (n := 0) (Nat.le_of_ble_eq_true rfl) (Nat.le_of_ble_eq_true rfl) ?_
  refine lv_if_eq (tgt := 24) hx hb dX10_canPress_7 (by decide) (fun c_1057 => ?_) (fun c_1057 => ?_)
  · skip
    have c_1057 := bi_z c_1057
    refine lv_iconst (v := 0) hx hb dX10_canPress_24 (by decide) ?_
    exact r_zret () C0 hr (by decide +kernel) hlocks hS (Nat.le_of_ble_eq_true rfl) (Nat.le_of_ble_eq_true rfl) dX10_canPress_25 (by first | rfl | decide +kernel | simp [bi, FO, TS, c_1057]) P_nil D_nil
  · skip
    have c_1057 := bi_nz c_1057
    refine lv_iload_n hx hb dX10_canPress_10 rfl (lv_at hl 1 rfl) ?_
    refine lv_iconst (v := 0) hx hb dX10_canPress_11 (by decide) ?_
    refine lv_bipush (v := 99) hx hb dX10_canPress_12 (by decide) ?_
    refine r_calli (wr := []) (r_runS (As := [.int z2, .int 0, .int 99]) (rest := []) (wc := []) C0 hE (c_X10_within_1047 l D T H.size z2) mw_483 mw_484 mw_7 mw_485 dn_482 rfl rfl ⟨Nat.le_of_ble_eq_true rfl, Nat.le_of_ble_eq_true rfl⟩ (hP.sub (ws' := []) [] rfl) (hD.sub (ws' := []) [] (by decide +kernel) rfl) hl.1 rfl (Nat.le_of_ble_eq_true rfl) dX10_canPress_14 ⟨Nat.le_of_ble_eq_true rfl, Nat.le_of_ble_eq_true rfl⟩) hP hD hS hA [] [] rfl rfl (by decide +kernel) (by decide +kernel) (fun r1060 u H locs hq hP hD hS => ?_)
    have hq : r1060 = (bi (wi z2 0 99)) := hq
    subst hq
    have hP : va_P D vwCl [] H := hP
    have hD : va_D A [] := hD
    refine W.widen (k := 0) (n := 0) (Nat.le_of_ble_eq_true rfl) (Nat.le_of_ble_eq_true rfl) ?_
    refine lv_if_eq (tgt := 24) hx hb dX10_canPress_17 (by decide) (fun c_1061 => ?_) (fun c_1061 => ?_)
    · skip
      have c_1061 := bi_z c_1061
      refine lv_iconst (v := 0) hx hb dX10_canPress_24 (by decide) ?_
      exact r_zret () C0 hr (by decide +kernel) hlocks hS (Nat.le_of_ble_eq_true rfl) (Nat.le_of_ble_eq_true rfl) dX10_canPress_25 (by first | rfl | decide +kernel | simp [bi, FO, TS, c_1057, c_1061]) P_nil D_nil
    · skip
      have c_1061 := bi_nz c_1061
      refine lv_iconst (v := 1) hx hb dX10_canPress_20 (by decide) ?_
      refine lv_goto (tgt := 25) hx hb dX10_canPress_21 (by decide) ?_
      exact r_zret () C0 hr (by decide +kernel) hlocks hS (Nat.le_of_ble_eq_true rfl) (Nat.le_of_ble_eq_true rfl) dX10_canPress_25 (by first | rfl | decide +kernel | simp [bi, FO, TS, c_1057, c_1061]) P_nil D_nil
