set_option maxHeartbeats 4000000 in
set_option maxRecDepth 100000 in
theorem g_X10_isBatch_1047430 (l : Launch) (D : va_G) (T : Nat → ClassId) (sq sv sz : Nat) (p0 : Int32) (p1 : Int32) : Met l yX10_isBatch (.code yX10_isBatch cX10_isBatch 2 (some .boolean) :: TB) { frames := 1, cells := 0, slots := 0, locals := 22 } (PC2 D T sq sv [.int p0, .int p1] (([] : va_W)) sz) (Qi (S := Unit) (fun (r : Int32) (_ : Unit) => (r.toInt = 0 ∨ ((1 ≤ p0.toInt ∧ p0.toInt ≤ 50) ∧ (0 ≤ p1.toInt ∧ p1.toInt ≤ p0.toInt))) ∧ (0 ≤ r.toInt ∧ r.toInt ≤ 1)) (fun (_ : Unit) => ([] : va_W)) D (va_A (([] : va_W)) sz)) 0 0 (va_A (([] : va_W)) sz) := by
  refine ct_begin2 (Qc := Qi (S := Unit) (fun (r : Int32) (_ : Unit) => (r.toInt = 0 ∨ ((1 ≤ p0.toInt ∧ p0.toInt ≤ 50) ∧ (0 ≤ p1.toInt ∧ p1.toInt ≤ p0.toInt))) ∧ (0 ≤ r.toInt ∧ r.toInt ≤ 1)) (fun (_ : Unit) => ([] : va_W)) D) (by decide +kernel) (Nat.le_of_ble_eq_true rfl) ?_
  intro p e s m below meth c A ls C0 hr hlocks hnm hE hStr hA hP hD hl
  generalize ([.int p0, .int p1] : List Value).toArray = args at C0 ⊢
  have hx := C0.1
  have hb := C0.2.1
  have hml := C0.2.2.1
  have hown := C0.2.2.2.1
  have hT := C0.2.2.2.2
  have hK := hE.1
  generalize hH : s.heap = H at hP ⊢
  have hS : va_S A s.heap H [] := by rw [← hH]; exact va_S.rf
  have hP : va_P D vwCl [] H := hP
  have hD : va_D A [] := hD
  have hl : lv_has ls 2 [(0, .int p0), (1, .int p1)] := hl
  refine lv_iload_n hx hb dX10_isBatch_0 rfl (lv_at hl 0 rfl) ?_
  refine lv_iconst (v := 1) hx hb dX10_isBatch_1 (by decide) ?_
  refine lv_bipush (v := 50) hx hb dX10_isBatch_2 (by decide) ?_
  refine r_calli (wr := []) (r_runS2 (As := [.int p0, .int 1, .int 50]) (rest := []) (wc := []) C0 hE hStr hS (va_free (wc := []) hD hS hA [] rfl) (g_X10_within_62123 l D T sq sv H.size p0 1 50) mw_282 mw_283 mw_1 mw_284 dn_1700 rfl rfl ⟨Nat.le_of_ble_eq_true rfl, Nat.le_of_ble_eq_true rfl⟩ (hP.sub (ws' := []) [] rfl) (hD.sub (ws' := []) [] (by decide +kernel) rfl) hl.1 rfl (Nat.le_of_ble_eq_true rfl) dX10_isBatch_4 ⟨Nat.le_of_ble_eq_true rfl, Nat.le_of_ble_eq_true rfl⟩) hP hD hS hA [] [] rfl rfl (by decide +kernel) (by decide +kernel) (fun x1047431 u H locs hq hP hD hS => ?_)
  obtain ⟨hp1047432, hx1047431⟩ := hq
  have hl1047433 : (1 : Int32).toInt = 1 := by decide
  have hl1047434 : (50 : Int32).toInt = 50 := by decide
  have hp1047432 := hp1047432
  have hP : va_P D vwCl [] H := hP
  have hD : va_D A [] := hD
  refine W.widen (k := 0) (n := 0) (Nat.le_refl _) (Nat.le_refl _) ?_
  refine lv_if_eq (tgt := 23) hx hb dX10_isBatch_7 (by decide) (fun c1047435 => ?_) (fun c1047435 => ?_)
  · skip
    have kc1047435 : x1047431.toInt = 0 := eq_ti rfl (by decide) c1047435
    refine lv_iconst (v := 0) hx hb dX10_isBatch_23 (by decide) ?_
    exact r_zret () C0 hr (by decide +kernel) hlocks hS (Nat.le_refl _) (Nat.le_refl _) dX10_isBatch_24 ⟨(by first | omega | exact Or.inl (by decide) | exact Or.inr (by omega)), ⟨by decide, by decide⟩⟩ (hP.sub (ws' := []) [] rfl) (hD.sub (ws' := []) [] (by decide +kernel) rfl)
  · skip
    have kc1047435 : x1047431.toInt ≠ 0 := ne_ti rfl (by decide) c1047435
    have nzx1047431 : ¬ x1047431 = 0 := c1047435
    refine lv_iload_n hx hb dX10_isBatch_10 rfl (lv_at hl 1 rfl) ?_
    refine lv_iconst (v := 0) hx hb dX10_isBatch_11 (by decide) ?_
    refine lv_iload_n hx hb dX10_isBatch_12 rfl (lv_at hl 0 rfl) ?_
    refine r_calli (wr := []) (r_runS2 (As := [.int p1, .int 0, .int p0]) (rest := []) (wc := []) C0 hE hStr hS (va_free (wc := []) hD hS hA [] rfl) (g_X10_within_62123 l D T sq sv H.size p1 0 p0) mw_282 mw_283 mw_1 mw_284 dn_1700 rfl rfl ⟨Nat.le_of_ble_eq_true rfl, Nat.le_of_ble_eq_true rfl⟩ (hP.sub (ws' := []) [] rfl) (hD.sub (ws' := []) [] (by decide +kernel) rfl) hl.1 rfl (Nat.le_of_ble_eq_true rfl) dX10_isBatch_13 ⟨Nat.le_of_ble_eq_true rfl, Nat.le_of_ble_eq_true rfl⟩) hP hD hS hA [] [] rfl rfl (by decide +kernel) (by decide +kernel) (fun x1047436 u H locs hq hP hD hS => ?_)
    obtain ⟨hp1047437, hx1047436⟩ := hq
    have hl1047438 : (0 : Int32).toInt = 0 := by decide
    have hp1047437 := hp1047437
    have hP : va_P D vwCl [] H := hP
    have hD : va_D A [] := hD
    refine W.widen (k := 0) (n := 0) (Nat.le_refl _) (Nat.le_refl _) ?_
    refine lv_if_eq (tgt := 23) hx hb dX10_isBatch_16 (by decide) (fun c1047439 => ?_) (fun c1047439 => ?_)
    · skip
      have kc1047439 : x1047436.toInt = 0 := eq_ti rfl (by decide) c1047439
      refine lv_iconst (v := 0) hx hb dX10_isBatch_23 (by decide) ?_
      exact r_zret () C0 hr (by decide +kernel) hlocks hS (Nat.le_refl _) (Nat.le_refl _) dX10_isBatch_24 ⟨(by first | omega | exact Or.inl (by decide) | exact Or.inr (by omega)), ⟨by decide, by decide⟩⟩ (hP.sub (ws' := []) [] rfl) (hD.sub (ws' := []) [] (by decide +kernel) rfl)
    · skip
      have kc1047439 : x1047436.toInt ≠ 0 := ne_ti rfl (by decide) c1047439
      have nzx1047436 : ¬ x1047436 = 0 := c1047439
      refine lv_iconst (v := 1) hx hb dX10_isBatch_19 (by decide) ?_
      refine lv_goto (tgt := 24) hx hb dX10_isBatch_20 (by decide) ?_
      exact r_zret () C0 hr (by decide +kernel) hlocks hS (Nat.le_refl _) (Nat.le_refl _) dX10_isBatch_24 ⟨(by first | omega | exact Or.inl (by decide) | exact Or.inr (by omega)), ⟨by decide, by decide⟩⟩ (hP.sub (ws' := []) [] rfl) (hD.sub (ws' := []) [] (by decide +kernel) rfl)
set_option maxHeartbeats 4000000 in
set_option maxRecDepth 100000 in
theorem g_X10_ways_1048010 (l : Launch) (D : va_G) (T : Nat → ClassId) (sq sv sz : Nat) (p0 : Int32) (p1 : Int32) (hp0 : -50 ≤ p0.toInt ∧ p0.toInt ≤ 50) (hp1 : -50 ≤ p1.toInt ∧ p1.toInt ≤ 50) : Met l yX10_ways (.code yX10_ways cX10_ways 5 (some .long) :: TB) { frames := 0, cells := 0, slots := 0, locals := 0 } (PC2 D T sq sv [.int p0, .int p1] (([] : va_W)) sz) (Ql (S := Unit) (fun (r : Int64) (_ : Unit) => True) (fun (_ : Unit) => ([] : va_W)) D (va_A (([] : va_W)) sz)) 0 0 (va_A (([] : va_W)) sz) := by
  refine ct_begin2 (Qc := Ql (S := Unit) (fun (r : Int64) (_ : Unit) => True) (fun (_ : Unit) => ([] : va_W)) D) (by decide +kernel) (Nat.le_of_ble_eq_true rfl) ?_
  intro p e s m below meth c A ls C0 hr hlocks hnm hE hStr hA hP hD hl
  generalize ([.int p0, .int p1] : List Value).toArray = args at C0 ⊢
  have hx := C0.1
  have hb := C0.2.1
  have hml := C0.2.2.1
  have hown := C0.2.2.2.1
  have hT := C0.2.2.2.2
  have hK := hE.1
  generalize hH : s.heap = H at hP ⊢
  have hS : va_S A s.heap H [] := by rw [← hH]; exact va_S.rf
  have hP : va_P D vwCl [] H := hP
  have hD : va_D A [] := hD
  have hl : lv_has ls 5 [(0, .int p0), (1, .int p1)] := hl
  refine lv_iload_n hx hb dX10_ways_0 rfl (lv_at hl 1 rfl) ?_
  refine lv_if_lt (tgt := 9) hx hb dX10_ways_1 (by decide) (fun c1048011 => ?_) (fun c1048011 => ?_)
  · skip
    have kc1048011 : p1.toInt < 0 := lt_ti rfl (by decide) c1048011
    refine lv_lconst (v := 0) hx hb dX10_ways_9 (by decide) ?_
    exact r_lret () C0 hr hlocks hS (Nat.le_refl _) (Nat.le_refl _) dX10_ways_10 trivial (hP.sub (ws' := []) [] rfl) (hD.sub (ws' := []) [] (by decide +kernel) rfl)
  · skip
    have kc1048011 : 0 ≤ p1.toInt := nlt_ti rfl (by decide) c1048011
    refine lv_iload_n hx hb dX10_ways_4 rfl (lv_at hl 1 rfl) ?_
    refine lv_iload_n hx hb dX10_ways_5 rfl (lv_at hl 0 rfl) ?_
    refine lv_icmp_le (tgt := 11) hx hb dX10_ways_6 (by decide) (fun c1048012 => ?_) (fun c1048012 => ?_)
    · skip
      have kc1048012 : p1.toInt ≤ p0.toInt := le_ti rfl rfl c1048012
      refine lv_lconst (v := 1) hx hb dX10_ways_11 (by decide) ?_
      refine lv_lstore_n (lv' := [(2, .long 1), (0, .int p0), (1, .int p1)]) hx hb dX10_ways_12 rfl hl (by decide) rfl (fun ls hl => ?_)
      refine lv_iconst (v := 1) hx hb dX10_ways_13 (by decide) ?_
      refine lv_istore (lv' := [(4, .int 1), (2, .long 1), (0, .int p0), (1, .int p1)]) hx hb dX10_ways_14 hl (by decide) rfl (fun ls hl => ?_)
      have L1048229 : ∀ (n : Nat) (x1048219 : Int32) (x1048220 : Int64) (H : Heap) (locs : List Loc) (ls : Array Slot), (1 ≤ x1048219.toInt ∧ x1048219.toInt ≤ 63) → (64 - x1048219.toInt).toNat < n → va_P D vwCl [] H → va_D A [] → va_S A s.heap H locs → lv_has ls 5 [(4, .int x1048219), (2, .long x1048220), (0, .int p0), (1, .int p1)] → W p l e { frames := 0, cells := 0, slots := 0, locals := 0 } s m args below meth c H locs 0 0 (MQ below ((Ql (S := Unit) (fun (r : Int64) (_ : Unit) => True) (fun (_ : Unit) => ([] : va_W)) D) A) args s 0 0 A) (F0 m 16 ls []) := by
        intro n
        induction n with
        | zero =>
          intro x1048219 x1048220 H locs ls hx1048219 hms hP hD hS hl
          exact absurd hms (Nat.not_lt_zero _)
        | succ n ih =>
          intro x1048219 x1048220 H locs ls hx1048219 hms hP hD hS hl
          refine lv_iload hx hb dX10_ways_16 (lv_at hl 0 rfl) ?_
          refine lv_iload_n hx hb dX10_ways_18 rfl (lv_at hl 3 rfl) ?_
          refine lv_icmp_gt (tgt := 42) hx hb dX10_ways_19 (by decide) (fun c1048230 => ?_) (fun c1048230 => ?_)
          · skip
            have kc1048230 : p1.toInt < x1048219.toInt := lt_ti rfl rfl c1048230
            refine lv_lload_n hx hb dX10_ways_42 rfl (lv_at hl 1 rfl) ?_
            exact r_lret () C0 hr hlocks hS (Nat.le_refl _) (Nat.le_refl _) dX10_ways_43 trivial (hP.sub (ws' := []) [] rfl) (hD.sub (ws' := []) [] (by decide +kernel) rfl)
          · skip
            have kc1048230 : x1048219.toInt ≤ p1.toInt := nlt_ti rfl rfl c1048230
            refine lv_lload_n hx hb dX10_ways_22 rfl (lv_at hl 1 rfl) ?_
            refine lv_iload_n hx hb dX10_ways_23 rfl (lv_at hl 2 rfl) ?_
            refine lv_iload_n hx hb dX10_ways_24 rfl (lv_at hl 3 rfl) ?_
            refine lv_isub hx hb dX10_ways_25 ?_
            refine lv_topi (fun x1048238 ex1048238 => ?_)
            have hx1048238 : x1048238.toInt = p0.toInt - p1.toInt := ti_sub ex1048238 rfl rfl (by omega) (by omega)
            refine lv_iload hx hb dX10_ways_26 (lv_at hl 0 rfl) ?_
            refine lv_iadd hx hb dX10_ways_28 ?_
            refine lv_topi (fun x1048239 ex1048239 => ?_)
            have hx1048239 : x1048239.toInt = x1048238.toInt + x1048219.toInt := ti_add ex1048239 rfl rfl (by omega) (by omega)
            refine lv_i2l hx hb dX10_ways_29 rfl ?_
            refine lv_topl (fun x1048240 ex1048240 => ?_)
            refine lv_lmul hx hb dX10_ways_30 ?_
            refine lv_topl (fun x1048241 ex1048241 => ?_)
            refine lv_iload hx hb dX10_ways_31 (lv_at hl 0 rfl) ?_
            refine lv_i2l hx hb dX10_ways_33 rfl ?_
            refine lv_topl (fun x1048242 ex1048242 => ?_)
            refine lv_ldiv hx hb dX10_ways_34 (by rw [ex1048242]; exact nz_l rfl (by omega)) ?_
            refine lv_topl (fun x1048243 ex1048243 => ?_)
            refine lv_lstore_n (lv' := [(2, .long x1048243), (4, .int x1048219), (0, .int p0), (1, .int p1)]) hx hb dX10_ways_35 rfl hl (by decide) rfl (fun ls hl => ?_)
            obtain ⟨x1048244, ex1048244⟩ : ∃ y : Int32, y = x1048219 + 1 := ⟨_, rfl⟩
            have hx1048244 : x1048244.toInt = x1048219.toInt + 1 := ti_add ex1048244 rfl (by decide) (by omega) (by omega)
            refine lv_iinc (v := x1048244) (lv' := [(4, .int x1048244), (2, .long x1048243), (0, .int p0), (1, .int p1)]) hx hb dX10_ways_36 hl (k := 1) rfl (by rw [ex1048244]; rfl) (by decide) rfl (fun ls hl => ?_)
            refine lv_goto (tgt := 16) hx hb dX10_ways_39 (by decide) ?_
            exact ih x1048244 x1048243 _ _ ls ⟨by omega, by omega⟩ (by omega) (hP.sub (ws' := []) [] rfl) (hD.sub (ws' := []) [] (by decide +kernel) rfl) hS (lv_sub hl [0, 1, 2, 3] rfl)
      exact L1048229 _ 1 1 _ _ ls ⟨by decide, by decide⟩ (Nat.lt_succ_self _) (hP.sub (ws' := []) [] rfl) (hD.sub (ws' := []) [] (by decide +kernel) rfl) hS (lv_sub hl [0, 1, 2, 3] rfl)
    · skip
      have kc1048012 : p0.toInt < p1.toInt := nle_ti rfl rfl c1048012
      refine lv_lconst (v := 0) hx hb dX10_ways_9 (by decide) ?_
      exact r_lret () C0 hr hlocks hS (Nat.le_refl _) (Nat.le_refl _) dX10_ways_10 trivial (hP.sub (ws' := []) [] rfl) (hD.sub (ws' := []) [] (by decide +kernel) rfl)
set_option maxHeartbeats 4000000 in
set_option maxRecDepth 100000 in
theorem g_X10_found_1048673 (l : Launch) (D : va_G) (T : Nat → ClassId) (sq sv sz : Nat) (z1 : Nat) (z2 : Nat) (z3 : Nat) (z4 : Nat) (z5 : Nat) (z6 : Nat) (z7 : Nat) (z8 : Nat) (z9 : Nat) (z10 : Nat) (z11 : Nat) (z12 : Nat) (p1 : Int32) (p2 : Int32) (p3 : Int32) (p4 : Int32) (p5 : Int32) (w1 : va_W) (hw1 : B_X10 T z1 z2 z3 z4 z5 z6 z7 z8 z9 z10 z11 z12 w1) : Met l yX10_found (.code yX10_found cX10_found 9 (some .long) :: TB) { frames := 2, cells := 0, slots := 0, locals := 43 } (PC2 D T sq sv [.ref z1, .int p1, .int p2, .int p3, .int p4, .int p5] (w1) sz) (Ql (S := Unit) (fun (r : Int64) (_ : Unit) => True) (fun (_ : Unit) => w1) D (va_A (w1) sz)) 0 0 (va_A (w1) sz) := by
  obtain ⟨x1048678, x1048679, x1048680, x1048681, rfl, hx1048678, hx1048679⟩ := hw1
  refine ct_begin2 (Qc := Ql (S := Unit) (fun (r : Int64) (_ : Unit) => True) (fun (_ : Unit) => ([(z1, .inr (10, (.ref z2 :: .ref z3 :: .ref z4 :: .ref z5 :: .ref z6 :: .ref z7 :: .ref z8 :: .ref z9 :: .ref z10 :: .ref z11 :: .ref z12 :: .int x1048678 :: .int x1048679 :: .int x1048680 :: .int x1048681 :: [])))] : va_W)) D) (by decide +kernel) (Nat.le_of_ble_eq_true rfl) ?_
  intro p e s m below meth c A ls C0 hr hlocks hnm hE hStr hA hP hD hl
  generalize ([.ref z1, .int p1, .int p2, .int p3, .int p4, .int p5] : List Value).toArray = args at C0 ⊢
  have hx := C0.1
  have hb := C0.2.1
  have hml := C0.2.2.1
  have hown := C0.2.2.2.1
  have hT := C0.2.2.2.2
  have hK := hE.1
  generalize hH : s.heap = H at hP ⊢
  have hS : va_S A s.heap H [] := by rw [← hH]; exact va_S.rf
  have hP : va_P D vwCl [(z1, .inr (10, (.ref z2 :: .ref z3 :: .ref z4 :: .ref z5 :: .ref z6 :: .ref z7 :: .ref z8 :: .ref z9 :: .ref z10 :: .ref z11 :: .ref z12 :: .int x1048678 :: .int x1048679 :: .int x1048680 :: .int x1048681 :: [])))] H := hP
  have hD : va_D A [(z1, .inr (10, (.ref z2 :: .ref z3 :: .ref z4 :: .ref z5 :: .ref z6 :: .ref z7 :: .ref z8 :: .ref z9 :: .ref z10 :: .ref z11 :: .ref z12 :: .int x1048678 :: .int x1048679 :: .int x1048680 :: .int x1048681 :: [])))] := hD
  have hl : lv_has ls 9 [(0, .ref z1), (1, .int p1), (2, .int p2), (3, .int p3), (4, .int p4), (5, .int p5)] := hl
  refine lv_iload_n hx hb dX10_found_0 rfl (lv_at hl 1 rfl) ?_
  refine lv_iload_n hx hb dX10_found_1 rfl (lv_at hl 2 rfl) ?_
  refine r_calli (wr := [(z1, .inr (10, (.ref z2 :: .ref z3 :: .ref z4 :: .ref z5 :: .ref z6 :: .ref z7 :: .ref z8 :: .ref z9 :: .ref z10 :: .ref z11 :: .ref z12 :: .int x1048678 :: .int x1048679 :: .int x1048680 :: .int x1048681 :: [])))]) (r_runS2 (As := [.int p1, .int p2]) (rest := []) (wc := []) C0 hE hStr hS (va_free (wc := []) hD hS hA [] rfl) (g_X10_isBatch_1047430 l D T sq sv H.size p1 p2) mw_765 mw_766 mw_1 mw_767 dn_1699 rfl rfl ⟨Nat.le_of_ble_eq_true rfl, Nat.le_of_ble_eq_true rfl⟩ (hP.sub (ws' := []) [] rfl) (hD.sub (ws' := []) [] (by decide +kernel) rfl) hl.1 rfl (Nat.le_of_ble_eq_true rfl) dX10_found_2 ⟨Nat.le_of_ble_eq_true rfl, Nat.le_of_ble_eq_true rfl⟩) hP hD hS hA [] [0] rfl rfl (by decide +kernel) (by decide +kernel) (fun x1048682 u H locs hq hP hD hS => ?_)
  obtain ⟨hp1048683, hx1048682⟩ := hq
  have hp1048683 := hp1048683
  have hP : va_P D vwCl [(z1, .inr (10, (.ref z2 :: .ref z3 :: .ref z4 :: .ref z5 :: .ref z6 :: .ref z7 :: .ref z8 :: .ref z9 :: .ref z10 :: .ref z11 :: .ref z12 :: .int x1048678 :: .int x1048679 :: .int x1048680 :: .int x1048681 :: [])))] H := hP
  have hD : va_D A [(z1, .inr (10, (.ref z2 :: .ref z3 :: .ref z4 :: .ref z5 :: .ref z6 :: .ref z7 :: .ref z8 :: .ref z9 :: .ref z10 :: .ref z11 :: .ref z12 :: .int x1048678 :: .int x1048679 :: .int x1048680 :: .int x1048681 :: [])))] := hD
  refine W.widen (k := 0) (n := 0) (Nat.le_refl _) (Nat.le_refl _) ?_
  refine lv_if_eq (tgt := 27) hx hb dX10_found_5 (by decide) (fun c1048684 => ?_) (fun c1048684 => ?_)
  · skip
    have kc1048684 : x1048682.toInt = 0 := eq_ti rfl (by decide) c1048684
    refine lv_ldc2 hx hb hown (hT _ mw_608) dX10_found_27 ?_
    exact r_lret () C0 hr hlocks hS (Nat.le_refl _) (Nat.le_refl _) dX10_found_30 trivial (hP.sub (ws' := [(z1, .inr (10, (.ref z2 :: .ref z3 :: .ref z4 :: .ref z5 :: .ref z6 :: .ref z7 :: .ref z8 :: .ref z9 :: .ref z10 :: .ref z11 :: .ref z12 :: .int x1048678 :: .int x1048679 :: .int x1048680 :: .int x1048681 :: [])))]) [0] rfl) (hD.sub (ws' := [(z1, .inr (10, (.ref z2 :: .ref z3 :: .ref z4 :: .ref z5 :: .ref z6 :: .ref z7 :: .ref z8 :: .ref z9 :: .ref z10 :: .ref z11 :: .ref z12 :: .int x1048678 :: .int x1048679 :: .int x1048680 :: .int x1048681 :: [])))]) [0] (by decide +kernel) rfl)
  · skip
    have kc1048684 : x1048682.toInt ≠ 0 := ne_ti rfl (by decide) c1048684
    have nzx1048682 : ¬ x1048682 = 0 := c1048684
    refine lv_iload_n hx hb dX10_found_8 rfl (lv_at hl 3 rfl) ?_
    refine lv_iconst (v := 0) hx hb dX10_found_9 (by decide) ?_
    refine lv_iload_n hx hb dX10_found_10 rfl (lv_at hl 1 rfl) ?_
    refine r_calli (wr := [(z1, .inr (10, (.ref z2 :: .ref z3 :: .ref z4 :: .ref z5 :: .ref z6 :: .ref z7 :: .ref z8 :: .ref z9 :: .ref z10 :: .ref z11 :: .ref z12 :: .int x1048678 :: .int x1048679 :: .int x1048680 :: .int x1048681 :: [])))]) (r_runS2 (As := [.int p3, .int 0, .int p1]) (rest := []) (wc := []) C0 hE hStr hS (va_free (wc := []) hD hS hA [] rfl) (g_X10_within_62123 l D T sq sv H.size p3 0 p1) mw_282 mw_283 mw_1 mw_284 dn_1700 rfl rfl ⟨Nat.le_of_ble_eq_true rfl, Nat.le_of_ble_eq_true rfl⟩ (hP.sub (ws' := []) [] rfl) (hD.sub (ws' := []) [] (by decide +kernel) rfl) hl.1 rfl (Nat.le_of_ble_eq_true rfl) dX10_found_11 ⟨Nat.le_of_ble_eq_true rfl, Nat.le_of_ble_eq_true rfl⟩) hP hD hS hA [] [0] rfl rfl (by decide +kernel) (by decide +kernel) (fun x1048685 u H locs hq hP hD hS => ?_)
    obtain ⟨hp1048686, hx1048685⟩ := hq
    have hl1048687 : (0 : Int32).toInt = 0 := by decide
    have hp1048686 := hp1048686
    have hP : va_P D vwCl [(z1, .inr (10, (.ref z2 :: .ref z3 :: .ref z4 :: .ref z5 :: .ref z6 :: .ref z7 :: .ref z8 :: .ref z9 :: .ref z10 :: .ref z11 :: .ref z12 :: .int x1048678 :: .int x1048679 :: .int x1048680 :: .int x1048681 :: [])))] H := hP
    have hD : va_D A [(z1, .inr (10, (.ref z2 :: .ref z3 :: .ref z4 :: .ref z5 :: .ref z6 :: .ref z7 :: .ref z8 :: .ref z9 :: .ref z10 :: .ref z11 :: .ref z12 :: .int x1048678 :: .int x1048679 :: .int x1048680 :: .int x1048681 :: [])))] := hD
    refine W.widen (k := 0) (n := 0) (Nat.le_refl _) (Nat.le_refl _) ?_
    refine lv_if_eq (tgt := 27) hx hb dX10_found_14 (by decide) (fun c1048688 => ?_) (fun c1048688 => ?_)
    · skip
      have kc1048688 : x1048685.toInt = 0 := eq_ti rfl (by decide) c1048688
      refine lv_ldc2 hx hb hown (hT _ mw_608) dX10_found_27 ?_
      exact r_lret () C0 hr hlocks hS (Nat.le_refl _) (Nat.le_refl _) dX10_found_30 trivial (hP.sub (ws' := [(z1, .inr (10, (.ref z2 :: .ref z3 :: .ref z4 :: .ref z5 :: .ref z6 :: .ref z7 :: .ref z8 :: .ref z9 :: .ref z10 :: .ref z11 :: .ref z12 :: .int x1048678 :: .int x1048679 :: .int x1048680 :: .int x1048681 :: [])))]) [0] rfl) (hD.sub (ws' := [(z1, .inr (10, (.ref z2 :: .ref z3 :: .ref z4 :: .ref z5 :: .ref z6 :: .ref z7 :: .ref z8 :: .ref z9 :: .ref z10 :: .ref z11 :: .ref z12 :: .int x1048678 :: .int x1048679 :: .int x1048680 :: .int x1048681 :: [])))]) [0] (by decide +kernel) rfl)
    · skip
      have kc1048688 : x1048685.toInt ≠ 0 := ne_ti rfl (by decide) c1048688
      have nzx1048685 : ¬ x1048685 = 0 := c1048688
      refine lv_iload hx hb dX10_found_17 (lv_at hl 4 rfl) ?_
      refine lv_iconst (v := 0) hx hb dX10_found_19 (by decide) ?_
      refine lv_iload_n hx hb dX10_found_20 rfl (lv_at hl 3 rfl) ?_
      refine r_calli (wr := [(z1, .inr (10, (.ref z2 :: .ref z3 :: .ref z4 :: .ref z5 :: .ref z6 :: .ref z7 :: .ref z8 :: .ref z9 :: .ref z10 :: .ref z11 :: .ref z12 :: .int x1048678 :: .int x1048679 :: .int x1048680 :: .int x1048681 :: [])))]) (r_runS2 (As := [.int p4, .int 0, .int p3]) (rest := []) (wc := []) C0 hE hStr hS (va_free (wc := []) hD hS hA [] rfl) (g_X10_within_62123 l D T sq sv H.size p4 0 p3) mw_282 mw_283 mw_1 mw_284 dn_1700 rfl rfl ⟨Nat.le_of_ble_eq_true rfl, Nat.le_of_ble_eq_true rfl⟩ (hP.sub (ws' := []) [] rfl) (hD.sub (ws' := []) [] (by decide +kernel) rfl) hl.1 rfl (Nat.le_of_ble_eq_true rfl) dX10_found_21 ⟨Nat.le_of_ble_eq_true rfl, Nat.le_of_ble_eq_true rfl⟩) hP hD hS hA [] [0] rfl rfl (by decide +kernel) (by decide +kernel) (fun x1048689 u H locs hq hP hD hS => ?_)
      obtain ⟨hp1048690, hx1048689⟩ := hq
      have hl1048691 : (0 : Int32).toInt = 0 := by decide
      have hp1048690 := hp1048690
      have hP : va_P D vwCl [(z1, .inr (10, (.ref z2 :: .ref z3 :: .ref z4 :: .ref z5 :: .ref z6 :: .ref z7 :: .ref z8 :: .ref z9 :: .ref z10 :: .ref z11 :: .ref z12 :: .int x1048678 :: .int x1048679 :: .int x1048680 :: .int x1048681 :: [])))] H := hP
      have hD : va_D A [(z1, .inr (10, (.ref z2 :: .ref z3 :: .ref z4 :: .ref z5 :: .ref z6 :: .ref z7 :: .ref z8 :: .ref z9 :: .ref z10 :: .ref z11 :: .ref z12 :: .int x1048678 :: .int x1048679 :: .int x1048680 :: .int x1048681 :: [])))] := hD
      refine W.widen (k := 0) (n := 0) (Nat.le_refl _) (Nat.le_refl _) ?_
      refine lv_if_ne (tgt := 31) hx hb dX10_found_24 (by decide) (fun c1048692 => ?_) (fun c1048692 => ?_)
      · skip
        have kc1048692 : x1048689.toInt ≠ 0 := ne_ti rfl (by decide) c1048692
        have nzx1048689 : ¬ x1048689 = 0 := c1048692
        refine lv_iload hx hb dX10_found_31 (lv_at hl 5 rfl) ?_
        refine lv_if_ne (tgt := 42) hx hb dX10_found_33 (by decide) (fun c1048693 => ?_) (fun c1048693 => ?_)
        · skip
          have kc1048693 : p5.toInt ≠ 0 := ne_ti rfl (by decide) c1048693
          have nzp5 : ¬ p5 = 0 := c1048693
          refine lv_lconst (v := 0) hx hb dX10_found_42 (by decide) ?_
          refine lv_lstore (lv' := [(6, .long 0), (0, .ref z1), (1, .int p1), (2, .int p2), (3, .int p3), (4, .int p4), (5, .int p5)]) hx hb dX10_found_43 hl (by decide) rfl (fun ls hl => ?_)
          refine lv_iload hx hb dX10_found_45 (lv_at hl 5 rfl) ?_
          refine lv_istore (lv' := [(8, .int p4), (6, .long 0), (0, .ref z1), (1, .int p1), (2, .int p2), (3, .int p3), (4, .int p4), (5, .int p5)]) hx hb dX10_found_47 hl (by decide) rfl (fun ls hl => ?_)
          have L1048712 : ∀ (n : Nat) (x1048702 : Int32) (x1048703 : Int64) (H : Heap) (locs : List Loc) (ls : Array Slot), (0 ≤ x1048702.toInt ∧ x1048702.toInt ≤ 51) → (52 - x1048702.toInt).toNat < n → va_P D vwCl [(z1, .inr (10, (.ref z2 :: .ref z3 :: .ref z4 :: .ref z5 :: .ref z6 :: .ref z7 :: .ref z8 :: .ref z9 :: .ref z10 :: .ref z11 :: .ref z12 :: .int x1048678 :: .int x1048679 :: .int x1048680 :: .int x1048681 :: [])))] H → va_D A [(z1, .inr (10, (.ref z2 :: .ref z3 :: .ref z4 :: .ref z5 :: .ref z6 :: .ref z7 :: .ref z8 :: .ref z9 :: .ref z10 :: .ref z11 :: .ref z12 :: .int x1048678 :: .int x1048679 :: .int x1048680 :: .int x1048681 :: [])))] → va_S A s.heap H locs → lv_has ls 9 [(8, .int x1048702), (6, .long x1048703), (0, .ref z1), (1, .int p1), (2, .int p2), (3, .int p3), (4, .int p4), (5, .int p5)] → W p l e { frames := 2, cells := 0, slots := 0, locals := 43 } s m args below meth c H locs 0 0 (MQ below ((Ql (S := Unit) (fun (r : Int64) (_ : Unit) => True) (fun (_ : Unit) => ([(z1, .inr (10, (.ref z2 :: .ref z3 :: .ref z4 :: .ref z5 :: .ref z6 :: .ref z7 :: .ref z8 :: .ref z9 :: .ref z10 :: .ref z11 :: .ref z12 :: .int x1048678 :: .int x1048679 :: .int x1048680 :: .int x1048681 :: [])))] : va_W)) D) A) args s 0 0 A) (F0 m 49 ls []) := by
            intro n
            induction n with
            | zero =>
              intro x1048702 x1048703 H locs ls hx1048702 hms hP hD hS hl
              exact absurd hms (Nat.not_lt_zero _)
            | succ n ih =>
              intro x1048702 x1048703 H locs ls hx1048702 hms hP hD hS hl
              refine lv_iload hx hb dX10_found_49 (lv_at hl 0 rfl) ?_
              refine lv_iload_n hx hb dX10_found_51 rfl (lv_at hl 5 rfl) ?_
              refine lv_icmp_gt (tgt := 83) hx hb dX10_found_52 (by decide) (fun c1048713 => ?_) (fun c1048713 => ?_)
              · skip
                have kc1048713 : p3.toInt < x1048702.toInt := lt_ti rfl rfl c1048713
                refine lv_lload hx hb dX10_found_83 (lv_at hl 1 rfl) ?_
                exact r_lret () C0 hr hlocks hS (Nat.le_refl _) (Nat.le_refl _) dX10_found_85 trivial (hP.sub (ws' := [(z1, .inr (10, (.ref z2 :: .ref z3 :: .ref z4 :: .ref z5 :: .ref z6 :: .ref z7 :: .ref z8 :: .ref z9 :: .ref z10 :: .ref z11 :: .ref z12 :: .int x1048678 :: .int x1048679 :: .int x1048680 :: .int x1048681 :: [])))]) [0] rfl) (hD.sub (ws' := [(z1, .inr (10, (.ref z2 :: .ref z3 :: .ref z4 :: .ref z5 :: .ref z6 :: .ref z7 :: .ref z8 :: .ref z9 :: .ref z10 :: .ref z11 :: .ref z12 :: .int x1048678 :: .int x1048679 :: .int x1048680 :: .int x1048681 :: [])))]) [0] (by decide +kernel) rfl)
              · skip
                have kc1048713 : x1048702.toInt ≤ p3.toInt := nlt_ti rfl rfl c1048713
                refine lv_lload hx hb dX10_found_55 (lv_at hl 1 rfl) ?_
                refine lv_iload_n hx hb dX10_found_57 rfl (lv_at hl 4 rfl) ?_
                refine lv_iload hx hb dX10_found_58 (lv_at hl 0 rfl) ?_
                refine r_calll (wr := [(z1, .inr (10, (.ref z2 :: .ref z3 :: .ref z4 :: .ref z5 :: .ref z6 :: .ref z7 :: .ref z8 :: .ref z9 :: .ref z10 :: .ref z11 :: .ref z12 :: .int x1048678 :: .int x1048679 :: .int x1048680 :: .int x1048681 :: [])))]) (r_runS2 (As := [.int p2, .int x1048702]) (rest := [.long x1048703]) (wc := []) C0 hE hStr hS (va_free (wc := []) hD hS hA [] rfl) (g_X10_ways_1048010 l D T sq sv H.size p2 x1048702 (⟨by omega, by omega⟩) (⟨by omega, by omega⟩)) mw_768 mw_769 mw_1 mw_770 dn_1702 rfl rfl ⟨Nat.le_of_ble_eq_true rfl, Nat.le_of_ble_eq_true rfl⟩ (hP.sub (ws' := []) [] rfl) (hD.sub (ws' := []) [] (by decide +kernel) rfl) hl.1 rfl (Nat.le_of_ble_eq_true rfl) dX10_found_60 ⟨Nat.le_of_ble_eq_true rfl, Nat.le_of_ble_eq_true rfl⟩) hP hD hS hA [] [0] rfl rfl (by decide +kernel) (by decide +kernel) (fun x1048721 u H locs hq hP hD hS => ?_)
                have hP : va_P D vwCl [(z1, .inr (10, (.ref z2 :: .ref z3 :: .ref z4 :: .ref z5 :: .ref z6 :: .ref z7 :: .ref z8 :: .ref z9 :: .ref z10 :: .ref z11 :: .ref z12 :: .int x1048678 :: .int x1048679 :: .int x1048680 :: .int x1048681 :: [])))] H := hP
                have hD : va_D A [(z1, .inr (10, (.ref z2 :: .ref z3 :: .ref z4 :: .ref z5 :: .ref z6 :: .ref z7 :: .ref z8 :: .ref z9 :: .ref z10 :: .ref z11 :: .ref z12 :: .int x1048678 :: .int x1048679 :: .int x1048680 :: .int x1048681 :: [])))] := hD
                refine W.widen (k := 0) (n := 0) (Nat.le_refl _) (Nat.le_refl _) ?_
                refine lv_iload_n hx hb dX10_found_63 rfl (lv_at hl 3 rfl) ?_
                refine lv_iload_n hx hb dX10_found_64 rfl (lv_at hl 4 rfl) ?_
                refine lv_isub hx hb dX10_found_65 ?_
                refine lv_topi (fun x1048722 ex1048722 => ?_)
                have hx1048722 : x1048722.toInt = p1.toInt - p2.toInt := ti_sub ex1048722 rfl rfl (by omega) (by omega)
                refine lv_iload_n hx hb dX10_found_66 rfl (lv_at hl 5 rfl) ?_
                refine lv_iload hx hb dX10_found_67 (lv_at hl 0 rfl) ?_
                refine lv_isub hx hb dX10_found_69 ?_
                refine lv_topi (fun x1048723 ex1048723 => ?_)
                have hx1048723 : x1048723.toInt = p3.toInt - x1048702.toInt := ti_sub ex1048723 rfl rfl (by omega) (by omega)
                refine r_calll (wr := [(z1, .inr (10, (.ref z2 :: .ref z3 :: .ref z4 :: .ref z5 :: .ref z6 :: .ref z7 :: .ref z8 :: .ref z9 :: .ref z10 :: .ref z11 :: .ref z12 :: .int x1048678 :: .int x1048679 :: .int x1048680 :: .int x1048681 :: [])))]) (r_runS2 (As := [.int x1048722, .int x1048723]) (rest := [.long x1048721, .long x1048703]) (wc := []) C0 hE hStr hS (va_free (wc := []) hD hS hA [] rfl) (g_X10_ways_1048010 l D T sq sv H.size x1048722 x1048723 (⟨by omega, by omega⟩) (⟨by omega, by omega⟩)) mw_768 mw_769 mw_1 mw_770 dn_1702 rfl rfl ⟨Nat.le_of_ble_eq_true rfl, Nat.le_of_ble_eq_true rfl⟩ (hP.sub (ws' := []) [] rfl) (hD.sub (ws' := []) [] (by decide +kernel) rfl) hl.1 rfl (Nat.le_of_ble_eq_true rfl) dX10_found_70 ⟨Nat.le_of_ble_eq_true rfl, Nat.le_of_ble_eq_true rfl⟩) hP hD hS hA [] [0] rfl rfl (by decide +kernel) (by decide +kernel) (fun x1048724 u H locs hq hP hD hS => ?_)
                have hP : va_P D vwCl [(z1, .inr (10, (.ref z2 :: .ref z3 :: .ref z4 :: .ref z5 :: .ref z6 :: .ref z7 :: .ref z8 :: .ref z9 :: .ref z10 :: .ref z11 :: .ref z12 :: .int x1048678 :: .int x1048679 :: .int x1048680 :: .int x1048681 :: [])))] H := hP
                have hD : va_D A [(z1, .inr (10, (.ref z2 :: .ref z3 :: .ref z4 :: .ref z5 :: .ref z6 :: .ref z7 :: .ref z8 :: .ref z9 :: .ref z10 :: .ref z11 :: .ref z12 :: .int x1048678 :: .int x1048679 :: .int x1048680 :: .int x1048681 :: [])))] := hD
                refine W.widen (k := 0) (n := 0) (Nat.le_refl _) (Nat.le_refl _) ?_
                refine lv_lmul hx hb dX10_found_73 ?_
                refine lv_topl (fun x1048725 ex1048725 => ?_)
                refine lv_ladd hx hb dX10_found_74 ?_
                refine lv_topl (fun x1048726 ex1048726 => ?_)
                refine lv_lstore (lv' := [(6, .long x1048726), (8, .int x1048702), (0, .ref z1), (1, .int p1), (2, .int p2), (3, .int p3), (4, .int p4), (5, .int p5)]) hx hb dX10_found_75 hl (by decide) rfl (fun ls hl => ?_)
                obtain ⟨x1048727, ex1048727⟩ : ∃ y : Int32, y = x1048702 + 1 := ⟨_, rfl⟩
                have hx1048727 : x1048727.toInt = x1048702.toInt + 1 := ti_add ex1048727 rfl (by decide) (by omega) (by omega)
                refine lv_iinc (v := x1048727) (lv' := [(8, .int x1048727), (6, .long x1048726), (0, .ref z1), (1, .int p1), (2, .int p2), (3, .int p3), (4, .int p4), (5, .int p5)]) hx hb dX10_found_77 hl (k := 1) rfl (by rw [ex1048727]; rfl) (by decide) rfl (fun ls hl => ?_)
                refine lv_goto (tgt := 49) hx hb dX10_found_80 (by decide) ?_
                exact ih x1048727 x1048726 _ _ ls ⟨by omega, by omega⟩ (by omega) (hP.sub (ws' := [(z1, .inr (10, (.ref z2 :: .ref z3 :: .ref z4 :: .ref z5 :: .ref z6 :: .ref z7 :: .ref z8 :: .ref z9 :: .ref z10 :: .ref z11 :: .ref z12 :: .int x1048678 :: .int x1048679 :: .int x1048680 :: .int x1048681 :: [])))]) [0] rfl) (hD.sub (ws' := [(z1, .inr (10, (.ref z2 :: .ref z3 :: .ref z4 :: .ref z5 :: .ref z6 :: .ref z7 :: .ref z8 :: .ref z9 :: .ref z10 :: .ref z11 :: .ref z12 :: .int x1048678 :: .int x1048679 :: .int x1048680 :: .int x1048681 :: [])))]) [0] (by decide +kernel) rfl) hS (lv_sub hl [0, 1, 2, 3, 4, 5, 6, 7] rfl)
          exact L1048712 _ p4 0 _ _ ls ⟨by omega, by omega⟩ (Nat.lt_succ_self _) (hP.sub (ws' := [(z1, .inr (10, (.ref z2 :: .ref z3 :: .ref z4 :: .ref z5 :: .ref z6 :: .ref z7 :: .ref z8 :: .ref z9 :: .ref z10 :: .ref z11 :: .ref z12 :: .int x1048678 :: .int x1048679 :: .int x1048680 :: .int x1048681 :: [])))]) [0] rfl) (hD.sub (ws' := [(z1, .inr (10, (.ref z2 :: .ref z3 :: .ref z4 :: .ref z5 :: .ref z6 :: .ref z7 :: .ref z8 :: .ref z9 :: .ref z10 :: .ref z11 :: .ref z12 :: .int x1048678 :: .int x1048679 :: .int x1048680 :: .int x1048681 :: [])))]) [0] (by decide +kernel) rfl) hS (lv_sub hl [0, 1, 2, 3, 4, 5, 6, 7] rfl)
        · skip
          have kc1048693 : p5.toInt = 0 := eq_ti rfl (by decide) c1048693
          refine lv_iload_n hx hb dX10_found_36 rfl (lv_at hl 1 rfl) ?_
          refine lv_iload_n hx hb dX10_found_37 rfl (lv_at hl 3 rfl) ?_
          refine r_calll (wr := [(z1, .inr (10, (.ref z2 :: .ref z3 :: .ref z4 :: .ref z5 :: .ref z6 :: .ref z7 :: .ref z8 :: .ref z9 :: .ref z10 :: .ref z11 :: .ref z12 :: .int x1048678 :: .int x1048679 :: .int x1048680 :: .int x1048681 :: [])))]) (r_runS2 (As := [.int p1, .int p3]) (rest := []) (wc := []) C0 hE hStr hS (va_free (wc := []) hD hS hA [] rfl) (g_X10_ways_1048010 l D T sq sv H.size p1 p3 (⟨by omega, by omega⟩) (⟨by omega, by omega⟩)) mw_768 mw_769 mw_1 mw_770 dn_1702 rfl rfl ⟨Nat.le_of_ble_eq_true rfl, Nat.le_of_ble_eq_true rfl⟩ (hP.sub (ws' := []) [] rfl) (hD.sub (ws' := []) [] (by decide +kernel) rfl) hl.1 rfl (Nat.le_of_ble_eq_true rfl) dX10_found_38 ⟨Nat.le_of_ble_eq_true rfl, Nat.le_of_ble_eq_true rfl⟩) hP hD hS hA [] [0] rfl rfl (by decide +kernel) (by decide +kernel) (fun x1048728 u H locs hq hP hD hS => ?_)
          have hP : va_P D vwCl [(z1, .inr (10, (.ref z2 :: .ref z3 :: .ref z4 :: .ref z5 :: .ref z6 :: .ref z7 :: .ref z8 :: .ref z9 :: .ref z10 :: .ref z11 :: .ref z12 :: .int x1048678 :: .int x1048679 :: .int x1048680 :: .int x1048681 :: [])))] H := hP
          have hD : va_D A [(z1, .inr (10, (.ref z2 :: .ref z3 :: .ref z4 :: .ref z5 :: .ref z6 :: .ref z7 :: .ref z8 :: .ref z9 :: .ref z10 :: .ref z11 :: .ref z12 :: .int x1048678 :: .int x1048679 :: .int x1048680 :: .int x1048681 :: [])))] := hD
          refine W.widen (k := 0) (n := 0) (Nat.le_refl _) (Nat.le_refl _) ?_
          exact r_lret () C0 hr hlocks hS (Nat.le_refl _) (Nat.le_refl _) dX10_found_41 trivial (hP.sub (ws' := [(z1, .inr (10, (.ref z2 :: .ref z3 :: .ref z4 :: .ref z5 :: .ref z6 :: .ref z7 :: .ref z8 :: .ref z9 :: .ref z10 :: .ref z11 :: .ref z12 :: .int x1048678 :: .int x1048679 :: .int x1048680 :: .int x1048681 :: [])))]) [0] rfl) (hD.sub (ws' := [(z1, .inr (10, (.ref z2 :: .ref z3 :: .ref z4 :: .ref z5 :: .ref z6 :: .ref z7 :: .ref z8 :: .ref z9 :: .ref z10 :: .ref z11 :: .ref z12 :: .int x1048678 :: .int x1048679 :: .int x1048680 :: .int x1048681 :: [])))]) [0] (by decide +kernel) rfl)
      · skip
        have kc1048692 : x1048689.toInt = 0 := eq_ti rfl (by decide) c1048692
        refine lv_ldc2 hx hb hown (hT _ mw_608) dX10_found_27 ?_
        exact r_lret () C0 hr hlocks hS (Nat.le_refl _) (Nat.le_refl _) dX10_found_30 trivial (hP.sub (ws' := [(z1, .inr (10, (.ref z2 :: .ref z3 :: .ref z4 :: .ref z5 :: .ref z6 :: .ref z7 :: .ref z8 :: .ref z9 :: .ref z10 :: .ref z11 :: .ref z12 :: .int x1048678 :: .int x1048679 :: .int x1048680 :: .int x1048681 :: [])))]) [0] rfl) (hD.sub (ws' := [(z1, .inr (10, (.ref z2 :: .ref z3 :: .ref z4 :: .ref z5 :: .ref z6 :: .ref z7 :: .ref z8 :: .ref z9 :: .ref z10 :: .ref z11 :: .ref z12 :: .int x1048678 :: .int x1048679 :: .int x1048680 :: .int x1048681 :: [])))]) [0] (by decide +kernel) rfl)
set_option maxHeartbeats 4000000 in
set_option maxRecDepth 100000 in
theorem g_X10_tests_1049477 (l : Launch) (D : va_G) (T : Nat → ClassId) (sq sv sz : Nat) (z1 : Nat) (z2 : Nat) (z3 : Nat) (z4 : Nat) (z5 : Nat) (z6 : Nat) (z7 : Nat) (z8 : Nat) (z9 : Nat) (z10 : Nat) (z11 : Nat) (z12 : Nat) (p1 : Int32) (p2 : Int32) (p3 : Int32) (w1 : va_W) (hw1 : B_X10 T z1 z2 z3 z4 z5 z6 z7 z8 z9 z10 z11 z12 w1) : Met l yX10_tests (.code yX10_tests cX10_tests 9 (some .int) :: TB) { frames := 2, cells := 0, slots := 0, locals := 43 } (PC2 D T sq sv [.ref z1, .int p1, .int p2, .int p3] (w1) sz) (Qi (S := Unit) (fun (r : Int32) (_ : Unit) => (-1 ≤ r.toInt ∧ r.toInt ≤ 50)) (fun (_ : Unit) => w1) D (va_A (w1) sz)) 0 0 (va_A (w1) sz) := by
  obtain ⟨x1049482, x1049483, x1049484, x1049485, rfl, hx1049482, hx1049483⟩ := hw1
  refine ct_begin2 (Qc := Qi (S := Unit) (fun (r : Int32) (_ : Unit) => (-1 ≤ r.toInt ∧ r.toInt ≤ 50)) (fun (_ : Unit) => ([(z1, .inr (10, (.ref z2 :: .ref z3 :: .ref z4 :: .ref z5 :: .ref z6 :: .ref z7 :: .ref z8 :: .ref z9 :: .ref z10 :: .ref z11 :: .ref z12 :: .int x1049482 :: .int x1049483 :: .int x1049484 :: .int x1049485 :: [])))] : va_W)) D) (by decide +kernel) (Nat.le_of_ble_eq_true rfl) ?_
  intro p e s m below meth c A ls C0 hr hlocks hnm hE hStr hA hP hD hl
  generalize ([.ref z1, .int p1, .int p2, .int p3] : List Value).toArray = args at C0 ⊢
  have hx := C0.1
  have hb := C0.2.1
  have hml := C0.2.2.1
  have hown := C0.2.2.2.1
  have hT := C0.2.2.2.2
  have hK := hE.1
  generalize hH : s.heap = H at hP ⊢
  have hS : va_S A s.heap H [] := by rw [← hH]; exact va_S.rf
  have hP : va_P D vwCl [(z1, .inr (10, (.ref z2 :: .ref z3 :: .ref z4 :: .ref z5 :: .ref z6 :: .ref z7 :: .ref z8 :: .ref z9 :: .ref z10 :: .ref z11 :: .ref z12 :: .int x1049482 :: .int x1049483 :: .int x1049484 :: .int x1049485 :: [])))] H := hP
  have hD : va_D A [(z1, .inr (10, (.ref z2 :: .ref z3 :: .ref z4 :: .ref z5 :: .ref z6 :: .ref z7 :: .ref z8 :: .ref z9 :: .ref z10 :: .ref z11 :: .ref z12 :: .int x1049482 :: .int x1049483 :: .int x1049484 :: .int x1049485 :: [])))] := hD
  have hl : lv_has ls 9 [(0, .ref z1), (1, .int p1), (2, .int p2), (3, .int p3)] := hl
  refine lv_iload_n hx hb dX10_tests_0 rfl (lv_at hl 1 rfl) ?_
  refine lv_iload_n hx hb dX10_tests_1 rfl (lv_at hl 2 rfl) ?_
  refine r_calli (wr := [(z1, .inr (10, (.ref z2 :: .ref z3 :: .ref z4 :: .ref z5 :: .ref z6 :: .ref z7 :: .ref z8 :: .ref z9 :: .ref z10 :: .ref z11 :: .ref z12 :: .int x1049482 :: .int x1049483 :: .int x1049484 :: .int x1049485 :: [])))]) (r_runS2 (As := [.int p1, .int p2]) (rest := []) (wc := []) C0 hE hStr hS (va_free (wc := []) hD hS hA [] rfl) (g_X10_isBatch_1047430 l D T sq sv H.size p1 p2) mw_765 mw_766 mw_1 mw_767 dn_1699 rfl rfl ⟨Nat.le_of_ble_eq_true rfl, Nat.le_of_ble_eq_true rfl⟩ (hP.sub (ws' := []) [] rfl) (hD.sub (ws' := []) [] (by decide +kernel) rfl) hl.1 rfl (Nat.le_of_ble_eq_true rfl) dX10_tests_2 ⟨Nat.le_of_ble_eq_true rfl, Nat.le_of_ble_eq_true rfl⟩) hP hD hS hA [] [0] rfl rfl (by decide +kernel) (by decide +kernel) (fun x1049486 u H locs hq hP hD hS => ?_)
  obtain ⟨hp1049487, hx1049486⟩ := hq
  have hp1049487 := hp1049487
  have hP : va_P D vwCl [(z1, .inr (10, (.ref z2 :: .ref z3 :: .ref z4 :: .ref z5 :: .ref z6 :: .ref z7 :: .ref z8 :: .ref z9 :: .ref z10 :: .ref z11 :: .ref z12 :: .int x1049482 :: .int x1049483 :: .int x1049484 :: .int x1049485 :: [])))] H := hP
  have hD : va_D A [(z1, .inr (10, (.ref z2 :: .ref z3 :: .ref z4 :: .ref z5 :: .ref z6 :: .ref z7 :: .ref z8 :: .ref z9 :: .ref z10 :: .ref z11 :: .ref z12 :: .int x1049482 :: .int x1049483 :: .int x1049484 :: .int x1049485 :: [])))] := hD
  refine W.widen (k := 0) (n := 0) (Nat.le_refl _) (Nat.le_refl _) ?_
  refine lv_if_eq (tgt := 19) hx hb dX10_tests_5 (by decide) (fun c1049488 => ?_) (fun c1049488 => ?_)
  · skip
    have kc1049488 : x1049486.toInt = 0 := eq_ti rfl (by decide) c1049488
    refine lv_iconst (v := (-1)) hx hb dX10_tests_19 (by decide) ?_
    exact r_iret () C0 hr hlocks hS (Nat.le_refl _) (Nat.le_refl _) dX10_tests_20 ⟨by decide, by decide⟩ (hP.sub (ws' := [(z1, .inr (10, (.ref z2 :: .ref z3 :: .ref z4 :: .ref z5 :: .ref z6 :: .ref z7 :: .ref z8 :: .ref z9 :: .ref z10 :: .ref z11 :: .ref z12 :: .int x1049482 :: .int x1049483 :: .int x1049484 :: .int x1049485 :: [])))]) [0] rfl) (hD.sub (ws' := [(z1, .inr (10, (.ref z2 :: .ref z3 :: .ref z4 :: .ref z5 :: .ref z6 :: .ref z7 :: .ref z8 :: .ref z9 :: .ref z10 :: .ref z11 :: .ref z12 :: .int x1049482 :: .int x1049483 :: .int x1049484 :: .int x1049485 :: [])))]) [0] (by decide +kernel) rfl)
  · skip
    have kc1049488 : x1049486.toInt ≠ 0 := ne_ti rfl (by decide) c1049488
    have nzx1049486 : ¬ x1049486 = 0 := c1049488
    refine lv_iload_n hx hb dX10_tests_8 rfl (lv_at hl 3 rfl) ?_
    refine lv_iconst (v := 1) hx hb dX10_tests_9 (by decide) ?_
    refine lv_sipush (v := 1000) hx hb dX10_tests_10 (by decide) ?_
    refine r_calli (wr := [(z1, .inr (10, (.ref z2 :: .ref z3 :: .ref z4 :: .ref z5 :: .ref z6 :: .ref z7 :: .ref z8 :: .ref z9 :: .ref z10 :: .ref z11 :: .ref z12 :: .int x1049482 :: .int x1049483 :: .int x1049484 :: .int x1049485 :: [])))]) (r_runS2 (As := [.int p3, .int 1, .int 1000]) (rest := []) (wc := []) C0 hE hStr hS (va_free (wc := []) hD hS hA [] rfl) (g_X10_within_62123 l D T sq sv H.size p3 1 1000) mw_282 mw_283 mw_1 mw_284 dn_1700 rfl rfl ⟨Nat.le_of_ble_eq_true rfl, Nat.le_of_ble_eq_true rfl⟩ (hP.sub (ws' := []) [] rfl) (hD.sub (ws' := []) [] (by decide +kernel) rfl) hl.1 rfl (Nat.le_of_ble_eq_true rfl) dX10_tests_13 ⟨Nat.le_of_ble_eq_true rfl, Nat.le_of_ble_eq_true rfl⟩) hP hD hS hA [] [0] rfl rfl (by decide +kernel) (by decide +kernel) (fun x1049489 u H locs hq hP hD hS => ?_)
    obtain ⟨hp1049490, hx1049489⟩ := hq
    have hl1049491 : (1 : Int32).toInt = 1 := by decide
    have hl1049492 : (1000 : Int32).toInt = 1000 := by decide
    have hp1049490 := hp1049490
    have hP : va_P D vwCl [(z1, .inr (10, (.ref z2 :: .ref z3 :: .ref z4 :: .ref z5 :: .ref z6 :: .ref z7 :: .ref z8 :: .ref z9 :: .ref z10 :: .ref z11 :: .ref z12 :: .int x1049482 :: .int x1049483 :: .int x1049484 :: .int x1049485 :: [])))] H := hP
    have hD : va_D A [(z1, .inr (10, (.ref z2 :: .ref z3 :: .ref z4 :: .ref z5 :: .ref z6 :: .ref z7 :: .ref z8 :: .ref z9 :: .ref z10 :: .ref z11 :: .ref z12 :: .int x1049482 :: .int x1049483 :: .int x1049484 :: .int x1049485 :: [])))] := hD
    refine W.widen (k := 0) (n := 0) (Nat.le_refl _) (Nat.le_refl _) ?_
    refine lv_if_ne (tgt := 21) hx hb dX10_tests_16 (by decide) (fun c1049493 => ?_) (fun c1049493 => ?_)
    · skip
      have kc1049493 : x1049489.toInt ≠ 0 := ne_ti rfl (by decide) c1049493
      have nzx1049489 : ¬ x1049489 = 0 := c1049493
      refine lv_iconst (v := 0) hx hb dX10_tests_21 (by decide) ?_
      refine lv_istore (lv' := [(4, .int 0), (0, .ref z1), (1, .int p1), (2, .int p2), (3, .int p3)]) hx hb dX10_tests_22 hl (by decide) rfl (fun ls hl => ?_)
      have L1049791 : ∀ (n : Nat) (x1049778 : Int32) (H : Heap) (locs : List Loc) (ls : Array Slot), (0 ≤ x1049778.toInt ∧ x1049778.toInt ≤ 63) → (64 - x1049778.toInt).toNat < n → va_P D vwCl [(z1, .inr (10, (.ref z2 :: .ref z3 :: .ref z4 :: .ref z5 :: .ref z6 :: .ref z7 :: .ref z8 :: .ref z9 :: .ref z10 :: .ref z11 :: .ref z12 :: .int x1049482 :: .int x1049483 :: .int x1049484 :: .int x1049485 :: [])))] H → va_D A [(z1, .inr (10, (.ref z2 :: .ref z3 :: .ref z4 :: .ref z5 :: .ref z6 :: .ref z7 :: .ref z8 :: .ref z9 :: .ref z10 :: .ref z11 :: .ref z12 :: .int x1049482 :: .int x1049483 :: .int x1049484 :: .int x1049485 :: [])))] → va_S A s.heap H locs → lv_has ls 9 [(4, .int x1049778), (0, .ref z1), (1, .int p1), (2, .int p2), (3, .int p3)] → W p l e { frames := 2, cells := 0, slots := 0, locals := 43 } s m args below meth c H locs 0 0 (MQ below ((Qi (S := Unit) (fun (r : Int32) (_ : Unit) => (-1 ≤ r.toInt ∧ r.toInt ≤ 50)) (fun (_ : Unit) => ([(z1, .inr (10, (.ref z2 :: .ref z3 :: .ref z4 :: .ref z5 :: .ref z6 :: .ref z7 :: .ref z8 :: .ref z9 :: .ref z10 :: .ref z11 :: .ref z12 :: .int x1049482 :: .int x1049483 :: .int x1049484 :: .int x1049485 :: [])))] : va_W)) D) A) args s 0 0 A) (F0 m 24 ls []) := by
        intro n
        induction n with
        | zero =>
          intro x1049778 H locs ls hx1049778 hms hP hD hS hl
          exact absurd hms (Nat.not_lt_zero _)
        | succ n ih =>
          intro x1049778 H locs ls hx1049778 hms hP hD hS hl
          refine lv_iload hx hb dX10_tests_24 (lv_at hl 0 rfl) ?_
          refine lv_iload_n hx hb dX10_tests_26 rfl (lv_at hl 2 rfl) ?_
          refine lv_icmp_gt (tgt := 75) hx hb dX10_tests_27 (by decide) (fun c1049792 => ?_) (fun c1049792 => ?_)
          · skip
            have kc1049792 : p1.toInt < x1049778.toInt := lt_ti rfl rfl c1049792
            refine lv_iconst (v := (-1)) hx hb dX10_tests_75 (by decide) ?_
            exact r_iret () C0 hr hlocks hS (Nat.le_refl _) (Nat.le_refl _) dX10_tests_76 ⟨by decide, by decide⟩ (hP.sub (ws' := [(z1, .inr (10, (.ref z2 :: .ref z3 :: .ref z4 :: .ref z5 :: .ref z6 :: .ref z7 :: .ref z8 :: .ref z9 :: .ref z10 :: .ref z11 :: .ref z12 :: .int x1049482 :: .int x1049483 :: .int x1049484 :: .int x1049485 :: [])))]) [0] rfl) (hD.sub (ws' := [(z1, .inr (10, (.ref z2 :: .ref z3 :: .ref z4 :: .ref z5 :: .ref z6 :: .ref z7 :: .ref z8 :: .ref z9 :: .ref z10 :: .ref z11 :: .ref z12 :: .int x1049482 :: .int x1049483 :: .int x1049484 :: .int x1049485 :: [])))]) [0] (by decide +kernel) rfl)
          · skip
            have kc1049792 : x1049778.toInt ≤ p1.toInt := nlt_ti rfl rfl c1049792
            refine lv_iload_n hx hb dX10_tests_30 rfl (lv_at hl 2 rfl) ?_
            refine lv_iload hx hb dX10_tests_31 (lv_at hl 0 rfl) ?_
            refine r_calll (wr := [(z1, .inr (10, (.ref z2 :: .ref z3 :: .ref z4 :: .ref z5 :: .ref z6 :: .ref z7 :: .ref z8 :: .ref z9 :: .ref z10 :: .ref z11 :: .ref z12 :: .int x1049482 :: .int x1049483 :: .int x1049484 :: .int x1049485 :: [])))]) (r_runS2 (As := [.int p1, .int x1049778]) (rest := []) (wc := []) C0 hE hStr hS (va_free (wc := []) hD hS hA [] rfl) (g_X10_ways_1048010 l D T sq sv H.size p1 x1049778 (⟨by omega, by omega⟩) (⟨by omega, by omega⟩)) mw_768 mw_769 mw_1 mw_770 dn_1702 rfl rfl ⟨Nat.le_of_ble_eq_true rfl, Nat.le_of_ble_eq_true rfl⟩ (hP.sub (ws' := []) [] rfl) (hD.sub (ws' := []) [] (by decide +kernel) rfl) hl.1 rfl (Nat.le_of_ble_eq_true rfl) dX10_tests_33 ⟨Nat.le_of_ble_eq_true rfl, Nat.le_of_ble_eq_true rfl⟩) hP hD hS hA [] [0] rfl rfl (by decide +kernel) (by decide +kernel) (fun x1049793 u H locs hq hP hD hS => ?_)
            have hP : va_P D vwCl [(z1, .inr (10, (.ref z2 :: .ref z3 :: .ref z4 :: .ref z5 :: .ref z6 :: .ref z7 :: .ref z8 :: .ref z9 :: .ref z10 :: .ref z11 :: .ref z12 :: .int x1049482 :: .int x1049483 :: .int x1049484 :: .int x1049485 :: [])))] H := hP
            have hD : va_D A [(z1, .inr (10, (.ref z2 :: .ref z3 :: .ref z4 :: .ref z5 :: .ref z6 :: .ref z7 :: .ref z8 :: .ref z9 :: .ref z10 :: .ref z11 :: .ref z12 :: .int x1049482 :: .int x1049483 :: .int x1049484 :: .int x1049485 :: [])))] := hD
            refine W.widen (k := 0) (n := 0) (Nat.le_refl _) (Nat.le_refl _) ?_
            refine lv_lstore (lv' := [(5, .long x1049793), (4, .int x1049778), (0, .ref z1), (1, .int p1), (2, .int p2), (3, .int p3)]) hx hb dX10_tests_36 hl (by decide) rfl (fun ls hl => ?_)
            refine lv_lload hx hb dX10_tests_38 (lv_at hl 0 rfl) ?_
            refine lv_iload_n hx hb dX10_tests_40 rfl (lv_at hl 3 rfl) ?_
            refine lv_iload_n hx hb dX10_tests_41 rfl (lv_at hl 4 rfl) ?_
            refine lv_isub hx hb dX10_tests_42 ?_
            refine lv_topi (fun x1049794 ex1049794 => ?_)
            have hx1049794 : x1049794.toInt = p1.toInt - p2.toInt := ti_sub ex1049794 rfl rfl (by omega) (by omega)
            refine lv_iload hx hb dX10_tests_43 (lv_at hl 1 rfl) ?_
            refine r_calll (wr := [(z1, .inr (10, (.ref z2 :: .ref z3 :: .ref z4 :: .ref z5 :: .ref z6 :: .ref z7 :: .ref z8 :: .ref z9 :: .ref z10 :: .ref z11 :: .ref z12 :: .int x1049482 :: .int x1049483 :: .int x1049484 :: .int x1049485 :: [])))]) (r_runS2 (As := [.int x1049794, .int x1049778]) (rest := [.long x1049793]) (wc := []) C0 hE hStr hS (va_free (wc := []) hD hS hA [] rfl) (g_X10_ways_1048010 l D T sq sv H.size x1049794 x1049778 (⟨by omega, by omega⟩) (⟨by omega, by omega⟩)) mw_768 mw_769 mw_1 mw_770 dn_1702 rfl rfl ⟨Nat.le_of_ble_eq_true rfl, Nat.le_of_ble_eq_true rfl⟩ (hP.sub (ws' := []) [] rfl) (hD.sub (ws' := []) [] (by decide +kernel) rfl) hl.1 rfl (Nat.le_of_ble_eq_true rfl) dX10_tests_45 ⟨Nat.le_of_ble_eq_true rfl, Nat.le_of_ble_eq_true rfl⟩) hP hD hS hA [] [0] rfl rfl (by decide +kernel) (by decide +kernel) (fun x1049795 u H locs hq hP hD hS => ?_)
            have hP : va_P D vwCl [(z1, .inr (10, (.ref z2 :: .ref z3 :: .ref z4 :: .ref z5 :: .ref z6 :: .ref z7 :: .ref z8 :: .ref z9 :: .ref z10 :: .ref z11 :: .ref z12 :: .int x1049482 :: .int x1049483 :: .int x1049484 :: .int x1049485 :: [])))] H := hP
            have hD : va_D A [(z1, .inr (10, (.ref z2 :: .ref z3 :: .ref z4 :: .ref z5 :: .ref z6 :: .ref z7 :: .ref z8 :: .ref z9 :: .ref z10 :: .ref z11 :: .ref z12 :: .int x1049482 :: .int x1049483 :: .int x1049484 :: .int x1049485 :: [])))] := hD
            refine W.widen (k := 0) (n := 0) (Nat.le_refl _) (Nat.le_refl _) ?_
            refine lv_lsub hx hb dX10_tests_48 ?_
            refine lv_topl (fun x1049796 ex1049796 => ?_)
            refine lv_lstore (lv' := [(7, .long x1049796), (5, .long x1049793), (4, .int x1049778), (0, .ref z1), (1, .int p1), (2, .int p2), (3, .int p3)]) hx hb dX10_tests_49 hl (by decide) rfl (fun ls hl => ?_)
            refine lv_lload hx hb dX10_tests_51 (lv_at hl 0 rfl) ?_
            refine lv_ldc2 hx hb hown (hT _ mw_775) dX10_tests_53 ?_
            refine lv_lmul hx hb dX10_tests_56 ?_
            refine lv_topl (fun x1049797 ex1049797 => ?_)
            refine lv_lload hx hb dX10_tests_57 (lv_at hl 1 rfl) ?_
            refine lv_iload_n hx hb dX10_tests_59 rfl (lv_at hl 6 rfl) ?_
            refine lv_i2l hx hb dX10_tests_60 rfl ?_
            refine lv_topl (fun x1049798 ex1049798 => ?_)
            refine lv_lmul hx hb dX10_tests_61 ?_
            refine lv_topl (fun x1049799 ex1049799 => ?_)
            refine W.lcmp hx hb dX10_tests_62 ?_
            refine lv_topi (fun x1049800 ex1049800 => ?_)
            refine lv_if_lt (tgt := 69) hx hb dX10_tests_63 (by decide) (fun c1049801 => ?_) (fun c1049801 => ?_)
            · skip
              have kc1049801 : x1049800.toInt < 0 := lt_ti rfl (by decide) c1049801
              have rg1049802 := i32_rng x1049800
              obtain ⟨x1049803, ex1049803⟩ : ∃ y : Int32, y = x1049778 + 1 := ⟨_, rfl⟩
              have hx1049803 : x1049803.toInt = x1049778.toInt + 1 := ti_add ex1049803 rfl (by decide) (by omega) (by omega)
              refine lv_iinc (v := x1049803) (lv' := [(4, .int x1049803), (7, .long x1049796), (5, .long x1049793), (0, .ref z1), (1, .int p1), (2, .int p2), (3, .int p3)]) hx hb dX10_tests_69 hl (k := 2) rfl (by rw [ex1049803]; rfl) (by decide) rfl (fun ls hl => ?_)
              refine lv_goto (tgt := 24) hx hb dX10_tests_72 (by decide) ?_
              exact ih x1049803 _ _ ls ⟨by omega, by omega⟩ (by omega) (hP.sub (ws' := [(z1, .inr (10, (.ref z2 :: .ref z3 :: .ref z4 :: .ref z5 :: .ref z6 :: .ref z7 :: .ref z8 :: .ref z9 :: .ref z10 :: .ref z11 :: .ref z12 :: .int x1049482 :: .int x1049483 :: .int x1049484 :: .int x1049485 :: [])))]) [0] rfl) (hD.sub (ws' := [(z1, .inr (10, (.ref z2 :: .ref z3 :: .ref z4 :: .ref z5 :: .ref z6 :: .ref z7 :: .ref z8 :: .ref z9 :: .ref z10 :: .ref z11 :: .ref z12 :: .int x1049482 :: .int x1049483 :: .int x1049484 :: .int x1049485 :: [])))]) [0] (by decide +kernel) rfl) hS (lv_sub hl [0, 3, 4, 5, 6] rfl)
            · skip
              have kc1049801 : 0 ≤ x1049800.toInt := nlt_ti rfl (by decide) c1049801
              refine lv_iload hx hb dX10_tests_66 (lv_at hl 2 rfl) ?_
              exact r_iret () C0 hr hlocks hS (Nat.le_refl _) (Nat.le_refl _) dX10_tests_68 ⟨by omega, by omega⟩ (hP.sub (ws' := [(z1, .inr (10, (.ref z2 :: .ref z3 :: .ref z4 :: .ref z5 :: .ref z6 :: .ref z7 :: .ref z8 :: .ref z9 :: .ref z10 :: .ref z11 :: .ref z12 :: .int x1049482 :: .int x1049483 :: .int x1049484 :: .int x1049485 :: [])))]) [0] rfl) (hD.sub (ws' := [(z1, .inr (10, (.ref z2 :: .ref z3 :: .ref z4 :: .ref z5 :: .ref z6 :: .ref z7 :: .ref z8 :: .ref z9 :: .ref z10 :: .ref z11 :: .ref z12 :: .int x1049482 :: .int x1049483 :: .int x1049484 :: .int x1049485 :: [])))]) [0] (by decide +kernel) rfl)
      exact L1049791 _ 0 _ _ ls ⟨by decide, by decide⟩ (Nat.lt_succ_self _) (hP.sub (ws' := [(z1, .inr (10, (.ref z2 :: .ref z3 :: .ref z4 :: .ref z5 :: .ref z6 :: .ref z7 :: .ref z8 :: .ref z9 :: .ref z10 :: .ref z11 :: .ref z12 :: .int x1049482 :: .int x1049483 :: .int x1049484 :: .int x1049485 :: [])))]) [0] rfl) (hD.sub (ws' := [(z1, .inr (10, (.ref z2 :: .ref z3 :: .ref z4 :: .ref z5 :: .ref z6 :: .ref z7 :: .ref z8 :: .ref z9 :: .ref z10 :: .ref z11 :: .ref z12 :: .int x1049482 :: .int x1049483 :: .int x1049484 :: .int x1049485 :: [])))]) [0] (by decide +kernel) rfl) hS (lv_sub hl [0, 1, 2, 3, 4] rfl)
    · skip
      have kc1049493 : x1049489.toInt = 0 := eq_ti rfl (by decide) c1049493
      refine lv_iconst (v := (-1)) hx hb dX10_tests_19 (by decide) ?_
      exact r_iret () C0 hr hlocks hS (Nat.le_refl _) (Nat.le_refl _) dX10_tests_20 ⟨by decide, by decide⟩ (hP.sub (ws' := [(z1, .inr (10, (.ref z2 :: .ref z3 :: .ref z4 :: .ref z5 :: .ref z6 :: .ref z7 :: .ref z8 :: .ref z9 :: .ref z10 :: .ref z11 :: .ref z12 :: .int x1049482 :: .int x1049483 :: .int x1049484 :: .int x1049485 :: [])))]) [0] rfl) (hD.sub (ws' := [(z1, .inr (10, (.ref z2 :: .ref z3 :: .ref z4 :: .ref z5 :: .ref z6 :: .ref z7 :: .ref z8 :: .ref z9 :: .ref z10 :: .ref z11 :: .ref z12 :: .int x1049482 :: .int x1049483 :: .int x1049484 :: .int x1049485 :: [])))]) [0] (by decide +kernel) rfl)
