set_option maxHeartbeats 4000000 in
set_option maxRecDepth 100000 in
theorem g_X5_canWeigh_32615 (l : Launch) (D : va_G) (T : Nat → ClassId) (sq sv sz : Nat) (p0 : Int32) : Met l yX5_canWeigh (.code yX5_canWeigh cX5_canWeigh 2 (some .boolean) :: TB) { frames := 0, cells := 0, slots := 0, locals := 0 } (PC2 D T sq sv [.int p0] (([] : va_W)) sz) (Qi (S := Unit) (fun (r : Int32) (_ : Unit) => (0 ≤ r.toInt ∧ r.toInt ≤ 1)) (fun (_ : Unit) => ([] : va_W)) D (va_A (([] : va_W)) sz)) 0 0 (va_A (([] : va_W)) sz) := by
  refine ct_begin2 (Qc := Qi (S := Unit) (fun (r : Int32) (_ : Unit) => (0 ≤ r.toInt ∧ r.toInt ≤ 1)) (fun (_ : Unit) => ([] : va_W)) D) (by decide +kernel) (Nat.le_of_ble_eq_true rfl) ?_
  intro p e s m below meth c A ls C0 hr hlocks hnm hE hStr hA hP hD hl
  generalize ([.int p0] : List Value).toArray = args at C0 ⊢
  have hx := C0.1
  have hb := C0.2.1
  have hml := C0.2.2.1
  have hown := C0.2.2.2.1
  have hT := C0.2.2.2.2
  have hK := hE.1
  generalize hH : s.heap = H at hP ⊢
  have hS : va_S A s.heap H [] := by rw [← hH]; exact va_S.rf
  have hP : va_P D vwCl [] H := hP
  have hD : va_D A [] := hD
  have hl : lv_has ls 2 [(0, .int p0)] := hl
  refine lv_iload_n hx hb dX5_canWeigh_0 rfl (lv_at hl 0 rfl) ?_
  refine lv_if_lt (tgt := 17) hx hb dX5_canWeigh_1 (by decide) (fun c32616 => ?_) (fun c32616 => ?_)
  · skip
    have kc32616 : p0.toInt < 0 := lt_ti rfl (by decide) c32616
    refine lv_iconst (v := 0) hx hb dX5_canWeigh_17 (by decide) ?_
    exact r_zret () C0 hr (by decide +kernel) hlocks hS (Nat.le_refl _) (Nat.le_refl _) dX5_canWeigh_18 ⟨by decide, by decide⟩ (hP.sub (ws' := []) [] rfl) (hD.sub (ws' := []) [] (by decide +kernel) rfl)
  · skip
    have kc32616 : 0 ≤ p0.toInt := nlt_ti rfl (by decide) c32616
    refine lv_iload_n hx hb dX5_canWeigh_4 rfl (lv_at hl 0 rfl) ?_
    refine lv_ldc hx hb hown (hT _ mw_694) dX5_canWeigh_5 ?_
    refine lv_icmp_ge (tgt := 17) hx hb dX5_canWeigh_7 (by decide) (fun c32617 => ?_) (fun c32617 => ?_)
    · skip
      have kc32617 : 65536 ≤ p0.toInt := le_ti (by decide) rfl c32617
      refine lv_iconst (v := 0) hx hb dX5_canWeigh_17 (by decide) ?_
      exact r_zret () C0 hr (by decide +kernel) hlocks hS (Nat.le_refl _) (Nat.le_refl _) dX5_canWeigh_18 ⟨by decide, by decide⟩ (hP.sub (ws' := []) [] rfl) (hD.sub (ws' := []) [] (by decide +kernel) rfl)
    · skip
      have kc32617 : p0.toInt < 65536 := nle_ti (by decide) rfl c32617
      refine lv_iload_n hx hb dX5_canWeigh_10 rfl (lv_at hl 0 rfl) ?_
      refine lv_bipush (v := 15) hx hb dX5_canWeigh_11 (by decide) ?_
      refine lv_iand hx hb dX5_canWeigh_13 ?_
      refine lv_topi (fun x32618 ex32618 => ?_)
      have hx32618 : 0 ≤ x32618.toInt ∧ x32618.toInt ≤ 15 := and_ti 15 4 (by decide) (by decide) (by decide) ex32618
      refine lv_if_ne (tgt := 19) hx hb dX5_canWeigh_14 (by decide) (fun c32619 => ?_) (fun c32619 => ?_)
      · skip
        have kc32619 : x32618.toInt ≠ 0 := ne_ti rfl (by decide) c32619
        have nzx32618 : ¬ x32618 = 0 := c32619
        refine lv_iconst (v := 0) hx hb dX5_canWeigh_19 (by decide) ?_
        refine lv_istore_n (lv' := [(1, .int 0), (0, .int p0)]) hx hb dX5_canWeigh_20 rfl hl (by decide) rfl (fun ls hl => ?_)
        have L32651 : ∀ (n : Nat) (x32644 : Int32) (H : Heap) (locs : List Loc) (ls : Array Slot), (0 ≤ x32644.toInt ∧ x32644.toInt ≤ 4) → (5 - x32644.toInt).toNat < n → va_P D vwCl [] H → va_D A [] → va_S A s.heap H locs → lv_has ls 2 [(1, .int x32644), (0, .int p0)] → W p l e { frames := 0, cells := 0, slots := 0, locals := 0 } s m args below meth c H locs 0 0 (MQ below ((Qi (S := Unit) (fun (r : Int32) (_ : Unit) => (0 ≤ r.toInt ∧ r.toInt ≤ 1)) (fun (_ : Unit) => ([] : va_W)) D) A) args s 0 0 A) (F0 m 21 ls []) := by
          intro n
          induction n with
          | zero =>
            intro x32644 H locs ls hx32644 hms hP hD hS hl
            exact absurd hms (Nat.not_lt_zero _)
          | succ n ih =>
            intro x32644 H locs ls hx32644 hms hP hD hS hl
            refine lv_iload_n hx hb dX5_canWeigh_21 rfl (lv_at hl 0 rfl) ?_
            refine lv_iconst (v := 4) hx hb dX5_canWeigh_22 (by decide) ?_
            refine lv_icmp_ge (tgt := 47) hx hb dX5_canWeigh_23 (by decide) (fun c32652 => ?_) (fun c32652 => ?_)
            · skip
              have kc32652 : 4 ≤ x32644.toInt := le_ti (by decide) rfl c32652
              refine lv_iconst (v := 1) hx hb dX5_canWeigh_47 (by decide) ?_
              exact r_zret () C0 hr (by decide +kernel) hlocks hS (Nat.le_refl _) (Nat.le_refl _) dX5_canWeigh_48 ⟨by decide, by decide⟩ (hP.sub (ws' := []) [] rfl) (hD.sub (ws' := []) [] (by decide +kernel) rfl)
            · skip
              have kc32652 : x32644.toInt < 4 := nle_ti (by decide) rfl c32652
              refine lv_iload_n hx hb dX5_canWeigh_26 rfl (lv_at hl 1 rfl) ?_
              refine lv_iconst (v := 4) hx hb dX5_canWeigh_27 (by decide) ?_
              refine lv_iload_n hx hb dX5_canWeigh_28 rfl (lv_at hl 0 rfl) ?_
              refine lv_imul hx hb dX5_canWeigh_29 ?_
              refine lv_topi (fun x32653 ex32653 => ?_)
              have hx32653 : x32653.toInt = 4 * x32644.toInt := ti_mul ex32653 (by decide) rfl (by omega) (by omega)
              refine lv_ishr hx hb dX5_canWeigh_30 ?_
              refine lv_topi (fun x32654 ex32654 => ?_)
              refine lv_bipush (v := 15) hx hb dX5_canWeigh_31 (by decide) ?_
              refine lv_iand hx hb dX5_canWeigh_33 ?_
              refine lv_topi (fun x32655 ex32655 => ?_)
              have hx32655 : 0 ≤ x32655.toInt ∧ x32655.toInt ≤ 15 := and_ti 15 4 (by decide) (by decide) (by decide) ex32655
              refine lv_bipush (v := 9) hx hb dX5_canWeigh_34 (by decide) ?_
              refine lv_icmp_le (tgt := 41) hx hb dX5_canWeigh_36 (by decide) (fun c32656 => ?_) (fun c32656 => ?_)
              · skip
                have kc32656 : x32655.toInt ≤ 9 := le_ti rfl (by decide) c32656
                obtain ⟨x32657, ex32657⟩ : ∃ y : Int32, y = x32644 + 1 := ⟨_, rfl⟩
                have hx32657 : x32657.toInt = x32644.toInt + 1 := ti_add ex32657 rfl (by decide) (by omega) (by omega)
                refine lv_iinc (v := x32657) (lv' := [(1, .int x32657), (0, .int p0)]) hx hb dX5_canWeigh_41 hl (k := 0) rfl (by rw [ex32657]; rfl) (by decide) rfl (fun ls hl => ?_)
                refine lv_goto (tgt := 21) hx hb dX5_canWeigh_44 (by decide) ?_
                exact ih x32657 _ _ ls ⟨by omega, by omega⟩ (by omega) (hP.sub (ws' := []) [] rfl) (hD.sub (ws' := []) [] (by decide +kernel) rfl) hS (lv_sub hl [0, 1] rfl)
              · skip
                have kc32656 : 9 < x32655.toInt := nle_ti rfl (by decide) c32656
                refine lv_iconst (v := 0) hx hb dX5_canWeigh_39 (by decide) ?_
                exact r_zret () C0 hr (by decide +kernel) hlocks hS (Nat.le_refl _) (Nat.le_refl _) dX5_canWeigh_40 ⟨by decide, by decide⟩ (hP.sub (ws' := []) [] rfl) (hD.sub (ws' := []) [] (by decide +kernel) rfl)
        exact L32651 _ 0 _ _ ls ⟨by decide, by decide⟩ (Nat.lt_succ_self _) (hP.sub (ws' := []) [] rfl) (hD.sub (ws' := []) [] (by decide +kernel) rfl) hS (lv_sub hl [0, 1] rfl)
      · skip
        have kc32619 : x32618.toInt = 0 := eq_ti rfl (by decide) c32619
        refine lv_iconst (v := 0) hx hb dX5_canWeigh_17 (by decide) ?_
        exact r_zret () C0 hr (by decide +kernel) hlocks hS (Nat.le_refl _) (Nat.le_refl _) dX5_canWeigh_18 ⟨by decide, by decide⟩ (hP.sub (ws' := []) [] rfl) (hD.sub (ws' := []) [] (by decide +kernel) rfl)
set_option maxHeartbeats 4000000 in
set_option maxRecDepth 100000 in
theorem g_X5_holdOf_32994 (l : Launch) (D : va_G) (T : Nat → ClassId) (sq sv sz : Nat) (z1 : Nat) (z2 : Nat) (z3 : Nat) (z4 : Nat) (z5 : Nat) (p1 : Int32) (w1 : va_W) (hw1 : B_X1 T z1 z2 z3 z4 z5 w1) (hp1 : 0 ≤ p1.toInt ∧ p1.toInt ≤ 7) : Met l yX5_holdOf (.code yX5_holdOf cX5_holdOf 5 (some .int) :: TB) { frames := 0, cells := 0, slots := 0, locals := 0 } (PC2 D T sq sv [.ref z1, .int p1] (w1) sz) (Qi (S := Unit) (fun (r : Int32) (_ : Unit) => True) (fun (_ : Unit) => w1) D (va_A (w1) sz)) 0 0 (va_A (w1) sz) := by
  obtain ⟨x33003, x33004, x33005, x33006, f33007, f33008, f33009, f33010, rfl, hx33003, hx33004, hx33006⟩ := hw1
  refine ct_begin2 (Qc := Qi (S := Unit) (fun (r : Int32) (_ : Unit) => True) (fun (_ : Unit) => ([(z1, .inr (1, [.ref z2, .ref z3, .ref z4, .ref z5, .int x33003, .int x33004, .int x33005, .int x33006])), (z2, .inl (T 0, 64, .inl f33007)), (z3, .inl (T 0, 64, .inl f33008)), (z4, .inl (T 0, 64, .inl f33009)), (z5, .inl (T 0, 64, .inl f33010))] : va_W)) D) (by decide +kernel) (Nat.le_of_ble_eq_true rfl) ?_
  intro p e s m below meth c A ls C0 hr hlocks hnm hE hStr hA hP hD hl
  generalize ([.ref z1, .int p1] : List Value).toArray = args at C0 ⊢
  have hx := C0.1
  have hb := C0.2.1
  have hml := C0.2.2.1
  have hown := C0.2.2.2.1
  have hT := C0.2.2.2.2
  have hK := hE.1
  generalize hH : s.heap = H at hP ⊢
  have hS : va_S A s.heap H [] := by rw [← hH]; exact va_S.rf
  have hP : va_P D vwCl [(z1, .inr (1, [.ref z2, .ref z3, .ref z4, .ref z5, .int x33003, .int x33004, .int x33005, .int x33006])), (z2, .inl (T 0, 64, .inl f33007)), (z3, .inl (T 0, 64, .inl f33008)), (z4, .inl (T 0, 64, .inl f33009)), (z5, .inl (T 0, 64, .inl f33010))] H := hP
  have hD : va_D A [(z1, .inr (1, [.ref z2, .ref z3, .ref z4, .ref z5, .int x33003, .int x33004, .int x33005, .int x33006])), (z2, .inl (T 0, 64, .inl f33007)), (z3, .inl (T 0, 64, .inl f33008)), (z4, .inl (T 0, 64, .inl f33009)), (z5, .inl (T 0, 64, .inl f33010))] := hD
  have hl : lv_has ls 5 [(0, .ref z1), (1, .int p1)] := hl
  refine lv_iconst (v := 0) hx hb dX5_holdOf_0 (by decide) ?_
  refine lv_istore_n (lv' := [(2, .int 0), (0, .ref z1), (1, .int p1)]) hx hb dX5_holdOf_1 rfl hl (by decide) rfl (fun ls hl => ?_)
  refine lv_iconst (v := 0) hx hb dX5_holdOf_2 (by decide) ?_
  refine lv_istore_n (lv' := [(3, .int 0), (2, .int 0), (0, .ref z1), (1, .int p1)]) hx hb dX5_holdOf_3 rfl hl (by decide) rfl (fun ls hl => ?_)
  have L33107 : ∀ (n : Nat) (x33096 : Int32) (x33097 : Int32) (H : Heap) (locs : List Loc) (ls : Array Slot), (0 ≤ x33096.toInt ∧ x33096.toInt ≤ 8) → (9 - x33096.toInt).toNat < n → va_P D vwCl [(z1, .inr (1, [.ref z2, .ref z3, .ref z4, .ref z5, .int x33003, .int x33004, .int x33005, .int x33006])), (z2, .inl (T 0, 64, .inl f33007)), (z3, .inl (T 0, 64, .inl f33008)), (z4, .inl (T 0, 64, .inl f33009)), (z5, .inl (T 0, 64, .inl f33010))] H → va_D A [(z1, .inr (1, [.ref z2, .ref z3, .ref z4, .ref z5, .int x33003, .int x33004, .int x33005, .int x33006])), (z2, .inl (T 0, 64, .inl f33007)), (z3, .inl (T 0, 64, .inl f33008)), (z4, .inl (T 0, 64, .inl f33009)), (z5, .inl (T 0, 64, .inl f33010))] → va_S A s.heap H locs → lv_has ls 5 [(3, .int x33096), (2, .int x33097), (0, .ref z1), (1, .int p1)] → W p l e { frames := 0, cells := 0, slots := 0, locals := 0 } s m args below meth c H locs 0 0 (MQ below ((Qi (S := Unit) (fun (r : Int32) (_ : Unit) => True) (fun (_ : Unit) => ([(z1, .inr (1, [.ref z2, .ref z3, .ref z4, .ref z5, .int x33003, .int x33004, .int x33005, .int x33006])), (z2, .inl (T 0, 64, .inl f33007)), (z3, .inl (T 0, 64, .inl f33008)), (z4, .inl (T 0, 64, .inl f33009)), (z5, .inl (T 0, 64, .inl f33010))] : va_W)) D) A) args s 0 0 A) (F0 m 4 ls []) := by
    intro n
    induction n with
    | zero =>
      intro x33096 x33097 H locs ls hx33096 hms hP hD hS hl
      exact absurd hms (Nat.not_lt_zero _)
    | succ n ih =>
      intro x33096 x33097 H locs ls hx33096 hms hP hD hS hl
      refine lv_iload_n hx hb dX5_holdOf_4 rfl (lv_at hl 0 rfl) ?_
      refine lv_aload_n hx hb dX5_holdOf_5 rfl (lv_at hl 2 rfl) ?_
      refine r_get (v := .int x33004) C0 hE ffX1_5 mw_85 hP 0 rfl rfl dX5_holdOf_6 ?_
      refine lv_icmp_ge (tgt := 49) hx hb dX5_holdOf_9 (by decide) (fun c33108 => ?_) (fun c33108 => ?_)
      · skip
        have kc33108 : x33004.toInt ≤ x33096.toInt := le_ti rfl rfl c33108
        refine lv_iload_n hx hb dX5_holdOf_49 rfl (lv_at hl 1 rfl) ?_
        exact r_iret () C0 hr hlocks hS (Nat.le_refl _) (Nat.le_refl _) dX5_holdOf_50 trivial (hP.sub (ws' := [(z1, .inr (1, [.ref z2, .ref z3, .ref z4, .ref z5, .int x33003, .int x33004, .int x33005, .int x33006])), (z2, .inl (T 0, 64, .inl f33007)), (z3, .inl (T 0, 64, .inl f33008)), (z4, .inl (T 0, 64, .inl f33009)), (z5, .inl (T 0, 64, .inl f33010))]) [0, 1, 2, 3, 4] rfl) (hD.sub (ws' := [(z1, .inr (1, [.ref z2, .ref z3, .ref z4, .ref z5, .int x33003, .int x33004, .int x33005, .int x33006])), (z2, .inl (T 0, 64, .inl f33007)), (z3, .inl (T 0, 64, .inl f33008)), (z4, .inl (T 0, 64, .inl f33009)), (z5, .inl (T 0, 64, .inl f33010))]) [0, 1, 2, 3, 4] (by decide +kernel) rfl)
      · skip
        have kc33108 : x33096.toInt < x33004.toInt := nle_ti rfl rfl c33108
        refine lv_iload_n hx hb dX5_holdOf_12 rfl (lv_at hl 3 rfl) ?_
        refine lv_aload_n hx hb dX5_holdOf_13 rfl (lv_at hl 2 rfl) ?_
        refine r_get (v := .int x33004) C0 hE ffX1_5 mw_85 hP 0 rfl rfl dX5_holdOf_14 ?_
        refine lv_imul hx hb dX5_holdOf_17 ?_
        refine lv_topi (fun x33117 ex33117 => ?_)
        have hx33117 : 0 ≤ x33117.toInt ∧ x33117.toInt ≤ 56 := by have hm := mul_bb (a := p1.toInt) (b := x33004.toInt) (u := 0) (v := 1) (p := 7) (q := 8) (L := 0) (U := 56) (by decide) (by decide) (by omega) (by omega) (by omega) (by omega) (by decide) (by decide); rw [ti_mul ex33117 rfl rfl (by omega) (by omega)]; exact hm
        refine lv_iload_n hx hb dX5_holdOf_18 rfl (lv_at hl 0 rfl) ?_
        refine lv_iadd hx hb dX5_holdOf_19 ?_
        refine lv_topi (fun x33118 ex33118 => ?_)
        have hx33118 : x33118.toInt = x33117.toInt + x33096.toInt := ti_add ex33118 rfl rfl (by omega) (by omega)
        refine lv_istore (lv' := [(4, .int x33118), (3, .int x33096), (2, .int x33097), (0, .ref z1), (1, .int p1)]) hx hb dX5_holdOf_20 hl (by decide) rfl (fun ls hl => ?_)
        refine lv_aload_n hx hb dX5_holdOf_22 rfl (lv_at hl 3 rfl) ?_
        refine r_get (v := .ref z2) C0 hE ffX1_0 mw_71 hP 0 rfl rfl dX5_holdOf_23 ?_
        refine lv_iload hx hb dX5_holdOf_26 (lv_at hl 0 rfl) ?_
        refine va_iald hx hb hK hP 1 0 rfl rfl (in_ti rfl (by omega) (by omega)) dX5_holdOf_28 ?_
        refine lv_topi (fun x33119 ex33119 => ?_)
        refine lv_iconst (v := 1) hx hb dX5_holdOf_29 (by decide) ?_
        have J33124 : ∀ (x33123 : Int32) (H : Heap) (locs : List Loc) (ls : Array Slot), va_P D vwCl [(z1, .inr (1, [.ref z2, .ref z3, .ref z4, .ref z5, .int x33003, .int x33004, .int x33005, .int x33006])), (z2, .inl (T 0, 64, .inl f33007)), (z3, .inl (T 0, 64, .inl f33008)), (z4, .inl (T 0, 64, .inl f33009)), (z5, .inl (T 0, 64, .inl f33010))] H → va_D A [(z1, .inr (1, [.ref z2, .ref z3, .ref z4, .ref z5, .int x33003, .int x33004, .int x33005, .int x33006])), (z2, .inl (T 0, 64, .inl f33007)), (z3, .inl (T 0, 64, .inl f33008)), (z4, .inl (T 0, 64, .inl f33009)), (z5, .inl (T 0, 64, .inl f33010))] → va_S A s.heap H locs → lv_has ls 5 [(4, .int x33118), (3, .int x33096), (2, .int x33123), (0, .ref z1), (1, .int p1)] → W p l e { frames := 0, cells := 0, slots := 0, locals := 0 } s m args below meth c H locs 0 0 (MQ below ((Qi (S := Unit) (fun (r : Int32) (_ : Unit) => True) (fun (_ : Unit) => ([(z1, .inr (1, [.ref z2, .ref z3, .ref z4, .ref z5, .int x33003, .int x33004, .int x33005, .int x33006])), (z2, .inl (T 0, 64, .inl f33007)), (z3, .inl (T 0, 64, .inl f33008)), (z4, .inl (T 0, 64, .inl f33009)), (z5, .inl (T 0, 64, .inl f33010))] : va_W)) D) A) args s 0 0 A) (F0 m 43 ls []) := by
          intro x33123 H locs ls hP hD hS hl
          obtain ⟨x33125, ex33125⟩ : ∃ y : Int32, y = x33096 + 1 := ⟨_, rfl⟩
          have hx33125 : x33125.toInt = x33096.toInt + 1 := ti_add ex33125 rfl (by decide) (by omega) (by omega)
          refine lv_iinc (v := x33125) (lv' := [(3, .int x33125), (4, .int x33118), (2, .int x33123), (0, .ref z1), (1, .int p1)]) hx hb dX5_holdOf_43 hl (k := 1) rfl (by rw [ex33125]; rfl) (by decide) rfl (fun ls hl => ?_)
          refine lv_goto (tgt := 4) hx hb dX5_holdOf_46 (by decide) ?_
          exact ih x33125 x33123 _ _ ls ⟨by omega, by omega⟩ (by omega) (hP.sub (ws' := [(z1, .inr (1, [.ref z2, .ref z3, .ref z4, .ref z5, .int x33003, .int x33004, .int x33005, .int x33006])), (z2, .inl (T 0, 64, .inl f33007)), (z3, .inl (T 0, 64, .inl f33008)), (z4, .inl (T 0, 64, .inl f33009)), (z5, .inl (T 0, 64, .inl f33010))]) [0, 1, 2, 3, 4] rfl) (hD.sub (ws' := [(z1, .inr (1, [.ref z2, .ref z3, .ref z4, .ref z5, .int x33003, .int x33004, .int x33005, .int x33006])), (z2, .inl (T 0, 64, .inl f33007)), (z3, .inl (T 0, 64, .inl f33008)), (z4, .inl (T 0, 64, .inl f33009)), (z5, .inl (T 0, 64, .inl f33010))]) [0, 1, 2, 3, 4] (by decide +kernel) rfl) hS (lv_sub hl [0, 2, 3, 4] rfl)
        refine lv_icmp_ne (tgt := 43) hx hb dX5_holdOf_30 (by decide) (fun c33120 => ?_) (fun c33120 => ?_)
        · skip
          have kc33120 : x33119.toInt ≠ 1 := ne_ti rfl (by decide) c33120
          exact J33124 x33097 _ _ ls (hP.sub (ws' := [(z1, .inr (1, [.ref z2, .ref z3, .ref z4, .ref z5, .int x33003, .int x33004, .int x33005, .int x33006])), (z2, .inl (T 0, 64, .inl f33007)), (z3, .inl (T 0, 64, .inl f33008)), (z4, .inl (T 0, 64, .inl f33009)), (z5, .inl (T 0, 64, .inl f33010))]) [0, 1, 2, 3, 4] rfl) (hD.sub (ws' := [(z1, .inr (1, [.ref z2, .ref z3, .ref z4, .ref z5, .int x33003, .int x33004, .int x33005, .int x33006])), (z2, .inl (T 0, 64, .inl f33007)), (z3, .inl (T 0, 64, .inl f33008)), (z4, .inl (T 0, 64, .inl f33009)), (z5, .inl (T 0, 64, .inl f33010))]) [0, 1, 2, 3, 4] (by decide +kernel) rfl) hS (lv_sub hl [0, 1, 2, 3, 4] rfl)
        · skip
          have kc33120 : x33119.toInt = 1 := eq_ti rfl (by decide) c33120
          refine lv_iload_n hx hb dX5_holdOf_33 rfl (lv_at hl 2 rfl) ?_
          refine lv_aload_n hx hb dX5_holdOf_34 rfl (lv_at hl 3 rfl) ?_
          refine r_get (v := .ref z5) C0 hE ffX1_3 mw_80 hP 0 rfl rfl dX5_holdOf_35 ?_
          refine lv_iload hx hb dX5_holdOf_38 (lv_at hl 0 rfl) ?_
          refine va_iald hx hb hK hP 4 0 rfl rfl (in_ti rfl (by omega) (by omega)) dX5_holdOf_40 ?_
          refine lv_topi (fun x33126 ex33126 => ?_)
          refine lv_iadd hx hb dX5_holdOf_41 ?_
          refine lv_topi (fun x33127 ex33127 => ?_)
          refine lv_istore_n (lv' := [(2, .int x33127), (4, .int x33118), (3, .int x33096), (0, .ref z1), (1, .int p1)]) hx hb dX5_holdOf_42 rfl hl (by decide) rfl (fun ls hl => ?_)
          exact J33124 x33127 _ _ ls (hP.sub (ws' := [(z1, .inr (1, [.ref z2, .ref z3, .ref z4, .ref z5, .int x33003, .int x33004, .int x33005, .int x33006])), (z2, .inl (T 0, 64, .inl f33007)), (z3, .inl (T 0, 64, .inl f33008)), (z4, .inl (T 0, 64, .inl f33009)), (z5, .inl (T 0, 64, .inl f33010))]) [0, 1, 2, 3, 4] rfl) (hD.sub (ws' := [(z1, .inr (1, [.ref z2, .ref z3, .ref z4, .ref z5, .int x33003, .int x33004, .int x33005, .int x33006])), (z2, .inl (T 0, 64, .inl f33007)), (z3, .inl (T 0, 64, .inl f33008)), (z4, .inl (T 0, 64, .inl f33009)), (z5, .inl (T 0, 64, .inl f33010))]) [0, 1, 2, 3, 4] (by decide +kernel) rfl) hS (lv_sub hl [1, 2, 0, 3, 4] rfl)
  exact L33107 _ 0 0 _ _ ls ⟨by decide, by decide⟩ (Nat.lt_succ_self _) (hP.sub (ws' := [(z1, .inr (1, [.ref z2, .ref z3, .ref z4, .ref z5, .int x33003, .int x33004, .int x33005, .int x33006])), (z2, .inl (T 0, 64, .inl f33007)), (z3, .inl (T 0, 64, .inl f33008)), (z4, .inl (T 0, 64, .inl f33009)), (z5, .inl (T 0, 64, .inl f33010))]) [0, 1, 2, 3, 4] rfl) (hD.sub (ws' := [(z1, .inr (1, [.ref z2, .ref z3, .ref z4, .ref z5, .int x33003, .int x33004, .int x33005, .int x33006])), (z2, .inl (T 0, 64, .inl f33007)), (z3, .inl (T 0, 64, .inl f33008)), (z4, .inl (T 0, 64, .inl f33009)), (z5, .inl (T 0, 64, .inl f33010))]) [0, 1, 2, 3, 4] (by decide +kernel) rfl) hS (lv_sub hl [0, 1, 2, 3] rfl)
def B_X5 (T : Nat → ClassId) (a r0 r1 r2 r3 r4 : Nat) (w : va_W) : Prop := ∃ (v5 : Int32), ∃ (v6 : Int64), ∃ (v7 : Int32), ∃ (g0 : Nat → Int32), ∃ (g1 : Nat → Int32), ∃ (g2 : Nat → Int32), ∃ (g3 : Nat → Int32), ∃ (g4 : Nat → Int32), w = [(a, .inr (5, [.ref r0, .ref r1, .ref r2, .ref r3, .ref r4, .int v5, .long v6, .int v7])), (r0, .inl (T 0, 8, .inl g0)), (r1, .inl (T 0, 8, .inl g1)), (r2, .inl (T 0, 8, .inl g2)), (r3, .inl (T 0, 8, .inl g3)), (r4, .inl (T 0, 4, .inl g4))] ∧ (0 ≤ v5.toInt ∧ v5.toInt ≤ 8) ∧ (0 ≤ v7.toInt ∧ v7.toInt ≤ 1) ∧ Bd (0) (3) g2
set_option maxHeartbeats 4000000 in
set_option maxRecDepth 100000 in
theorem g_X5_open_33479 (l : Launch) (D : va_G) (T : Nat → ClassId) (sq sv sz : Nat) (z1 : Nat) (z2 : Nat) (z3 : Nat) (z4 : Nat) (z5 : Nat) (z6 : Nat) (p1 : Int32) (p2 : Int32) (w1 : va_W) (hw1 : B_X5 T z1 z2 z3 z4 z5 z6 w1) (hp1 : 0 ≤ p1.toInt ∧ p1.toInt ≤ 7) (hp2 : 0 ≤ p2.toInt ∧ p2.toInt ≤ 8) (hf0_5 : ∀ v : Int32, fv w1 5 = some (.int v) → 0 ≤ v.toInt ∧ v.toInt ≤ 7) : Met l yX5_open (.code yX5_open cX5_open 8 none :: TB) { frames := 1, cells := 0, slots := 0, locals := 13 } (PC2 D T sq sv [.ref z1, .int p1, .int p2] (w1) sz) (Qv2 (S := va_W) (fun (u0 : va_W) => B_X5 T z1 z2 z3 z4 z5 z6 u0 ∧ fv u0 5 = fv w1 5 ∧ fv u0 6 = fv w1 6 ∧ fv u0 7 = fv w1 7) (fun (u0 : va_W) => u0) D (va_A (w1) sz)) 0 0 (va_A (w1) sz) := by
  obtain ⟨x33489, x33490, x33491, f33492, f33493, f33494, f33496, f33497, rfl, hx33489, hx33491, hb33495⟩ := hw1
  have hf0_5 := hf0_5 _ rfl
  refine ct_begin2 (Qc := Qv2 (S := va_W) (fun (u0 : va_W) => B_X5 T z1 z2 z3 z4 z5 z6 u0 ∧ fv u0 5 = fv ([(z1, .inr (5, [.ref z2, .ref z3, .ref z4, .ref z5, .ref z6, .int x33489, .long x33490, .int x33491])), (z2, .inl (T 0, 8, .inl f33492)), (z3, .inl (T 0, 8, .inl f33493)), (z4, .inl (T 0, 8, .inl f33494)), (z5, .inl (T 0, 8, .inl f33496)), (z6, .inl (T 0, 4, .inl f33497))] : va_W) 5 ∧ fv u0 6 = fv ([(z1, .inr (5, [.ref z2, .ref z3, .ref z4, .ref z5, .ref z6, .int x33489, .long x33490, .int x33491])), (z2, .inl (T 0, 8, .inl f33492)), (z3, .inl (T 0, 8, .inl f33493)), (z4, .inl (T 0, 8, .inl f33494)), (z5, .inl (T 0, 8, .inl f33496)), (z6, .inl (T 0, 4, .inl f33497))] : va_W) 6 ∧ fv u0 7 = fv ([(z1, .inr (5, [.ref z2, .ref z3, .ref z4, .ref z5, .ref z6, .int x33489, .long x33490, .int x33491])), (z2, .inl (T 0, 8, .inl f33492)), (z3, .inl (T 0, 8, .inl f33493)), (z4, .inl (T 0, 8, .inl f33494)), (z5, .inl (T 0, 8, .inl f33496)), (z6, .inl (T 0, 4, .inl f33497))] : va_W) 7) (fun (u0 : va_W) => u0) D) (by decide +kernel) (Nat.le_of_ble_eq_true rfl) ?_
  intro p e s m below meth c A ls C0 hr hlocks hnm hE hStr hA hP hD hl
  generalize ([.ref z1, .int p1, .int p2] : List Value).toArray = args at C0 ⊢
  have hx := C0.1
  have hb := C0.2.1
  have hml := C0.2.2.1
  have hown := C0.2.2.2.1
  have hT := C0.2.2.2.2
  have hK := hE.1
  generalize hH : s.heap = H at hP ⊢
  have hS : va_S A s.heap H [] := by rw [← hH]; exact va_S.rf
  have hP : va_P D vwCl [(z1, .inr (5, [.ref z2, .ref z3, .ref z4, .ref z5, .ref z6, .int x33489, .long x33490, .int x33491])), (z2, .inl (T 0, 8, .inl f33492)), (z3, .inl (T 0, 8, .inl f33493)), (z4, .inl (T 0, 8, .inl f33494)), (z5, .inl (T 0, 8, .inl f33496)), (z6, .inl (T 0, 4, .inl f33497))] H := hP
  have hD : va_D A [(z1, .inr (5, [.ref z2, .ref z3, .ref z4, .ref z5, .ref z6, .int x33489, .long x33490, .int x33491])), (z2, .inl (T 0, 8, .inl f33492)), (z3, .inl (T 0, 8, .inl f33493)), (z4, .inl (T 0, 8, .inl f33494)), (z5, .inl (T 0, 8, .inl f33496)), (z6, .inl (T 0, 4, .inl f33497))] := hD
  have hl : lv_has ls 8 [(0, .ref z1), (1, .int p1), (2, .int p2)] := hl
  refine lv_iconst (v := 0) hx hb dX5_open_0 (by decide) ?_
  refine lv_istore_n (lv' := [(3, .int 0), (0, .ref z1), (1, .int p1), (2, .int p2)]) hx hb dX5_open_1 rfl hl (by decide) rfl (fun ls hl => ?_)
  refine lv_iconst (v := 0) hx hb dX5_open_2 (by decide) ?_
  refine lv_istore (lv' := [(4, .int 0), (3, .int 0), (0, .ref z1), (1, .int p1), (2, .int p2)]) hx hb dX5_open_3 hl (by decide) rfl (fun ls hl => ?_)
  have J33536 : ∀ (x33534 : Int32) (x33535 : Int32) (H : Heap) (locs : List Loc) (ls : Array Slot), (0 ≤ x33534.toInt ∧ x33534.toInt ≤ 4) → va_P D vwCl [(z1, .inr (5, [.ref z2, .ref z3, .ref z4, .ref z5, .ref z6, .int x33489, .long x33490, .int x33491])), (z2, .inl (T 0, 8, .inl f33492)), (z3, .inl (T 0, 8, .inl f33493)), (z4, .inl (T 0, 8, .inl f33494)), (z5, .inl (T 0, 8, .inl f33496)), (z6, .inl (T 0, 4, .inl f33497))] H → va_D A [(z1, .inr (5, [.ref z2, .ref z3, .ref z4, .ref z5, .ref z6, .int x33489, .long x33490, .int x33491])), (z2, .inl (T 0, 8, .inl f33492)), (z3, .inl (T 0, 8, .inl f33493)), (z4, .inl (T 0, 8, .inl f33494)), (z5, .inl (T 0, 8, .inl f33496)), (z6, .inl (T 0, 4, .inl f33497))] → va_S A s.heap H locs → lv_has ls 8 [(4, .int x33534), (3, .int x33535), (0, .ref z1), (1, .int p1), (2, .int p2)] → W p l e { frames := 1, cells := 0, slots := 0, locals := 13 } s m args below meth c H locs 0 0 (MQ below ((Qv2 (S := va_W) (fun (u0 : va_W) => B_X5 T z1 z2 z3 z4 z5 z6 u0 ∧ fv u0 5 = fv ([(z1, .inr (5, [.ref z2, .ref z3, .ref z4, .ref z5, .ref z6, .int x33489, .long x33490, .int x33491])), (z2, .inl (T 0, 8, .inl f33492)), (z3, .inl (T 0, 8, .inl f33493)), (z4, .inl (T 0, 8, .inl f33494)), (z5, .inl (T 0, 8, .inl f33496)), (z6, .inl (T 0, 4, .inl f33497))] : va_W) 5 ∧ fv u0 6 = fv ([(z1, .inr (5, [.ref z2, .ref z3, .ref z4, .ref z5, .ref z6, .int x33489, .long x33490, .int x33491])), (z2, .inl (T 0, 8, .inl f33492)), (z3, .inl (T 0, 8, .inl f33493)), (z4, .inl (T 0, 8, .inl f33494)), (z5, .inl (T 0, 8, .inl f33496)), (z6, .inl (T 0, 4, .inl f33497))] : va_W) 6 ∧ fv u0 7 = fv ([(z1, .inr (5, [.ref z2, .ref z3, .ref z4, .ref z5, .ref z6, .int x33489, .long x33490, .int x33491])), (z2, .inl (T 0, 8, .inl f33492)), (z3, .inl (T 0, 8, .inl f33493)), (z4, .inl (T 0, 8, .inl f33494)), (z5, .inl (T 0, 8, .inl f33496)), (z6, .inl (T 0, 4, .inl f33497))] : va_W) 7) (fun (u0 : va_W) => u0) D) A) args s 0 0 A) (F0 m 35 ls []) := by
    intro x33534 x33535 H locs ls hx33534 hP hD hS hl
    refine lv_iconst (v := 1) hx hb dX5_open_35 (by decide) ?_
    refine lv_iload_n hx hb dX5_open_36 rfl (lv_at hl 1 rfl) ?_
    refine va_mmax hx hb (by rw [hml]; exact hl.1.symm) hown (hT _ mw_699) (hT _ mw_239) (hT _ mw_12) (hT _ mw_240) (Nat.le_of_ble_eq_true rfl) (Nat.le_of_ble_eq_true rfl) (Nat.le_of_ble_eq_true rfl) (Nat.le_of_ble_eq_true rfl) dX5_open_37 ?_
    refine lv_topi (fun x33537 ex33537 => ?_)
    have hx33537 := max_ti (a := 1) (b := x33535.toInt) ex33537 (by decide) rfl
    refine lv_istore_n (lv' := [(3, .int x33537), (4, .int x33534), (0, .ref z1), (1, .int p1), (2, .int p2)]) hx hb dX5_open_40 rfl hl (by decide) rfl (fun ls hl => ?_)
    refine lv_iconst (v := 1) hx hb dX5_open_41 (by decide) ?_
    refine lv_aload_n hx hb dX5_open_42 rfl (lv_at hl 2 rfl) ?_
    refine r_get (v := .ref z6) C0 hE ffX5_4 mw_157 hP 0 rfl rfl dX5_open_43 ?_
    refine lv_iconst (v := 0) hx hb dX5_open_46 (by decide) ?_
    refine va_iald hx hb hK hP 5 0 rfl rfl (vp_lit (by decide +kernel)) dX5_open_47 ?_
    refine lv_topi (fun x33538 ex33538 => ?_)
    refine va_mmax hx hb (by rw [hml]; exact hl.1.symm) hown (hT _ mw_699) (hT _ mw_239) (hT _ mw_12) (hT _ mw_240) (Nat.le_of_ble_eq_true rfl) (Nat.le_of_ble_eq_true rfl) (Nat.le_of_ble_eq_true rfl) (Nat.le_of_ble_eq_true rfl) dX5_open_48 ?_
    refine lv_topi (fun x33539 ex33539 => ?_)
    have hx33539 := max_ti (a := 1) (b := x33538.toInt) ex33539 (by decide) rfl
    refine lv_istore (lv' := [(4, .int x33539), (3, .int x33537), (0, .ref z1), (1, .int p1), (2, .int p2)]) hx hb dX5_open_51 hl (by decide) rfl (fun ls hl => ?_)
    refine lv_aload_n hx hb dX5_open_53 rfl (lv_at hl 2 rfl) ?_
    refine r_get (v := .ref z5) C0 hE ffX5_3 mw_156 hP 0 rfl rfl dX5_open_54 ?_
    refine lv_iload_n hx hb dX5_open_57 rfl (lv_at hl 3 rfl) ?_
    refine va_iald hx hb hK hP 4 0 rfl rfl (in_ti rfl (by omega) (by omega)) dX5_open_58 ?_
    refine lv_topi (fun x33540 ex33540 => ?_)
    refine lv_iload_n hx hb dX5_open_59 rfl (lv_at hl 1 rfl) ?_
    refine lv_imul hx hb dX5_open_60 ?_
    refine lv_topi (fun x33541 ex33541 => ?_)
    refine lv_iload hx hb dX5_open_61 (lv_at hl 0 rfl) ?_
    refine lv_iadd hx hb dX5_open_63 ?_
    refine lv_topi (fun x33542 ex33542 => ?_)
    refine lv_iconst (v := 1) hx hb dX5_open_64 (by decide) ?_
    refine lv_isub hx hb dX5_open_65 ?_
    refine lv_topi (fun x33543 ex33543 => ?_)
    refine lv_iload hx hb dX5_open_66 (lv_at hl 0 rfl) ?_
    refine lv_idiv hx hb dX5_open_68 (nz_ti rfl (by omega)) ?_
    refine lv_topi (fun x33544 ex33544 => ?_)
    refine lv_istore (lv' := [(5, .int x33544), (4, .int x33539), (3, .int x33537), (0, .ref z1), (1, .int p1), (2, .int p2)]) hx hb dX5_open_69 hl (by decide) rfl (fun ls hl => ?_)
    refine lv_iconst (v := 0) hx hb dX5_open_71 (by decide) ?_
    refine lv_istore (lv' := [(6, .int 0), (5, .int x33544), (4, .int x33539), (3, .int x33537), (0, .ref z1), (1, .int p1), (2, .int p2)]) hx hb dX5_open_72 hl (by decide) rfl (fun ls hl => ?_)
    refine lv_iconst (v := 1) hx hb dX5_open_74 (by decide) ?_
    refine lv_istore (lv' := [(7, .int 1), (6, .int 0), (5, .int x33544), (4, .int x33539), (3, .int x33537), (0, .ref z1), (1, .int p1), (2, .int p2)]) hx hb dX5_open_75 hl (by decide) rfl (fun ls hl => ?_)
    have J33595 : ∀ (x33593 : Int32) (x33594 : Int32) (H : Heap) (locs : List Loc) (ls : Array Slot), (1 ≤ x33593.toInt ∧ x33593.toInt ≤ 4) → (0 ≤ x33594.toInt ∧ x33594.toInt ≤ 3) → va_P D vwCl [(z1, .inr (5, [.ref z2, .ref z3, .ref z4, .ref z5, .ref z6, .int x33489, .long x33490, .int x33491])), (z2, .inl (T 0, 8, .inl f33492)), (z3, .inl (T 0, 8, .inl f33493)), (z4, .inl (T 0, 8, .inl f33494)), (z5, .inl (T 0, 8, .inl f33496)), (z6, .inl (T 0, 4, .inl f33497))] H → va_D A [(z1, .inr (5, [.ref z2, .ref z3, .ref z4, .ref z5, .ref z6, .int x33489, .long x33490, .int x33491])), (z2, .inl (T 0, 8, .inl f33492)), (z3, .inl (T 0, 8, .inl f33493)), (z4, .inl (T 0, 8, .inl f33494)), (z5, .inl (T 0, 8, .inl f33496)), (z6, .inl (T 0, 4, .inl f33497))] → va_S A s.heap H locs → lv_has ls 8 [(7, .int x33593), (6, .int x33594), (5, .int x33544), (4, .int x33539), (3, .int x33537), (0, .ref z1), (1, .int p1), (2, .int p2)] → W p l e { frames := 1, cells := 0, slots := 0, locals := 13 } s m args below meth c H locs 0 0 (MQ below ((Qv2 (S := va_W) (fun (u0 : va_W) => B_X5 T z1 z2 z3 z4 z5 z6 u0 ∧ fv u0 5 = fv ([(z1, .inr (5, [.ref z2, .ref z3, .ref z4, .ref z5, .ref z6, .int x33489, .long x33490, .int x33491])), (z2, .inl (T 0, 8, .inl f33492)), (z3, .inl (T 0, 8, .inl f33493)), (z4, .inl (T 0, 8, .inl f33494)), (z5, .inl (T 0, 8, .inl f33496)), (z6, .inl (T 0, 4, .inl f33497))] : va_W) 5 ∧ fv u0 6 = fv ([(z1, .inr (5, [.ref z2, .ref z3, .ref z4, .ref z5, .ref z6, .int x33489, .long x33490, .int x33491])), (z2, .inl (T 0, 8, .inl f33492)), (z3, .inl (T 0, 8, .inl f33493)), (z4, .inl (T 0, 8, .inl f33494)), (z5, .inl (T 0, 8, .inl f33496)), (z6, .inl (T 0, 4, .inl f33497))] : va_W) 6 ∧ fv u0 7 = fv ([(z1, .inr (5, [.ref z2, .ref z3, .ref z4, .ref z5, .ref z6, .int x33489, .long x33490, .int x33491])), (z2, .inl (T 0, 8, .inl f33492)), (z3, .inl (T 0, 8, .inl f33493)), (z4, .inl (T 0, 8, .inl f33494)), (z5, .inl (T 0, 8, .inl f33496)), (z6, .inl (T 0, 4, .inl f33497))] : va_W) 7) (fun (u0 : va_W) => u0) D) A) args s 0 0 A) (F0 m 128 ls []) := by
      intro x33593 x33594 H locs ls hx33593 hx33594 hP hD hS hl
      refine lv_aload_n hx hb dX5_open_128 rfl (lv_at hl 5 rfl) ?_
      refine r_get (v := .ref z3) C0 hE ffX5_1 mw_152 hP 0 rfl rfl dX5_open_129 ?_
      refine lv_aload_n hx hb dX5_open_132 rfl (lv_at hl 5 rfl) ?_
      refine r_get (v := .int x33489) C0 hE ffX5_5 mw_158 hP 0 rfl rfl dX5_open_133 ?_
      refine lv_iload hx hb dX5_open_136 (lv_at hl 2 rfl) ?_
      refine r_iastO hx hb hK hP hD hS 2 rfl (in_ti rfl (by omega) (by omega)) dX5_open_138 (fun f33596 H locs hP hD hS => ?_)
      have hP : va_P D vwCl [(z1, .inr (5, [.ref z2, .ref z3, .ref z4, .ref z5, .ref z6, .int x33489, .long x33490, .int x33491])), (z2, .inl (T 0, 8, .inl f33492)), (z3, .inl (T 0, 8, .inl f33596)), (z4, .inl (T 0, 8, .inl f33494)), (z5, .inl (T 0, 8, .inl f33496)), (z6, .inl (T 0, 4, .inl f33497))] H := hP
      have hD : va_D A [(z1, .inr (5, [.ref z2, .ref z3, .ref z4, .ref z5, .ref z6, .int x33489, .long x33490, .int x33491])), (z2, .inl (T 0, 8, .inl f33492)), (z3, .inl (T 0, 8, .inl f33596)), (z4, .inl (T 0, 8, .inl f33494)), (z5, .inl (T 0, 8, .inl f33496)), (z6, .inl (T 0, 4, .inl f33497))] := hD
      refine lv_aload_n hx hb dX5_open_139 rfl (lv_at hl 5 rfl) ?_
      refine r_get (v := .ref z4) C0 hE ffX5_2 mw_154 hP 0 rfl rfl dX5_open_140 ?_
      refine lv_aload_n hx hb dX5_open_143 rfl (lv_at hl 5 rfl) ?_
      refine r_get (v := .int x33489) C0 hE ffX5_5 mw_158 hP 0 rfl rfl dX5_open_144 ?_
      refine lv_iload hx hb dX5_open_147 (lv_at hl 1 rfl) ?_
      refine r_iastB hx hb hK hP hD hS 3 rfl (in_ti rfl (by omega) (by omega)) hb33495 rfl (by omega) (by omega) dX5_open_149 (fun f33597 hb33598 H locs hP hD hS => ?_)
      have hP : va_P D vwCl [(z1, .inr (5, [.ref z2, .ref z3, .ref z4, .ref z5, .ref z6, .int x33489, .long x33490, .int x33491])), (z2, .inl (T 0, 8, .inl f33492)), (z3, .inl (T 0, 8, .inl f33596)), (z4, .inl (T 0, 8, .inl f33597)), (z5, .inl (T 0, 8, .inl f33496)), (z6, .inl (T 0, 4, .inl f33497))] H := hP
      have hD : va_D A [(z1, .inr (5, [.ref z2, .ref z3, .ref z4, .ref z5, .ref z6, .int x33489, .long x33490, .int x33491])), (z2, .inl (T 0, 8, .inl f33492)), (z3, .inl (T 0, 8, .inl f33596)), (z4, .inl (T 0, 8, .inl f33597)), (z5, .inl (T 0, 8, .inl f33496)), (z6, .inl (T 0, 4, .inl f33497))] := hD
      exact r_vret2 ([(z1, .inr (5, [.ref z2, .ref z3, .ref z4, .ref z5, .ref z6, .int x33489, .long x33490, .int x33491])), (z2, .inl (T 0, 8, .inl f33492)), (z3, .inl (T 0, 8, .inl f33596)), (z4, .inl (T 0, 8, .inl f33597)), (z5, .inl (T 0, 8, .inl f33496)), (z6, .inl (T 0, 4, .inl f33497))] : va_W) C0 hr hlocks hS (Nat.le_refl _) (Nat.le_refl _) dX5_open_150 ⟨⟨x33489, x33490, x33491, f33492, f33596, f33597, f33496, f33497, rfl, ⟨by omega, by omega⟩, ⟨by omega, by omega⟩, hb33598⟩, rfl, rfl, rfl⟩ (hP.sub (ws' := [(z1, .inr (5, [.ref z2, .ref z3, .ref z4, .ref z5, .ref z6, .int x33489, .long x33490, .int x33491])), (z2, .inl (T 0, 8, .inl f33492)), (z3, .inl (T 0, 8, .inl f33596)), (z4, .inl (T 0, 8, .inl f33597)), (z5, .inl (T 0, 8, .inl f33496)), (z6, .inl (T 0, 4, .inl f33497))]) [0, 1, 2, 3, 4, 5] rfl) (hD.sub (ws' := [(z1, .inr (5, [.ref z2, .ref z3, .ref z4, .ref z5, .ref z6, .int x33489, .long x33490, .int x33491])), (z2, .inl (T 0, 8, .inl f33492)), (z3, .inl (T 0, 8, .inl f33596)), (z4, .inl (T 0, 8, .inl f33597)), (z5, .inl (T 0, 8, .inl f33496)), (z6, .inl (T 0, 4, .inl f33497))]) [0, 1, 2, 3, 4, 5] (by decide +kernel) rfl)
    have L33599 : ∀ (n : Nat) (x33580 : Int32) (x33581 : Int32) (H : Heap) (locs : List Loc) (ls : Array Slot), (1 ≤ x33580.toInt ∧ x33580.toInt ≤ 4) → (0 ≤ x33581.toInt ∧ x33581.toInt ≤ 3) → (5 - x33580.toInt).toNat < n → va_P D vwCl [(z1, .inr (5, [.ref z2, .ref z3, .ref z4, .ref z5, .ref z6, .int x33489, .long x33490, .int x33491])), (z2, .inl (T 0, 8, .inl f33492)), (z3, .inl (T 0, 8, .inl f33493)), (z4, .inl (T 0, 8, .inl f33494)), (z5, .inl (T 0, 8, .inl f33496)), (z6, .inl (T 0, 4, .inl f33497))] H → va_D A [(z1, .inr (5, [.ref z2, .ref z3, .ref z4, .ref z5, .ref z6, .int x33489, .long x33490, .int x33491])), (z2, .inl (T 0, 8, .inl f33492)), (z3, .inl (T 0, 8, .inl f33493)), (z4, .inl (T 0, 8, .inl f33494)), (z5, .inl (T 0, 8, .inl f33496)), (z6, .inl (T 0, 4, .inl f33497))] → va_S A s.heap H locs → lv_has ls 8 [(7, .int x33580), (6, .int x33581), (5, .int x33544), (4, .int x33539), (3, .int x33537), (0, .ref z1), (1, .int p1), (2, .int p2)] → W p l e { frames := 1, cells := 0, slots := 0, locals := 13 } s m args below meth c H locs 0 0 (MQ below ((Qv2 (S := va_W) (fun (u0 : va_W) => B_X5 T z1 z2 z3 z4 z5 z6 u0 ∧ fv u0 5 = fv ([(z1, .inr (5, [.ref z2, .ref z3, .ref z4, .ref z5, .ref z6, .int x33489, .long x33490, .int x33491])), (z2, .inl (T 0, 8, .inl f33492)), (z3, .inl (T 0, 8, .inl f33493)), (z4, .inl (T 0, 8, .inl f33494)), (z5, .inl (T 0, 8, .inl f33496)), (z6, .inl (T 0, 4, .inl f33497))] : va_W) 5 ∧ fv u0 6 = fv ([(z1, .inr (5, [.ref z2, .ref z3, .ref z4, .ref z5, .ref z6, .int x33489, .long x33490, .int x33491])), (z2, .inl (T 0, 8, .inl f33492)), (z3, .inl (T 0, 8, .inl f33493)), (z4, .inl (T 0, 8, .inl f33494)), (z5, .inl (T 0, 8, .inl f33496)), (z6, .inl (T 0, 4, .inl f33497))] : va_W) 6 ∧ fv u0 7 = fv ([(z1, .inr (5, [.ref z2, .ref z3, .ref z4, .ref z5, .ref z6, .int x33489, .long x33490, .int x33491])), (z2, .inl (T 0, 8, .inl f33492)), (z3, .inl (T 0, 8, .inl f33493)), (z4, .inl (T 0, 8, .inl f33494)), (z5, .inl (T 0, 8, .inl f33496)), (z6, .inl (T 0, 4, .inl f33497))] : va_W) 7) (fun (u0 : va_W) => u0) D) A) args s 0 0 A) (F0 m 77 ls []) := by
      intro n
      induction n with
      | zero =>
        intro x33580 x33581 H locs ls hx33580 hx33581 hms hP hD hS hl
        exact absurd hms (Nat.not_lt_zero _)
      | succ n ih =>
        intro x33580 x33581 H locs ls hx33580 hx33581 hms hP hD hS hl
        refine lv_iload hx hb dX5_open_77 (lv_at hl 0 rfl) ?_
        refine lv_iconst (v := 4) hx hb dX5_open_79 (by decide) ?_
        refine lv_icmp_ge (tgt := 128) hx hb dX5_open_80 (by decide) (fun c33600 => ?_) (fun c33600 => ?_)
        · skip
          have kc33600 : 4 ≤ x33580.toInt := le_ti (by decide) rfl c33600
          exact J33595 x33580 x33581 _ _ ls ⟨by omega, by omega⟩ ⟨by omega, by omega⟩ (hP.sub (ws' := [(z1, .inr (5, [.ref z2, .ref z3, .ref z4, .ref z5, .ref z6, .int x33489, .long x33490, .int x33491])), (z2, .inl (T 0, 8, .inl f33492)), (z3, .inl (T 0, 8, .inl f33493)), (z4, .inl (T 0, 8, .inl f33494)), (z5, .inl (T 0, 8, .inl f33496)), (z6, .inl (T 0, 4, .inl f33497))]) [0, 1, 2, 3, 4, 5] rfl) (hD.sub (ws' := [(z1, .inr (5, [.ref z2, .ref z3, .ref z4, .ref z5, .ref z6, .int x33489, .long x33490, .int x33491])), (z2, .inl (T 0, 8, .inl f33492)), (z3, .inl (T 0, 8, .inl f33493)), (z4, .inl (T 0, 8, .inl f33494)), (z5, .inl (T 0, 8, .inl f33496)), (z6, .inl (T 0, 4, .inl f33497))]) [0, 1, 2, 3, 4, 5] (by decide +kernel) rfl) hS (lv_sub hl [0, 1, 2, 3, 4, 5, 6, 7] rfl)
        · skip
          have kc33600 : x33580.toInt < 4 := nle_ti (by decide) rfl c33600
          refine lv_iload_n hx hb dX5_open_83 rfl (lv_at hl 6 rfl) ?_
          refine lv_iload hx hb dX5_open_84 (lv_at hl 0 rfl) ?_
          refine lv_iadd hx hb dX5_open_86 ?_
          refine lv_topi (fun x33601 ex33601 => ?_)
          have hx33601 : x33601.toInt = p1.toInt + x33580.toInt := ti_add ex33601 rfl rfl (by omega) (by omega)
          refine lv_iload_n hx hb dX5_open_87 rfl (lv_at hl 7 rfl) ?_
          refine lv_icmp_ge (tgt := 128) hx hb dX5_open_88 (by decide) (fun c33602 => ?_) (fun c33602 => ?_)
          · skip
            have kc33602 : p2.toInt ≤ x33601.toInt := le_ti rfl rfl c33602
            exact J33595 x33580 x33581 _ _ ls ⟨by omega, by omega⟩ ⟨by omega, by omega⟩ (hP.sub (ws' := [(z1, .inr (5, [.ref z2, .ref z3, .ref z4, .ref z5, .ref z6, .int x33489, .long x33490, .int x33491])), (z2, .inl (T 0, 8, .inl f33492)), (z3, .inl (T 0, 8, .inl f33493)), (z4, .inl (T 0, 8, .inl f33494)), (z5, .inl (T 0, 8, .inl f33496)), (z6, .inl (T 0, 4, .inl f33497))]) [0, 1, 2, 3, 4, 5] rfl) (hD.sub (ws' := [(z1, .inr (5, [.ref z2, .ref z3, .ref z4, .ref z5, .ref z6, .int x33489, .long x33490, .int x33491])), (z2, .inl (T 0, 8, .inl f33492)), (z3, .inl (T 0, 8, .inl f33493)), (z4, .inl (T 0, 8, .inl f33494)), (z5, .inl (T 0, 8, .inl f33496)), (z6, .inl (T 0, 4, .inl f33497))]) [0, 1, 2, 3, 4, 5] (by decide +kernel) rfl) hS (lv_sub hl [0, 1, 2, 3, 4, 5, 6, 7] rfl)
          · skip
            have kc33602 : x33601.toInt < p2.toInt := nle_ti rfl rfl c33602
            refine lv_iload hx hb dX5_open_91 (lv_at hl 2 rfl) ?_
            refine lv_aload_n hx hb dX5_open_93 rfl (lv_at hl 5 rfl) ?_
            refine r_get (v := .ref z6) C0 hE ffX5_4 mw_157 hP 0 rfl rfl dX5_open_94 ?_
            refine lv_iload hx hb dX5_open_97 (lv_at hl 0 rfl) ?_
            refine va_iald hx hb hK hP 5 0 rfl rfl (in_ti rfl (by omega) (by omega)) dX5_open_99 ?_
            refine lv_topi (fun x33603 ex33603 => ?_)
            refine lv_imul hx hb dX5_open_100 ?_
            refine lv_topi (fun x33604 ex33604 => ?_)
            refine lv_iload_n hx hb dX5_open_101 rfl (lv_at hl 4 rfl) ?_
            refine lv_idiv hx hb dX5_open_102 (nz_ti rfl (by omega)) ?_
            refine lv_topi (fun x33605 ex33605 => ?_)
            refine lv_aload_n hx hb dX5_open_103 rfl (lv_at hl 5 rfl) ?_
            refine r_get (v := .ref z5) C0 hE ffX5_3 mw_156 hP 0 rfl rfl dX5_open_104 ?_
            refine lv_iload_n hx hb dX5_open_107 rfl (lv_at hl 6 rfl) ?_
            refine lv_iload hx hb dX5_open_108 (lv_at hl 0 rfl) ?_
            refine lv_iadd hx hb dX5_open_110 ?_
            refine lv_topi (fun x33606 ex33606 => ?_)
            have hx33606 : x33606.toInt = p1.toInt + x33580.toInt := ti_add ex33606 rfl rfl (by omega) (by omega)
            have ha33607 : 0 ≤ x33606.toInt ∧ x33606.toInt ≤ 7 := ⟨by omega, by omega⟩
            refine va_iald hx hb hK hP 4 0 rfl rfl (in_ti rfl (by omega) (by omega)) dX5_open_111 ?_
            refine lv_topi (fun x33608 ex33608 => ?_)
            refine lv_icmp_ge (tgt := 118) hx hb dX5_open_112 (by decide) (fun c33609 => ?_) (fun c33609 => ?_)
            · skip
              have kc33609 : x33608.toInt ≤ x33605.toInt := le_ti rfl rfl c33609
              refine lv_iload hx hb dX5_open_118 (lv_at hl 0 rfl) ?_
              refine lv_istore (lv' := [(6, .int x33580), (7, .int x33580), (5, .int x33544), (4, .int x33539), (3, .int x33537), (0, .ref z1), (1, .int p1), (2, .int p2)]) hx hb dX5_open_120 hl (by decide) rfl (fun ls hl => ?_)
              obtain ⟨x33610, ex33610⟩ : ∃ y : Int32, y = x33580 + 1 := ⟨_, rfl⟩
              have hx33610 : x33610.toInt = x33580.toInt + 1 := ti_add ex33610 rfl (by decide) (by omega) (by omega)
              refine lv_iinc (v := x33610) (lv' := [(7, .int x33610), (6, .int x33580), (5, .int x33544), (4, .int x33539), (3, .int x33537), (0, .ref z1), (1, .int p1), (2, .int p2)]) hx hb dX5_open_122 hl (k := 1) rfl (by rw [ex33610]; rfl) (by decide) rfl (fun ls hl => ?_)
              refine lv_goto (tgt := 77) hx hb dX5_open_125 (by decide) ?_
              exact ih x33610 x33580 _ _ ls ⟨by omega, by omega⟩ ⟨by omega, by omega⟩ (by omega) (hP.sub (ws' := [(z1, .inr (5, [.ref z2, .ref z3, .ref z4, .ref z5, .ref z6, .int x33489, .long x33490, .int x33491])), (z2, .inl (T 0, 8, .inl f33492)), (z3, .inl (T 0, 8, .inl f33493)), (z4, .inl (T 0, 8, .inl f33494)), (z5, .inl (T 0, 8, .inl f33496)), (z6, .inl (T 0, 4, .inl f33497))]) [0, 1, 2, 3, 4, 5] rfl) (hD.sub (ws' := [(z1, .inr (5, [.ref z2, .ref z3, .ref z4, .ref z5, .ref z6, .int x33489, .long x33490, .int x33491])), (z2, .inl (T 0, 8, .inl f33492)), (z3, .inl (T 0, 8, .inl f33493)), (z4, .inl (T 0, 8, .inl f33494)), (z5, .inl (T 0, 8, .inl f33496)), (z6, .inl (T 0, 4, .inl f33497))]) [0, 1, 2, 3, 4, 5] (by decide +kernel) rfl) hS (lv_sub hl [0, 1, 2, 3, 4, 5, 6, 7] rfl)
            · skip
              have kc33609 : x33605.toInt < x33608.toInt := nle_ti rfl rfl c33609
              refine lv_goto (tgt := 128) hx hb dX5_open_115 (by decide) ?_
              exact J33595 x33580 x33581 _ _ ls ⟨by omega, by omega⟩ ⟨by omega, by omega⟩ (hP.sub (ws' := [(z1, .inr (5, [.ref z2, .ref z3, .ref z4, .ref z5, .ref z6, .int x33489, .long x33490, .int x33491])), (z2, .inl (T 0, 8, .inl f33492)), (z3, .inl (T 0, 8, .inl f33493)), (z4, .inl (T 0, 8, .inl f33494)), (z5, .inl (T 0, 8, .inl f33496)), (z6, .inl (T 0, 4, .inl f33497))]) [0, 1, 2, 3, 4, 5] rfl) (hD.sub (ws' := [(z1, .inr (5, [.ref z2, .ref z3, .ref z4, .ref z5, .ref z6, .int x33489, .long x33490, .int x33491])), (z2, .inl (T 0, 8, .inl f33492)), (z3, .inl (T 0, 8, .inl f33493)), (z4, .inl (T 0, 8, .inl f33494)), (z5, .inl (T 0, 8, .inl f33496)), (z6, .inl (T 0, 4, .inl f33497))]) [0, 1, 2, 3, 4, 5] (by decide +kernel) rfl) hS (lv_sub hl [0, 1, 2, 3, 4, 5, 6, 7] rfl)
    exact L33599 _ 1 0 _ _ ls ⟨by decide, by decide⟩ ⟨by decide, by decide⟩ (Nat.lt_succ_self _) (hP.sub (ws' := [(z1, .inr (5, [.ref z2, .ref z3, .ref z4, .ref z5, .ref z6, .int x33489, .long x33490, .int x33491])), (z2, .inl (T 0, 8, .inl f33492)), (z3, .inl (T 0, 8, .inl f33493)), (z4, .inl (T 0, 8, .inl f33494)), (z5, .inl (T 0, 8, .inl f33496)), (z6, .inl (T 0, 4, .inl f33497))]) [0, 1, 2, 3, 4, 5] rfl) (hD.sub (ws' := [(z1, .inr (5, [.ref z2, .ref z3, .ref z4, .ref z5, .ref z6, .int x33489, .long x33490, .int x33491])), (z2, .inl (T 0, 8, .inl f33492)), (z3, .inl (T 0, 8, .inl f33493)), (z4, .inl (T 0, 8, .inl f33494)), (z5, .inl (T 0, 8, .inl f33496)), (z6, .inl (T 0, 4, .inl f33497))]) [0, 1, 2, 3, 4, 5] (by decide +kernel) rfl) hS (lv_sub hl [0, 1, 2, 3, 4, 5, 6, 7] rfl)
  have L33611 : ∀ (n : Nat) (x33526 : Int32) (x33527 : Int32) (H : Heap) (locs : List Loc) (ls : Array Slot), (0 ≤ x33526.toInt ∧ x33526.toInt ≤ 4) → (5 - x33526.toInt).toNat < n → va_P D vwCl [(z1, .inr (5, [.ref z2, .ref z3, .ref z4, .ref z5, .ref z6, .int x33489, .long x33490, .int x33491])), (z2, .inl (T 0, 8, .inl f33492)), (z3, .inl (T 0, 8, .inl f33493)), (z4, .inl (T 0, 8, .inl f33494)), (z5, .inl (T 0, 8, .inl f33496)), (z6, .inl (T 0, 4, .inl f33497))] H → va_D A [(z1, .inr (5, [.ref z2, .ref z3, .ref z4, .ref z5, .ref z6, .int x33489, .long x33490, .int x33491])), (z2, .inl (T 0, 8, .inl f33492)), (z3, .inl (T 0, 8, .inl f33493)), (z4, .inl (T 0, 8, .inl f33494)), (z5, .inl (T 0, 8, .inl f33496)), (z6, .inl (T 0, 4, .inl f33497))] → va_S A s.heap H locs → lv_has ls 8 [(4, .int x33526), (3, .int x33527), (0, .ref z1), (1, .int p1), (2, .int p2)] → W p l e { frames := 1, cells := 0, slots := 0, locals := 13 } s m args below meth c H locs 0 0 (MQ below ((Qv2 (S := va_W) (fun (u0 : va_W) => B_X5 T z1 z2 z3 z4 z5 z6 u0 ∧ fv u0 5 = fv ([(z1, .inr (5, [.ref z2, .ref z3, .ref z4, .ref z5, .ref z6, .int x33489, .long x33490, .int x33491])), (z2, .inl (T 0, 8, .inl f33492)), (z3, .inl (T 0, 8, .inl f33493)), (z4, .inl (T 0, 8, .inl f33494)), (z5, .inl (T 0, 8, .inl f33496)), (z6, .inl (T 0, 4, .inl f33497))] : va_W) 5 ∧ fv u0 6 = fv ([(z1, .inr (5, [.ref z2, .ref z3, .ref z4, .ref z5, .ref z6, .int x33489, .long x33490, .int x33491])), (z2, .inl (T 0, 8, .inl f33492)), (z3, .inl (T 0, 8, .inl f33493)), (z4, .inl (T 0, 8, .inl f33494)), (z5, .inl (T 0, 8, .inl f33496)), (z6, .inl (T 0, 4, .inl f33497))] : va_W) 6 ∧ fv u0 7 = fv ([(z1, .inr (5, [.ref z2, .ref z3, .ref z4, .ref z5, .ref z6, .int x33489, .long x33490, .int x33491])), (z2, .inl (T 0, 8, .inl f33492)), (z3, .inl (T 0, 8, .inl f33493)), (z4, .inl (T 0, 8, .inl f33494)), (z5, .inl (T 0, 8, .inl f33496)), (z6, .inl (T 0, 4, .inl f33497))] : va_W) 7) (fun (u0 : va_W) => u0) D) A) args s 0 0 A) (F0 m 5 ls []) := by
    intro n
    induction n with
    | zero =>
      intro x33526 x33527 H locs ls hx33526 hms hP hD hS hl
      exact absurd hms (Nat.not_lt_zero _)
    | succ n ih =>
      intro x33526 x33527 H locs ls hx33526 hms hP hD hS hl
      refine lv_iload hx hb dX5_open_5 (lv_at hl 0 rfl) ?_
      refine lv_iconst (v := 4) hx hb dX5_open_7 (by decide) ?_
      refine lv_icmp_ge (tgt := 35) hx hb dX5_open_8 (by decide) (fun c33612 => ?_) (fun c33612 => ?_)
      · skip
        have kc33612 : 4 ≤ x33526.toInt := le_ti (by decide) rfl c33612
        exact J33536 x33526 x33527 _ _ ls ⟨by omega, by omega⟩ (hP.sub (ws' := [(z1, .inr (5, [.ref z2, .ref z3, .ref z4, .ref z5, .ref z6, .int x33489, .long x33490, .int x33491])), (z2, .inl (T 0, 8, .inl f33492)), (z3, .inl (T 0, 8, .inl f33493)), (z4, .inl (T 0, 8, .inl f33494)), (z5, .inl (T 0, 8, .inl f33496)), (z6, .inl (T 0, 4, .inl f33497))]) [0, 1, 2, 3, 4, 5] rfl) (hD.sub (ws' := [(z1, .inr (5, [.ref z2, .ref z3, .ref z4, .ref z5, .ref z6, .int x33489, .long x33490, .int x33491])), (z2, .inl (T 0, 8, .inl f33492)), (z3, .inl (T 0, 8, .inl f33493)), (z4, .inl (T 0, 8, .inl f33494)), (z5, .inl (T 0, 8, .inl f33496)), (z6, .inl (T 0, 4, .inl f33497))]) [0, 1, 2, 3, 4, 5] (by decide +kernel) rfl) hS (lv_sub hl [0, 1, 2, 3, 4] rfl)
      · skip
        have kc33612 : x33526.toInt < 4 := nle_ti (by decide) rfl c33612
        refine lv_iload_n hx hb dX5_open_11 rfl (lv_at hl 3 rfl) ?_
        refine lv_iload hx hb dX5_open_12 (lv_at hl 0 rfl) ?_
        refine lv_iadd hx hb dX5_open_14 ?_
        refine lv_topi (fun x33613 ex33613 => ?_)
        have hx33613 : x33613.toInt = p1.toInt + x33526.toInt := ti_add ex33613 rfl rfl (by omega) (by omega)
        refine lv_iload_n hx hb dX5_open_15 rfl (lv_at hl 4 rfl) ?_
        refine lv_icmp_ge (tgt := 35) hx hb dX5_open_16 (by decide) (fun c33614 => ?_) (fun c33614 => ?_)
        · skip
          have kc33614 : p2.toInt ≤ x33613.toInt := le_ti rfl rfl c33614
          exact J33536 x33526 x33527 _ _ ls ⟨by omega, by omega⟩ (hP.sub (ws' := [(z1, .inr (5, [.ref z2, .ref z3, .ref z4, .ref z5, .ref z6, .int x33489, .long x33490, .int x33491])), (z2, .inl (T 0, 8, .inl f33492)), (z3, .inl (T 0, 8, .inl f33493)), (z4, .inl (T 0, 8, .inl f33494)), (z5, .inl (T 0, 8, .inl f33496)), (z6, .inl (T 0, 4, .inl f33497))]) [0, 1, 2, 3, 4, 5] rfl) (hD.sub (ws' := [(z1, .inr (5, [.ref z2, .ref z3, .ref z4, .ref z5, .ref z6, .int x33489, .long x33490, .int x33491])), (z2, .inl (T 0, 8, .inl f33492)), (z3, .inl (T 0, 8, .inl f33493)), (z4, .inl (T 0, 8, .inl f33494)), (z5, .inl (T 0, 8, .inl f33496)), (z6, .inl (T 0, 4, .inl f33497))]) [0, 1, 2, 3, 4, 5] (by decide +kernel) rfl) hS (lv_sub hl [0, 1, 2, 3, 4] rfl)
        · skip
          have kc33614 : x33613.toInt < p2.toInt := nle_ti rfl rfl c33614
          refine lv_iload_n hx hb dX5_open_19 rfl (lv_at hl 1 rfl) ?_
          refine lv_aload_n hx hb dX5_open_20 rfl (lv_at hl 2 rfl) ?_
          refine r_get (v := .ref z6) C0 hE ffX5_4 mw_157 hP 0 rfl rfl dX5_open_21 ?_
          refine lv_iload hx hb dX5_open_24 (lv_at hl 0 rfl) ?_
          refine va_iald hx hb hK hP 5 0 rfl rfl (in_ti rfl (by omega) (by omega)) dX5_open_26 ?_
          refine lv_topi (fun x33615 ex33615 => ?_)
          refine lv_iadd hx hb dX5_open_27 ?_
          refine lv_topi (fun x33616 ex33616 => ?_)
          refine lv_istore_n (lv' := [(3, .int x33616), (4, .int x33526), (0, .ref z1), (1, .int p1), (2, .int p2)]) hx hb dX5_open_28 rfl hl (by decide) rfl (fun ls hl => ?_)
          obtain ⟨x33617, ex33617⟩ : ∃ y : Int32, y = x33526 + 1 := ⟨_, rfl⟩
          have hx33617 : x33617.toInt = x33526.toInt + 1 := ti_add ex33617 rfl (by decide) (by omega) (by omega)
          refine lv_iinc (v := x33617) (lv' := [(4, .int x33617), (3, .int x33616), (0, .ref z1), (1, .int p1), (2, .int p2)]) hx hb dX5_open_29 hl (k := 1) rfl (by rw [ex33617]; rfl) (by decide) rfl (fun ls hl => ?_)
          refine lv_goto (tgt := 5) hx hb dX5_open_32 (by decide) ?_
          exact ih x33617 x33616 _ _ ls ⟨by omega, by omega⟩ (by omega) (hP.sub (ws' := [(z1, .inr (5, [.ref z2, .ref z3, .ref z4, .ref z5, .ref z6, .int x33489, .long x33490, .int x33491])), (z2, .inl (T 0, 8, .inl f33492)), (z3, .inl (T 0, 8, .inl f33493)), (z4, .inl (T 0, 8, .inl f33494)), (z5, .inl (T 0, 8, .inl f33496)), (z6, .inl (T 0, 4, .inl f33497))]) [0, 1, 2, 3, 4, 5] rfl) (hD.sub (ws' := [(z1, .inr (5, [.ref z2, .ref z3, .ref z4, .ref z5, .ref z6, .int x33489, .long x33490, .int x33491])), (z2, .inl (T 0, 8, .inl f33492)), (z3, .inl (T 0, 8, .inl f33493)), (z4, .inl (T 0, 8, .inl f33494)), (z5, .inl (T 0, 8, .inl f33496)), (z6, .inl (T 0, 4, .inl f33497))]) [0, 1, 2, 3, 4, 5] (by decide +kernel) rfl) hS (lv_sub hl [0, 1, 2, 3, 4] rfl)
  exact L33611 _ 0 0 _ _ ls ⟨by decide, by decide⟩ (Nat.lt_succ_self _) (hP.sub (ws' := [(z1, .inr (5, [.ref z2, .ref z3, .ref z4, .ref z5, .ref z6, .int x33489, .long x33490, .int x33491])), (z2, .inl (T 0, 8, .inl f33492)), (z3, .inl (T 0, 8, .inl f33493)), (z4, .inl (T 0, 8, .inl f33494)), (z5, .inl (T 0, 8, .inl f33496)), (z6, .inl (T 0, 4, .inl f33497))]) [0, 1, 2, 3, 4, 5] rfl) (hD.sub (ws' := [(z1, .inr (5, [.ref z2, .ref z3, .ref z4, .ref z5, .ref z6, .int x33489, .long x33490, .int x33491])), (z2, .inl (T 0, 8, .inl f33492)), (z3, .inl (T 0, 8, .inl f33493)), (z4, .inl (T 0, 8, .inl f33494)), (z5, .inl (T 0, 8, .inl f33496)), (z6, .inl (T 0, 4, .inl f33497))]) [0, 1, 2, 3, 4, 5] (by decide +kernel) rfl) hS (lv_sub hl [0, 1, 2, 3, 4] rfl)
set_option maxHeartbeats 4000000 in
set_option maxRecDepth 100000 in
theorem g_X5_follow_34442 (l : Launch) (D : va_G) (T : Nat → ClassId) (sq sv sz : Nat) (z1 : Nat) (z2 : Nat) (z3 : Nat) (z4 : Nat) (z5 : Nat) (z6 : Nat) (z7 : Nat) (z8 : Nat) (z9 : Nat) (z10 : Nat) (z11 : Nat) (p2 : Int32) (p3 : Int32) (w1 : va_W) (w2 : va_W) (hw1 : B_X5 T z1 z3 z4 z5 z6 z7 w1) (hw2 : B_X1 T z2 z8 z9 z10 z11 w2) : Met l yX5_follow (.code yX5_follow cX5_follow 6 none :: TB) { frames := 2, cells := 0, slots := 0, locals := 40 } (PC2 D T sq sv [.ref z1, .ref z2, .int p2, .int p3] (w1 ++ (w2)) sz) (Qv2 (S := va_W) (fun (u0 : va_W) => B_X5 T z1 z3 z4 z5 z6 z7 u0) (fun (u0 : va_W) => u0 ++ (w2)) D (va_A (w1 ++ (w2)) sz)) 0 0 (va_A (w1 ++ (w2)) sz) := by
  obtain ⟨x34460, x34461, x34462, f34463, f34464, f34465, f34467, f34468, rfl, hx34460, hx34462, hb34466⟩ := hw1
  obtain ⟨x34469, x34470, x34471, x34472, f34473, f34474, f34475, f34476, rfl, hx34469, hx34470, hx34472⟩ := hw2
  refine ct_begin2 (Qc := Qv2 (S := va_W) (fun (u0 : va_W) => B_X5 T z1 z3 z4 z5 z6 z7 u0) (fun (u0 : va_W) => u0 ++ (([(z2, .inr (1, [.ref z8, .ref z9, .ref z10, .ref z11, .int x34469, .int x34470, .int x34471, .int x34472])), (z8, .inl (T 0, 64, .inl f34473)), (z9, .inl (T 0, 64, .inl f34474)), (z10, .inl (T 0, 64, .inl f34475)), (z11, .inl (T 0, 64, .inl f34476))] : va_W))) D) (by decide +kernel) (Nat.le_of_ble_eq_true rfl) ?_
  intro p e s m below meth c A ls C0 hr hlocks hnm hE hStr hA hP hD hl
  generalize ([.ref z1, .ref z2, .int p2, .int p3] : List Value).toArray = args at C0 ⊢
  have hx := C0.1
  have hb := C0.2.1
  have hml := C0.2.2.1
  have hown := C0.2.2.2.1
  have hT := C0.2.2.2.2
  have hK := hE.1
  generalize hH : s.heap = H at hP ⊢
  have hS : va_S A s.heap H [] := by rw [← hH]; exact va_S.rf
  have hP : va_P D vwCl [(z1, .inr (5, [.ref z3, .ref z4, .ref z5, .ref z6, .ref z7, .int x34460, .long x34461, .int x34462])), (z3, .inl (T 0, 8, .inl f34463)), (z4, .inl (T 0, 8, .inl f34464)), (z5, .inl (T 0, 8, .inl f34465)), (z6, .inl (T 0, 8, .inl f34467)), (z7, .inl (T 0, 4, .inl f34468)), (z2, .inr (1, [.ref z8, .ref z9, .ref z10, .ref z11, .int x34469, .int x34470, .int x34471, .int x34472])), (z8, .inl (T 0, 64, .inl f34473)), (z9, .inl (T 0, 64, .inl f34474)), (z10, .inl (T 0, 64, .inl f34475)), (z11, .inl (T 0, 64, .inl f34476))] H := hP
  have hD : va_D A [(z1, .inr (5, [.ref z3, .ref z4, .ref z5, .ref z6, .ref z7, .int x34460, .long x34461, .int x34462])), (z3, .inl (T 0, 8, .inl f34463)), (z4, .inl (T 0, 8, .inl f34464)), (z5, .inl (T 0, 8, .inl f34465)), (z6, .inl (T 0, 8, .inl f34467)), (z7, .inl (T 0, 4, .inl f34468)), (z2, .inr (1, [.ref z8, .ref z9, .ref z10, .ref z11, .int x34469, .int x34470, .int x34471, .int x34472])), (z8, .inl (T 0, 64, .inl f34473)), (z9, .inl (T 0, 64, .inl f34474)), (z10, .inl (T 0, 64, .inl f34475)), (z11, .inl (T 0, 64, .inl f34476))] := hD
  have hl : lv_has ls 6 [(0, .ref z1), (1, .ref z2), (2, .int p2), (3, .int p3)] := hl
  refine lv_bipush (v := 8) hx hb dX5_follow_0 (by decide) ?_
  refine lv_aload_n hx hb dX5_follow_2 rfl (lv_at hl 1 rfl) ?_
  refine r_get (v := .int x34469) C0 hE ffX1_4 mw_83 hP 6 rfl rfl dX5_follow_3 ?_
  refine lv_iconst (v := 1) hx hb dX5_follow_6 (by decide) ?_
  refine lv_aload_n hx hb dX5_follow_7 rfl (lv_at hl 1 rfl) ?_
  refine r_get (v := .int x34470) C0 hE ffX1_5 mw_85 hP 6 rfl rfl dX5_follow_8 ?_
  refine va_mmax hx hb (by rw [hml]; exact hl.1.symm) hown (hT _ mw_699) (hT _ mw_239) (hT _ mw_12) (hT _ mw_240) (Nat.le_of_ble_eq_true rfl) (Nat.le_of_ble_eq_true rfl) (Nat.le_of_ble_eq_true rfl) (Nat.le_of_ble_eq_true rfl) dX5_follow_11 ?_
  refine lv_topi (fun x34477 ex34477 => ?_)
  have hx34477 := max_ti (a := 1) (b := x34470.toInt) ex34477 (by decide) rfl
  refine lv_idiv hx hb dX5_follow_14 (nz_ti rfl (by omega)) ?_
  refine lv_topi (fun x34478 ex34478 => ?_)
  have hx34478 : 0 ≤ x34478.toInt ∧ x34478.toInt ≤ x34469.toInt := div_ti ex34478 rfl rfl (by omega) (by omega)
  refine va_mmin hx hb (by rw [hml]; exact hl.1.symm) hown (hT _ mw_700) (hT _ mw_242) (hT _ mw_12) (hT _ mw_243) (Nat.le_of_ble_eq_true rfl) (Nat.le_of_ble_eq_true rfl) (Nat.le_of_ble_eq_true rfl) (Nat.le_of_ble_eq_true rfl) dX5_follow_15 ?_
  refine lv_topi (fun x34479 ex34479 => ?_)
  have hx34479 := min_ti (a := 8) (b := x34478.toInt) ex34479 (by decide) rfl
  refine lv_istore (lv' := [(4, .int x34479), (0, .ref z1), (1, .ref z2), (2, .int p2), (3, .int p3)]) hx hb dX5_follow_18 hl (by decide) rfl (fun ls hl => ?_)
  refine lv_aload_n hx hb dX5_follow_20 rfl (lv_at hl 1 rfl) ?_
  refine lv_iconst (v := 1) hx hb dX5_follow_21 (by decide) ?_
  refine r_put (v := .int 1) (ty := .boolean) (fs1 := [.ref z3, .ref z4, .ref z5, .ref z6, .ref z7, .int x34460, .long x34461, .int 1]) (ws1 := [(z1, .inr (5, [.ref z3, .ref z4, .ref z5, .ref z6, .ref z7, .int x34460, .long x34461, .int 1])), (z3, .inl (T 0, 8, .inl f34463)), (z4, .inl (T 0, 8, .inl f34464)), (z5, .inl (T 0, 8, .inl f34465)), (z6, .inl (T 0, 8, .inl f34467)), (z7, .inl (T 0, 4, .inl f34468)), (z2, .inr (1, [.ref z8, .ref z9, .ref z10, .ref z11, .int x34469, .int x34470, .int x34471, .int x34472])), (z8, .inl (T 0, 64, .inl f34473)), (z9, .inl (T 0, 64, .inl f34474)), (z10, .inl (T 0, 64, .inl f34475)), (z11, .inl (T 0, 64, .inl f34476))]) C0 hE ffX5_7 tyX5 tyX5_ok nmX5 mw_162 pf_1367 hP hD hS 0 rfl rfl rfl (Nat.le_of_ble_eq_true rfl) rfl rfl dX5_follow_22 (fun H locs hP hD hS => ?_)
  refine lv_aload_n hx hb dX5_follow_25 rfl (lv_at hl 1 rfl) ?_
  refine lv_iconst (v := 0) hx hb dX5_follow_26 (by decide) ?_
  refine r_put (v := .int 0) (ty := .int) (fs1 := [.ref z3, .ref z4, .ref z5, .ref z6, .ref z7, .int 0, .long x34461, .int 1]) (ws1 := [(z1, .inr (5, [.ref z3, .ref z4, .ref z5, .ref z6, .ref z7, .int 0, .long x34461, .int 1])), (z3, .inl (T 0, 8, .inl f34463)), (z4, .inl (T 0, 8, .inl f34464)), (z5, .inl (T 0, 8, .inl f34465)), (z6, .inl (T 0, 8, .inl f34467)), (z7, .inl (T 0, 4, .inl f34468)), (z2, .inr (1, [.ref z8, .ref z9, .ref z10, .ref z11, .int x34469, .int x34470, .int x34471, .int x34472])), (z8, .inl (T 0, 64, .inl f34473)), (z9, .inl (T 0, 64, .inl f34474)), (z10, .inl (T 0, 64, .inl f34475)), (z11, .inl (T 0, 64, .inl f34476))]) C0 hE ffX5_5 tyX5 tyX5_ok nmX5 mw_158 pf_1358 hP hD hS 0 rfl rfl rfl (Nat.le_of_ble_eq_true rfl) rfl rfl dX5_follow_27 (fun H locs hP hD hS => ?_)
  refine lv_aload_n hx hb dX5_follow_30 rfl (lv_at hl 1 rfl) ?_
  refine lv_lconst (v := 0) hx hb dX5_follow_31 (by decide) ?_
  refine r_put (v := .long 0) (ty := .long) (fs1 := [.ref z3, .ref z4, .ref z5, .ref z6, .ref z7, .int 0, .long 0, .int 1]) (ws1 := [(z1, .inr (5, [.ref z3, .ref z4, .ref z5, .ref z6, .ref z7, .int 0, .long 0, .int 1])), (z3, .inl (T 0, 8, .inl f34463)), (z4, .inl (T 0, 8, .inl f34464)), (z5, .inl (T 0, 8, .inl f34465)), (z6, .inl (T 0, 8, .inl f34467)), (z7, .inl (T 0, 4, .inl f34468)), (z2, .inr (1, [.ref z8, .ref z9, .ref z10, .ref z11, .int x34469, .int x34470, .int x34471, .int x34472])), (z8, .inl (T 0, 64, .inl f34473)), (z9, .inl (T 0, 64, .inl f34474)), (z10, .inl (T 0, 64, .inl f34475)), (z11, .inl (T 0, 64, .inl f34476))]) C0 hE ffX5_6 tyX5 tyX5_ok nmX5 mw_160 pf_1407 hP hD hS 0 rfl rfl rfl (Nat.le_of_ble_eq_true rfl) rfl rfl dX5_follow_32 (fun H locs hP hD hS => ?_)
  refine lv_iconst (v := 0) hx hb dX5_follow_35 (by decide) ?_
  refine lv_istore (lv' := [(5, .int 0), (4, .int x34479), (0, .ref z1), (1, .ref z2), (2, .int p2), (3, .int p3)]) hx hb dX5_follow_36 hl (by decide) rfl (fun ls hl => ?_)
  have L34515 : ∀ (n : Nat) (x34507 : Int32) (f34508 : Nat → Int32) (H : Heap) (locs : List Loc) (ls : Array Slot), (0 ≤ x34507.toInt ∧ x34507.toInt ≤ 4) → (5 - x34507.toInt).toNat < n → va_P D vwCl [(z1, .inr (5, [.ref z3, .ref z4, .ref z5, .ref z6, .ref z7, .int 0, .long 0, .int 1])), (z3, .inl (T 0, 8, .inl f34463)), (z4, .inl (T 0, 8, .inl f34464)), (z5, .inl (T 0, 8, .inl f34465)), (z6, .inl (T 0, 8, .inl f34467)), (z7, .inl (T 0, 4, .inl f34508)), (z2, .inr (1, [.ref z8, .ref z9, .ref z10, .ref z11, .int x34469, .int x34470, .int x34471, .int x34472])), (z8, .inl (T 0, 64, .inl f34473)), (z9, .inl (T 0, 64, .inl f34474)), (z10, .inl (T 0, 64, .inl f34475)), (z11, .inl (T 0, 64, .inl f34476))] H → va_D A [(z1, .inr (5, [.ref z3, .ref z4, .ref z5, .ref z6, .ref z7, .int 0, .long 0, .int 1])), (z3, .inl (T 0, 8, .inl f34463)), (z4, .inl (T 0, 8, .inl f34464)), (z5, .inl (T 0, 8, .inl f34465)), (z6, .inl (T 0, 8, .inl f34467)), (z7, .inl (T 0, 4, .inl f34508)), (z2, .inr (1, [.ref z8, .ref z9, .ref z10, .ref z11, .int x34469, .int x34470, .int x34471, .int x34472])), (z8, .inl (T 0, 64, .inl f34473)), (z9, .inl (T 0, 64, .inl f34474)), (z10, .inl (T 0, 64, .inl f34475)), (z11, .inl (T 0, 64, .inl f34476))] → va_S A s.heap H locs → lv_has ls 6 [(5, .int x34507), (4, .int x34479), (0, .ref z1), (1, .ref z2), (2, .int p2), (3, .int p3)] → W p l e { frames := 2, cells := 0, slots := 0, locals := 40 } s m args below meth c H locs 0 0 (MQ below ((Qv2 (S := va_W) (fun (u0 : va_W) => B_X5 T z1 z3 z4 z5 z6 z7 u0) (fun (u0 : va_W) => u0 ++ (([(z2, .inr (1, [.ref z8, .ref z9, .ref z10, .ref z11, .int x34469, .int x34470, .int x34471, .int x34472])), (z8, .inl (T 0, 64, .inl f34473)), (z9, .inl (T 0, 64, .inl f34474)), (z10, .inl (T 0, 64, .inl f34475)), (z11, .inl (T 0, 64, .inl f34476))] : va_W))) D) A) args s 0 0 A) (F0 m 38 ls []) := by
    intro n
    induction n with
    | zero =>
      intro x34507 f34508 H locs ls hx34507 hms hP hD hS hl
      exact absurd hms (Nat.not_lt_zero _)
    | succ n ih =>
      intro x34507 f34508 H locs ls hx34507 hms hP hD hS hl
      refine lv_iload hx hb dX5_follow_38 (lv_at hl 0 rfl) ?_
      refine lv_iconst (v := 4) hx hb dX5_follow_40 (by decide) ?_
      refine lv_icmp_ge (tgt := 66) hx hb dX5_follow_41 (by decide) (fun c34516 => ?_) (fun c34516 => ?_)
      · skip
        have kc34516 : 4 ≤ x34507.toInt := le_ti (by decide) rfl c34516
        refine lv_iconst (v := 0) hx hb dX5_follow_66 (by decide) ?_
        refine lv_istore (lv' := [(5, .int 0), (4, .int x34479), (0, .ref z1), (1, .ref z2), (2, .int p2), (3, .int p3)]) hx hb dX5_follow_67 hl (by decide) rfl (fun ls hl => ?_)
        have L34609 : ∀ (n : Nat) (x34599 : Int32) (f34600 : Nat → Int32) (H : Heap) (locs : List Loc) (ls : Array Slot), (0 ≤ x34599.toInt ∧ x34599.toInt ≤ 8) → (9 - x34599.toInt).toNat < n → va_P D vwCl [(z1, .inr (5, [.ref z3, .ref z4, .ref z5, .ref z6, .ref z7, .int 0, .long 0, .int 1])), (z3, .inl (T 0, 8, .inl f34463)), (z4, .inl (T 0, 8, .inl f34464)), (z5, .inl (T 0, 8, .inl f34465)), (z6, .inl (T 0, 8, .inl f34600)), (z7, .inl (T 0, 4, .inl f34508)), (z2, .inr (1, [.ref z8, .ref z9, .ref z10, .ref z11, .int x34469, .int x34470, .int x34471, .int x34472])), (z8, .inl (T 0, 64, .inl f34473)), (z9, .inl (T 0, 64, .inl f34474)), (z10, .inl (T 0, 64, .inl f34475)), (z11, .inl (T 0, 64, .inl f34476))] H → va_D A [(z1, .inr (5, [.ref z3, .ref z4, .ref z5, .ref z6, .ref z7, .int 0, .long 0, .int 1])), (z3, .inl (T 0, 8, .inl f34463)), (z4, .inl (T 0, 8, .inl f34464)), (z5, .inl (T 0, 8, .inl f34465)), (z6, .inl (T 0, 8, .inl f34600)), (z7, .inl (T 0, 4, .inl f34508)), (z2, .inr (1, [.ref z8, .ref z9, .ref z10, .ref z11, .int x34469, .int x34470, .int x34471, .int x34472])), (z8, .inl (T 0, 64, .inl f34473)), (z9, .inl (T 0, 64, .inl f34474)), (z10, .inl (T 0, 64, .inl f34475)), (z11, .inl (T 0, 64, .inl f34476))] → va_S A s.heap H locs → lv_has ls 6 [(5, .int x34599), (4, .int x34479), (0, .ref z1), (1, .ref z2), (2, .int p2), (3, .int p3)] → W p l e { frames := 2, cells := 0, slots := 0, locals := 40 } s m args below meth c H locs 0 0 (MQ below ((Qv2 (S := va_W) (fun (u0 : va_W) => B_X5 T z1 z3 z4 z5 z6 z7 u0) (fun (u0 : va_W) => u0 ++ (([(z2, .inr (1, [.ref z8, .ref z9, .ref z10, .ref z11, .int x34469, .int x34470, .int x34471, .int x34472])), (z8, .inl (T 0, 64, .inl f34473)), (z9, .inl (T 0, 64, .inl f34474)), (z10, .inl (T 0, 64, .inl f34475)), (z11, .inl (T 0, 64, .inl f34476))] : va_W))) D) A) args s 0 0 A) (F0 m 69 ls []) := by
          intro n
          induction n with
          | zero =>
            intro x34599 f34600 H locs ls hx34599 hms hP hD hS hl
            exact absurd hms (Nat.not_lt_zero _)
          | succ n ih =>
            intro x34599 f34600 H locs ls hx34599 hms hP hD hS hl
            refine lv_iload hx hb dX5_follow_69 (lv_at hl 0 rfl) ?_
            refine lv_iload hx hb dX5_follow_71 (lv_at hl 1 rfl) ?_
            refine lv_icmp_ge (tgt := 109) hx hb dX5_follow_73 (by decide) (fun c34610 => ?_) (fun c34610 => ?_)
            · skip
              have kc34610 : x34479.toInt ≤ x34599.toInt := le_ti rfl rfl c34610
              refine lv_iconst (v := 0) hx hb dX5_follow_109 (by decide) ?_
              refine lv_istore (lv' := [(5, .int 0), (4, .int x34479), (0, .ref z1), (1, .ref z2), (2, .int p2), (3, .int p3)]) hx hb dX5_follow_110 hl (by decide) rfl (fun ls hl => ?_)
              have L34674 : ∀ (n : Nat) (x34641 : Int32) (x34642 : Int32) (x34643 : Int64) (f34644 : Nat → Int32) (f34645 : Nat → Int32) (f34646 : Nat → Int32) (f34648 : Nat → Int32) (f34649 : Nat → Int32) (H : Heap) (locs : List Loc) (ls : Array Slot), (0 ≤ x34641.toInt ∧ x34641.toInt ≤ 11) → (0 ≤ x34642.toInt ∧ x34642.toInt ≤ 8) → Bd (0) (3) f34646 → (x34642.toInt ≤ x34641.toInt) → (12 - x34641.toInt).toNat < n → va_P D vwCl [(z1, .inr (5, [.ref z3, .ref z4, .ref z5, .ref z6, .ref z7, .int x34642, .long x34643, .int 1])), (z3, .inl (T 0, 8, .inl f34644)), (z4, .inl (T 0, 8, .inl f34645)), (z5, .inl (T 0, 8, .inl f34646)), (z6, .inl (T 0, 8, .inl f34648)), (z7, .inl (T 0, 4, .inl f34649)), (z2, .inr (1, [.ref z8, .ref z9, .ref z10, .ref z11, .int x34469, .int x34470, .int x34471, .int x34472])), (z8, .inl (T 0, 64, .inl f34473)), (z9, .inl (T 0, 64, .inl f34474)), (z10, .inl (T 0, 64, .inl f34475)), (z11, .inl (T 0, 64, .inl f34476))] H → va_D A [(z1, .inr (5, [.ref z3, .ref z4, .ref z5, .ref z6, .ref z7, .int x34642, .long x34643, .int 1])), (z3, .inl (T 0, 8, .inl f34644)), (z4, .inl (T 0, 8, .inl f34645)), (z5, .inl (T 0, 8, .inl f34646)), (z6, .inl (T 0, 8, .inl f34648)), (z7, .inl (T 0, 4, .inl f34649)), (z2, .inr (1, [.ref z8, .ref z9, .ref z10, .ref z11, .int x34469, .int x34470, .int x34471, .int x34472])), (z8, .inl (T 0, 64, .inl f34473)), (z9, .inl (T 0, 64, .inl f34474)), (z10, .inl (T 0, 64, .inl f34475)), (z11, .inl (T 0, 64, .inl f34476))] → va_S A s.heap H locs → lv_has ls 6 [(5, .int x34641), (4, .int x34479), (0, .ref z1), (1, .ref z2), (2, .int p2), (3, .int p3)] → W p l e { frames := 2, cells := 0, slots := 0, locals := 40 } s m args below meth c H locs 0 0 (MQ below ((Qv2 (S := va_W) (fun (u0 : va_W) => B_X5 T z1 z3 z4 z5 z6 z7 u0) (fun (u0 : va_W) => u0 ++ (([(z2, .inr (1, [.ref z8, .ref z9, .ref z10, .ref z11, .int x34469, .int x34470, .int x34471, .int x34472])), (z8, .inl (T 0, 64, .inl f34473)), (z9, .inl (T 0, 64, .inl f34474)), (z10, .inl (T 0, 64, .inl f34475)), (z11, .inl (T 0, 64, .inl f34476))] : va_W))) D) A) args s 0 0 A) (F0 m 112 ls []) := by
                intro n
                induction n with
                | zero =>
                  intro x34641 x34642 x34643 f34644 f34645 f34646 f34648 f34649 H locs ls hx34641 hx34642 hb34647 hr34675 hms hP hD hS hl
                  exact absurd hms (Nat.not_lt_zero _)
                | succ n ih =>
                  intro x34641 x34642 x34643 f34644 f34645 f34646 f34648 f34649 H locs ls hx34641 hx34642 hb34647 hr34675 hms hP hD hS hl
                  refine lv_iload hx hb dX5_follow_112 (lv_at hl 0 rfl) ?_
                  refine lv_iload hx hb dX5_follow_114 (lv_at hl 1 rfl) ?_
                  refine lv_icmp_ge (tgt := 201) hx hb dX5_follow_116 (by decide) (fun c34676 => ?_) (fun c34676 => ?_)
                  · skip
                    have kc34676 : x34479.toInt ≤ x34641.toInt := le_ti rfl rfl c34676
                    exact r_vret2 ([(z1, .inr (5, [.ref z3, .ref z4, .ref z5, .ref z6, .ref z7, .int x34642, .long x34643, .int 1])), (z3, .inl (T 0, 8, .inl f34644)), (z4, .inl (T 0, 8, .inl f34645)), (z5, .inl (T 0, 8, .inl f34646)), (z6, .inl (T 0, 8, .inl f34648)), (z7, .inl (T 0, 4, .inl f34649))] : va_W) C0 hr hlocks hS (Nat.le_refl _) (Nat.le_refl _) dX5_follow_201 ⟨x34642, x34643, 1, f34644, f34645, f34646, f34648, f34649, rfl, ⟨by omega, by omega⟩, ⟨by decide, by decide⟩, hb34647⟩ (hP.sub (ws' := [(z1, .inr (5, [.ref z3, .ref z4, .ref z5, .ref z6, .ref z7, .int x34642, .long x34643, .int 1])), (z3, .inl (T 0, 8, .inl f34644)), (z4, .inl (T 0, 8, .inl f34645)), (z5, .inl (T 0, 8, .inl f34646)), (z6, .inl (T 0, 8, .inl f34648)), (z7, .inl (T 0, 4, .inl f34649)), (z2, .inr (1, [.ref z8, .ref z9, .ref z10, .ref z11, .int x34469, .int x34470, .int x34471, .int x34472])), (z8, .inl (T 0, 64, .inl f34473)), (z9, .inl (T 0, 64, .inl f34474)), (z10, .inl (T 0, 64, .inl f34475)), (z11, .inl (T 0, 64, .inl f34476))]) [0, 1, 2, 3, 4, 5, 6, 7, 8, 9, 10] rfl) (hD.sub (ws' := [(z1, .inr (5, [.ref z3, .ref z4, .ref z5, .ref z6, .ref z7, .int x34642, .long x34643, .int 1])), (z3, .inl (T 0, 8, .inl f34644)), (z4, .inl (T 0, 8, .inl f34645)), (z5, .inl (T 0, 8, .inl f34646)), (z6, .inl (T 0, 8, .inl f34648)), (z7, .inl (T 0, 4, .inl f34649)), (z2, .inr (1, [.ref z8, .ref z9, .ref z10, .ref z11, .int x34469, .int x34470, .int x34471, .int x34472])), (z8, .inl (T 0, 64, .inl f34473)), (z9, .inl (T 0, 64, .inl f34474)), (z10, .inl (T 0, 64, .inl f34475)), (z11, .inl (T 0, 64, .inl f34476))]) [0, 1, 2, 3, 4, 5, 6, 7, 8, 9, 10] (by decide +kernel) rfl)
                  · skip
                    have kc34676 : x34641.toInt < x34479.toInt := nle_ti rfl rfl c34676
                    refine lv_aload_n hx hb dX5_follow_119 rfl (lv_at hl 2 rfl) ?_
                    refine lv_iload hx hb dX5_follow_120 (lv_at hl 0 rfl) ?_
                    refine lv_iload hx hb dX5_follow_122 (lv_at hl 1 rfl) ?_
                    refine r_callv2 (wr := [(z2, .inr (1, [.ref z8, .ref z9, .ref z10, .ref z11, .int x34469, .int x34470, .int x34471, .int x34472])), (z8, .inl (T 0, 64, .inl f34473)), (z9, .inl (T 0, 64, .inl f34474)), (z10, .inl (T 0, 64, .inl f34475)), (z11, .inl (T 0, 64, .inl f34476))]) (r_runV2 (As := [.int x34641, .int x34479]) (rest := []) (wc := [(z1, .inr (5, [.ref z3, .ref z4, .ref z5, .ref z6, .ref z7, .int x34642, .long x34643, .int 1])), (z3, .inl (T 0, 8, .inl f34644)), (z4, .inl (T 0, 8, .inl f34645)), (z5, .inl (T 0, 8, .inl f34646)), (z6, .inl (T 0, 8, .inl f34648)), (z7, .inl (T 0, 4, .inl f34649))]) (ci := 5) C0 hE hStr hS (va_free (wc := [(z1, .inr (5, [.ref z3, .ref z4, .ref z5, .ref z6, .ref z7, .int x34642, .long x34643, .int 1])), (z3, .inl (T 0, 8, .inl f34644)), (z4, .inl (T 0, 8, .inl f34645)), (z5, .inl (T 0, 8, .inl f34646)), (z6, .inl (T 0, 8, .inl f34648)), (z7, .inl (T 0, 4, .inl f34649))]) hD hS hA [0, 1, 2, 3, 4, 5] rfl) (g_X5_open_33479 l D T sq sv H.size z1 z3 z4 z5 z6 z7 x34641 x34479 [(z1, .inr (5, [.ref z3, .ref z4, .ref z5, .ref z6, .ref z7, .int x34642, .long x34643, .int 1])), (z3, .inl (T 0, 8, .inl f34644)), (z4, .inl (T 0, 8, .inl f34645)), (z5, .inl (T 0, 8, .inl f34646)), (z6, .inl (T 0, 8, .inl f34648)), (z7, .inl (T 0, 4, .inl f34649))] (⟨x34642, x34643, 1, f34644, f34645, f34646, f34648, f34649, rfl, ⟨by omega, by omega⟩, ⟨by decide, by decide⟩, hb34647⟩) (⟨by omega, by omega⟩) (⟨by omega, by omega⟩) (fun v hv => by have e := fv_inj hv; subst e; exact ⟨by omega, by omega⟩)) mw_704 mw_705 mw_1293 mw_8 mw_706 dn_1608 rfl rfl ⟨Nat.le_of_ble_eq_true rfl, Nat.le_of_ble_eq_true rfl⟩ (hP.sub (ws' := [(z1, .inr (5, [.ref z3, .ref z4, .ref z5, .ref z6, .ref z7, .int x34642, .long x34643, .int 1])), (z3, .inl (T 0, 8, .inl f34644)), (z4, .inl (T 0, 8, .inl f34645)), (z5, .inl (T 0, 8, .inl f34646)), (z6, .inl (T 0, 8, .inl f34648)), (z7, .inl (T 0, 4, .inl f34649))]) [0, 1, 2, 3, 4, 5] rfl) (hD.sub (ws' := [(z1, .inr (5, [.ref z3, .ref z4, .ref z5, .ref z6, .ref z7, .int x34642, .long x34643, .int 1])), (z3, .inl (T 0, 8, .inl f34644)), (z4, .inl (T 0, 8, .inl f34645)), (z5, .inl (T 0, 8, .inl f34646)), (z6, .inl (T 0, 8, .inl f34648)), (z7, .inl (T 0, 4, .inl f34649))]) [0, 1, 2, 3, 4, 5] (by decide +kernel) rfl) rfl rfl rfl hl.1 rfl (Nat.le_of_ble_eq_true rfl) dX5_follow_124 ⟨Nat.le_of_ble_eq_true rfl, Nat.le_of_ble_eq_true rfl⟩) hP hD hS hA [0, 1, 2, 3, 4, 5] [6, 7, 8, 9, 10] rfl rfl (by decide +kernel) (by decide +kernel) (fun u H locs hq hP hD hS => ?_)
                    obtain ⟨u34700, rfl⟩ : ∃ z, z = u := ⟨_, rfl⟩
                    obtain ⟨hm34701, hkhm34701_5, hkhm34701_6, hkhm34701_7⟩ := hq
                    obtain ⟨x34702, x34703, x34704, f34705, f34706, f34707, f34709, f34710, rfl, hx34702, hx34704, hb34708⟩ := hm34701
                    have hkhm34701_5 : x34642 = x34702 := (fv_inj hkhm34701_5).symm
                    subst hkhm34701_5
                    have hkhm34701_6 : x34643 = x34703 := (fv_injL hkhm34701_6).symm
                    subst hkhm34701_6
                    have hkhm34701_7 : 1 = x34704 := (fv_inj hkhm34701_7).symm
                    subst hkhm34701_7
                    have hP : va_P D vwCl [(z2, .inr (1, [.ref z8, .ref z9, .ref z10, .ref z11, .int x34469, .int x34470, .int x34471, .int x34472])), (z8, .inl (T 0, 64, .inl f34473)), (z9, .inl (T 0, 64, .inl f34474)), (z10, .inl (T 0, 64, .inl f34475)), (z11, .inl (T 0, 64, .inl f34476)), (z1, .inr (5, [.ref z3, .ref z4, .ref z5, .ref z6, .ref z7, .int x34642, .long x34643, .int 1])), (z3, .inl (T 0, 8, .inl f34705)), (z4, .inl (T 0, 8, .inl f34706)), (z5, .inl (T 0, 8, .inl f34707)), (z6, .inl (T 0, 8, .inl f34709)), (z7, .inl (T 0, 4, .inl f34710))] H := hP
                    have hD : va_D A [(z2, .inr (1, [.ref z8, .ref z9, .ref z10, .ref z11, .int x34469, .int x34470, .int x34471, .int x34472])), (z8, .inl (T 0, 64, .inl f34473)), (z9, .inl (T 0, 64, .inl f34474)), (z10, .inl (T 0, 64, .inl f34475)), (z11, .inl (T 0, 64, .inl f34476)), (z1, .inr (5, [.ref z3, .ref z4, .ref z5, .ref z6, .ref z7, .int x34642, .long x34643, .int 1])), (z3, .inl (T 0, 8, .inl f34705)), (z4, .inl (T 0, 8, .inl f34706)), (z5, .inl (T 0, 8, .inl f34707)), (z6, .inl (T 0, 8, .inl f34709)), (z7, .inl (T 0, 4, .inl f34710))] := hD
                    refine W.widen (k := 0) (n := 0) (Nat.le_refl _) (Nat.le_refl _) ?_
                    refine lv_aload_n hx hb dX5_follow_127 rfl (lv_at hl 2 rfl) ?_
                    refine r_get (v := .ref z3) C0 hE ffX5_0 mw_150 hP 5 rfl rfl dX5_follow_128 ?_
                    refine lv_aload_n hx hb dX5_follow_131 rfl (lv_at hl 2 rfl) ?_
                    refine r_get (v := .int x34642) C0 hE ffX5_5 mw_158 hP 5 rfl rfl dX5_follow_132 ?_
                    refine lv_iload_n hx hb dX5_follow_135 rfl (lv_at hl 4 rfl) ?_
                    have J34715 : ∀ (x34714 : Int32) (H : Heap) (locs : List Loc) (ls : Array Slot), (-7 ≤ x34714.toInt ∧ x34714.toInt ≤ 7) → va_P D vwCl [(z2, .inr (1, [.ref z8, .ref z9, .ref z10, .ref z11, .int x34469, .int x34470, .int x34471, .int x34472])), (z8, .inl (T 0, 64, .inl f34473)), (z9, .inl (T 0, 64, .inl f34474)), (z10, .inl (T 0, 64, .inl f34475)), (z11, .inl (T 0, 64, .inl f34476)), (z1, .inr (5, [.ref z3, .ref z4, .ref z5, .ref z6, .ref z7, .int x34642, .long x34643, .int 1])), (z3, .inl (T 0, 8, .inl f34705)), (z4, .inl (T 0, 8, .inl f34706)), (z5, .inl (T 0, 8, .inl f34707)), (z6, .inl (T 0, 8, .inl f34709)), (z7, .inl (T 0, 4, .inl f34710))] H → va_D A [(z2, .inr (1, [.ref z8, .ref z9, .ref z10, .ref z11, .int x34469, .int x34470, .int x34471, .int x34472])), (z8, .inl (T 0, 64, .inl f34473)), (z9, .inl (T 0, 64, .inl f34474)), (z10, .inl (T 0, 64, .inl f34475)), (z11, .inl (T 0, 64, .inl f34476)), (z1, .inr (5, [.ref z3, .ref z4, .ref z5, .ref z6, .ref z7, .int x34642, .long x34643, .int 1])), (z3, .inl (T 0, 8, .inl f34705)), (z4, .inl (T 0, 8, .inl f34706)), (z5, .inl (T 0, 8, .inl f34707)), (z6, .inl (T 0, 8, .inl f34709)), (z7, .inl (T 0, 4, .inl f34710))] → va_S A s.heap H locs → lv_has ls 6 [(5, .int x34641), (4, .int x34479), (0, .ref z1), (1, .ref z2), (2, .int p2), (3, .int p3)] → W p l e { frames := 2, cells := 0, slots := 0, locals := 40 } s m args below meth c H locs 0 0 (MQ below ((Qv2 (S := va_W) (fun (u0 : va_W) => B_X5 T z1 z3 z4 z5 z6 z7 u0) (fun (u0 : va_W) => u0 ++ (([(z2, .inr (1, [.ref z8, .ref z9, .ref z10, .ref z11, .int x34469, .int x34470, .int x34471, .int x34472])), (z8, .inl (T 0, 64, .inl f34473)), (z9, .inl (T 0, 64, .inl f34474)), (z10, .inl (T 0, 64, .inl f34475)), (z11, .inl (T 0, 64, .inl f34476))] : va_W))) D) A) args s 0 0 A) (F0 m 151 ls [.int x34714, .int x34642, .ref z3]) := by
                      intro x34714 H locs ls hx34714 hP hD hS hl
                      refine r_iastO hx hb hK hP hD hS 6 rfl (in_ti rfl (by omega) (by omega)) dX5_follow_151 (fun f34716 H locs hP hD hS => ?_)
                      have hP : va_P D vwCl [(z2, .inr (1, [.ref z8, .ref z9, .ref z10, .ref z11, .int x34469, .int x34470, .int x34471, .int x34472])), (z8, .inl (T 0, 64, .inl f34473)), (z9, .inl (T 0, 64, .inl f34474)), (z10, .inl (T 0, 64, .inl f34475)), (z11, .inl (T 0, 64, .inl f34476)), (z1, .inr (5, [.ref z3, .ref z4, .ref z5, .ref z6, .ref z7, .int x34642, .long x34643, .int 1])), (z3, .inl (T 0, 8, .inl f34716)), (z4, .inl (T 0, 8, .inl f34706)), (z5, .inl (T 0, 8, .inl f34707)), (z6, .inl (T 0, 8, .inl f34709)), (z7, .inl (T 0, 4, .inl f34710))] H := hP
                      have hD : va_D A [(z2, .inr (1, [.ref z8, .ref z9, .ref z10, .ref z11, .int x34469, .int x34470, .int x34471, .int x34472])), (z8, .inl (T 0, 64, .inl f34473)), (z9, .inl (T 0, 64, .inl f34474)), (z10, .inl (T 0, 64, .inl f34475)), (z11, .inl (T 0, 64, .inl f34476)), (z1, .inr (5, [.ref z3, .ref z4, .ref z5, .ref z6, .ref z7, .int x34642, .long x34643, .int 1])), (z3, .inl (T 0, 8, .inl f34716)), (z4, .inl (T 0, 8, .inl f34706)), (z5, .inl (T 0, 8, .inl f34707)), (z6, .inl (T 0, 8, .inl f34709)), (z7, .inl (T 0, 4, .inl f34710))] := hD
                      refine lv_aload_n hx hb dX5_follow_152 rfl (lv_at hl 2 rfl) ?_
                      refine lv_dup hx hb dX5_follow_153 rfl ?_
                      refine r_get (v := .long x34643) C0 hE ffX5_6 mw_160 hP 5 rfl rfl dX5_follow_154 ?_
                      refine lv_aload_n hx hb dX5_follow_157 rfl (lv_at hl 2 rfl) ?_
                      refine r_get (v := .ref z4) C0 hE ffX5_1 mw_152 hP 5 rfl rfl dX5_follow_158 ?_
                      refine lv_aload_n hx hb dX5_follow_161 rfl (lv_at hl 2 rfl) ?_
                      refine r_get (v := .int x34642) C0 hE ffX5_5 mw_158 hP 5 rfl rfl dX5_follow_162 ?_
                      refine va_iald hx hb hK hP 7 0 rfl rfl (in_ti rfl (by omega) (by omega)) dX5_follow_165 ?_
                      refine lv_topi (fun x34717 ex34717 => ?_)
                      refine lv_i2l hx hb dX5_follow_166 rfl ?_
                      refine lv_topl (fun x34718 ex34718 => ?_)
                      refine lv_ladd hx hb dX5_follow_167 ?_
                      refine lv_topl (fun x34719 ex34719 => ?_)
                      refine r_put (v := .long x34719) (ty := .long) (fs1 := [.ref z3, .ref z4, .ref z5, .ref z6, .ref z7, .int x34642, .long x34719, .int 1]) (ws1 := [(z2, .inr (1, [.ref z8, .ref z9, .ref z10, .ref z11, .int x34469, .int x34470, .int x34471, .int x34472])), (z8, .inl (T 0, 64, .inl f34473)), (z9, .inl (T 0, 64, .inl f34474)), (z10, .inl (T 0, 64, .inl f34475)), (z11, .inl (T 0, 64, .inl f34476)), (z1, .inr (5, [.ref z3, .ref z4, .ref z5, .ref z6, .ref z7, .int x34642, .long x34719, .int 1])), (z3, .inl (T 0, 8, .inl f34716)), (z4, .inl (T 0, 8, .inl f34706)), (z5, .inl (T 0, 8, .inl f34707)), (z6, .inl (T 0, 8, .inl f34709)), (z7, .inl (T 0, 4, .inl f34710))]) C0 hE ffX5_6 tyX5 tyX5_ok nmX5 mw_160 pf_1407 hP hD hS 5 rfl rfl rfl (Nat.le_of_ble_eq_true rfl) rfl rfl dX5_follow_168 (fun H locs hP hD hS => ?_)
                      refine lv_iload hx hb dX5_follow_171 (lv_at hl 0 rfl) ?_
                      refine lv_aload_n hx hb dX5_follow_173 rfl (lv_at hl 2 rfl) ?_
                      refine r_get (v := .ref z5) C0 hE ffX5_2 mw_154 hP 5 rfl rfl dX5_follow_174 ?_
                      refine lv_aload_n hx hb dX5_follow_177 rfl (lv_at hl 2 rfl) ?_
                      refine r_get (v := .int x34642) C0 hE ffX5_5 mw_158 hP 5 rfl rfl dX5_follow_178 ?_
                      refine va_iald hx hb hK hP 8 0 rfl rfl (in_ti rfl (by omega) (by omega)) dX5_follow_181 ?_
                      refine lv_topi (fun x34720 ex34720 => ?_)
                      have hx34720 : 0 ≤ x34720.toInt ∧ x34720.toInt ≤ 3 := by rw [ex34720]; exact hb34708 _
                      refine lv_iadd hx hb dX5_follow_182 ?_
                      refine lv_topi (fun x34721 ex34721 => ?_)
                      have hx34721 : x34721.toInt = x34641.toInt + x34720.toInt := ti_add ex34721 rfl rfl (by omega) (by omega)
                      refine lv_istore (lv' := [(5, .int x34721), (4, .int x34479), (0, .ref z1), (1, .ref z2), (2, .int p2), (3, .int p3)]) hx hb dX5_follow_183 hl (by decide) rfl (fun ls hl => ?_)
                      refine lv_aload_n hx hb dX5_follow_185 rfl (lv_at hl 2 rfl) ?_
                      refine lv_dup hx hb dX5_follow_186 rfl ?_
                      refine r_get (v := .int x34642) C0 hE ffX5_5 mw_158 hP 5 rfl rfl dX5_follow_187 ?_
                      refine lv_iconst (v := 1) hx hb dX5_follow_190 (by decide) ?_
                      refine lv_iadd hx hb dX5_follow_191 ?_
                      refine lv_topi (fun x34722 ex34722 => ?_)
                      have hx34722 : x34722.toInt = x34642.toInt + 1 := ti_add ex34722 rfl (by decide) (by omega) (by omega)
                      refine r_put (v := .int x34722) (ty := .int) (fs1 := [.ref z3, .ref z4, .ref z5, .ref z6, .ref z7, .int x34722, .long x34719, .int 1]) (ws1 := [(z2, .inr (1, [.ref z8, .ref z9, .ref z10, .ref z11, .int x34469, .int x34470, .int x34471, .int x34472])), (z8, .inl (T 0, 64, .inl f34473)), (z9, .inl (T 0, 64, .inl f34474)), (z10, .inl (T 0, 64, .inl f34475)), (z11, .inl (T 0, 64, .inl f34476)), (z1, .inr (5, [.ref z3, .ref z4, .ref z5, .ref z6, .ref z7, .int x34722, .long x34719, .int 1])), (z3, .inl (T 0, 8, .inl f34716)), (z4, .inl (T 0, 8, .inl f34706)), (z5, .inl (T 0, 8, .inl f34707)), (z6, .inl (T 0, 8, .inl f34709)), (z7, .inl (T 0, 4, .inl f34710))]) C0 hE ffX5_5 tyX5 tyX5_ok nmX5 mw_158 pf_1358 hP hD hS 5 rfl rfl rfl (Nat.le_of_ble_eq_true rfl) rfl rfl dX5_follow_192 (fun H locs hP hD hS => ?_)
                      obtain ⟨x34723, ex34723⟩ : ∃ y : Int32, y = x34721 + 1 := ⟨_, rfl⟩
                      have hx34723 : x34723.toInt = x34721.toInt + 1 := ti_add ex34723 rfl (by decide) (by omega) (by omega)
                      refine lv_iinc (v := x34723) (lv' := [(5, .int x34723), (4, .int x34479), (0, .ref z1), (1, .ref z2), (2, .int p2), (3, .int p3)]) hx hb dX5_follow_195 hl (k := 0) rfl (by rw [ex34723]; rfl) (by decide) rfl (fun ls hl => ?_)
                      refine lv_goto (tgt := 112) hx hb dX5_follow_198 (by decide) ?_
                      exact ih x34723 x34722 x34719 f34716 f34706 f34707 f34709 f34710 _ _ ls ⟨by omega, by omega⟩ ⟨by omega, by omega⟩ hb34708 (by omega) (by omega) (hP.sub (ws' := [(z1, .inr (5, [.ref z3, .ref z4, .ref z5, .ref z6, .ref z7, .int x34722, .long x34719, .int 1])), (z3, .inl (T 0, 8, .inl f34716)), (z4, .inl (T 0, 8, .inl f34706)), (z5, .inl (T 0, 8, .inl f34707)), (z6, .inl (T 0, 8, .inl f34709)), (z7, .inl (T 0, 4, .inl f34710)), (z2, .inr (1, [.ref z8, .ref z9, .ref z10, .ref z11, .int x34469, .int x34470, .int x34471, .int x34472])), (z8, .inl (T 0, 64, .inl f34473)), (z9, .inl (T 0, 64, .inl f34474)), (z10, .inl (T 0, 64, .inl f34475)), (z11, .inl (T 0, 64, .inl f34476))]) [5, 6, 7, 8, 9, 10, 0, 1, 2, 3, 4] rfl) (hD.sub (ws' := [(z1, .inr (5, [.ref z3, .ref z4, .ref z5, .ref z6, .ref z7, .int x34722, .long x34719, .int 1])), (z3, .inl (T 0, 8, .inl f34716)), (z4, .inl (T 0, 8, .inl f34706)), (z5, .inl (T 0, 8, .inl f34707)), (z6, .inl (T 0, 8, .inl f34709)), (z7, .inl (T 0, 4, .inl f34710)), (z2, .inr (1, [.ref z8, .ref z9, .ref z10, .ref z11, .int x34469, .int x34470, .int x34471, .int x34472])), (z8, .inl (T 0, 64, .inl f34473)), (z9, .inl (T 0, 64, .inl f34474)), (z10, .inl (T 0, 64, .inl f34475)), (z11, .inl (T 0, 64, .inl f34476))]) [5, 6, 7, 8, 9, 10, 0, 1, 2, 3, 4] (by decide +kernel) rfl) hS (lv_sub hl [0, 1, 2, 3, 4, 5] rfl)
                    refine lv_if_eq (tgt := 144) hx hb dX5_follow_136 (by decide) (fun c34711 => ?_) (fun c34711 => ?_)
                    · skip
                      have kc34711 : p2.toInt = 0 := eq_ti rfl (by decide) c34711
                      refine lv_iload hx hb dX5_follow_144 (lv_at hl 1 rfl) ?_
                      refine lv_iconst (v := 1) hx hb dX5_follow_146 (by decide) ?_
                      refine lv_isub hx hb dX5_follow_147 ?_
                      refine lv_topi (fun x34724 ex34724 => ?_)
                      have hx34724 : x34724.toInt = x34479.toInt - 1 := ti_sub ex34724 rfl (by decide) (by omega) (by omega)
                      refine lv_iload hx hb dX5_follow_148 (lv_at hl 0 rfl) ?_
                      refine lv_isub hx hb dX5_follow_150 ?_
                      refine lv_topi (fun x34725 ex34725 => ?_)
                      have hx34725 : x34725.toInt = x34724.toInt - x34641.toInt := ti_sub ex34725 rfl rfl (by omega) (by omega)
                      exact J34715 x34725 _ _ ls ⟨by omega, by omega⟩ (hP.sub (ws' := [(z2, .inr (1, [.ref z8, .ref z9, .ref z10, .ref z11, .int x34469, .int x34470, .int x34471, .int x34472])), (z8, .inl (T 0, 64, .inl f34473)), (z9, .inl (T 0, 64, .inl f34474)), (z10, .inl (T 0, 64, .inl f34475)), (z11, .inl (T 0, 64, .inl f34476)), (z1, .inr (5, [.ref z3, .ref z4, .ref z5, .ref z6, .ref z7, .int x34642, .long x34643, .int 1])), (z3, .inl (T 0, 8, .inl f34705)), (z4, .inl (T 0, 8, .inl f34706)), (z5, .inl (T 0, 8, .inl f34707)), (z6, .inl (T 0, 8, .inl f34709)), (z7, .inl (T 0, 4, .inl f34710))]) [0, 1, 2, 3, 4, 5, 6, 7, 8, 9, 10] rfl) (hD.sub (ws' := [(z2, .inr (1, [.ref z8, .ref z9, .ref z10, .ref z11, .int x34469, .int x34470, .int x34471, .int x34472])), (z8, .inl (T 0, 64, .inl f34473)), (z9, .inl (T 0, 64, .inl f34474)), (z10, .inl (T 0, 64, .inl f34475)), (z11, .inl (T 0, 64, .inl f34476)), (z1, .inr (5, [.ref z3, .ref z4, .ref z5, .ref z6, .ref z7, .int x34642, .long x34643, .int 1])), (z3, .inl (T 0, 8, .inl f34705)), (z4, .inl (T 0, 8, .inl f34706)), (z5, .inl (T 0, 8, .inl f34707)), (z6, .inl (T 0, 8, .inl f34709)), (z7, .inl (T 0, 4, .inl f34710))]) [0, 1, 2, 3, 4, 5, 6, 7, 8, 9, 10] (by decide +kernel) rfl) hS (lv_sub hl [0, 1, 2, 3, 4, 5] rfl)
                    · skip
                      have kc34711 : p2.toInt ≠ 0 := ne_ti rfl (by decide) c34711
                      have nzp2 : ¬ p2 = 0 := c34711
                      refine lv_iload hx hb dX5_follow_139 (lv_at hl 0 rfl) ?_
                      refine lv_goto (tgt := 151) hx hb dX5_follow_141 (by decide) ?_
                      exact J34715 x34641 _ _ ls ⟨by omega, by omega⟩ (hP.sub (ws' := [(z2, .inr (1, [.ref z8, .ref z9, .ref z10, .ref z11, .int x34469, .int x34470, .int x34471, .int x34472])), (z8, .inl (T 0, 64, .inl f34473)), (z9, .inl (T 0, 64, .inl f34474)), (z10, .inl (T 0, 64, .inl f34475)), (z11, .inl (T 0, 64, .inl f34476)), (z1, .inr (5, [.ref z3, .ref z4, .ref z5, .ref z6, .ref z7, .int x34642, .long x34643, .int 1])), (z3, .inl (T 0, 8, .inl f34705)), (z4, .inl (T 0, 8, .inl f34706)), (z5, .inl (T 0, 8, .inl f34707)), (z6, .inl (T 0, 8, .inl f34709)), (z7, .inl (T 0, 4, .inl f34710))]) [0, 1, 2, 3, 4, 5, 6, 7, 8, 9, 10] rfl) (hD.sub (ws' := [(z2, .inr (1, [.ref z8, .ref z9, .ref z10, .ref z11, .int x34469, .int x34470, .int x34471, .int x34472])), (z8, .inl (T 0, 64, .inl f34473)), (z9, .inl (T 0, 64, .inl f34474)), (z10, .inl (T 0, 64, .inl f34475)), (z11, .inl (T 0, 64, .inl f34476)), (z1, .inr (5, [.ref z3, .ref z4, .ref z5, .ref z6, .ref z7, .int x34642, .long x34643, .int 1])), (z3, .inl (T 0, 8, .inl f34705)), (z4, .inl (T 0, 8, .inl f34706)), (z5, .inl (T 0, 8, .inl f34707)), (z6, .inl (T 0, 8, .inl f34709)), (z7, .inl (T 0, 4, .inl f34710))]) [0, 1, 2, 3, 4, 5, 6, 7, 8, 9, 10] (by decide +kernel) rfl) hS (lv_sub hl [0, 1, 2, 3, 4, 5] rfl)
              have hl34726 : (0 : Int32).toInt = 0 := by decide
              exact L34674 _ 0 0 0 f34463 f34464 f34465 f34600 f34508 _ _ ls ⟨by decide, by decide⟩ ⟨by decide, by decide⟩ hb34466 (by omega) (Nat.lt_succ_self _) (hP.sub (ws' := [(z1, .inr (5, [.ref z3, .ref z4, .ref z5, .ref z6, .ref z7, .int 0, .long 0, .int 1])), (z3, .inl (T 0, 8, .inl f34463)), (z4, .inl (T 0, 8, .inl f34464)), (z5, .inl (T 0, 8, .inl f34465)), (z6, .inl (T 0, 8, .inl f34600)), (z7, .inl (T 0, 4, .inl f34508)), (z2, .inr (1, [.ref z8, .ref z9, .ref z10, .ref z11, .int x34469, .int x34470, .int x34471, .int x34472])), (z8, .inl (T 0, 64, .inl f34473)), (z9, .inl (T 0, 64, .inl f34474)), (z10, .inl (T 0, 64, .inl f34475)), (z11, .inl (T 0, 64, .inl f34476))]) [0, 1, 2, 3, 4, 5, 6, 7, 8, 9, 10] rfl) (hD.sub (ws' := [(z1, .inr (5, [.ref z3, .ref z4, .ref z5, .ref z6, .ref z7, .int 0, .long 0, .int 1])), (z3, .inl (T 0, 8, .inl f34463)), (z4, .inl (T 0, 8, .inl f34464)), (z5, .inl (T 0, 8, .inl f34465)), (z6, .inl (T 0, 8, .inl f34600)), (z7, .inl (T 0, 4, .inl f34508)), (z2, .inr (1, [.ref z8, .ref z9, .ref z10, .ref z11, .int x34469, .int x34470, .int x34471, .int x34472])), (z8, .inl (T 0, 64, .inl f34473)), (z9, .inl (T 0, 64, .inl f34474)), (z10, .inl (T 0, 64, .inl f34475)), (z11, .inl (T 0, 64, .inl f34476))]) [0, 1, 2, 3, 4, 5, 6, 7, 8, 9, 10] (by decide +kernel) rfl) hS (lv_sub hl [0, 1, 2, 3, 4, 5] rfl)
            · skip
              have kc34610 : x34599.toInt < x34479.toInt := nle_ti rfl rfl c34610
              refine lv_aload_n hx hb dX5_follow_76 rfl (lv_at hl 2 rfl) ?_
              refine r_get (v := .ref z6) C0 hE ffX5_3 mw_156 hP 0 rfl rfl dX5_follow_77 ?_
              refine lv_iload hx hb dX5_follow_80 (lv_at hl 0 rfl) ?_
              refine lv_aload_n hx hb dX5_follow_82 rfl (lv_at hl 3 rfl) ?_
              refine lv_iload_n hx hb dX5_follow_83 rfl (lv_at hl 4 rfl) ?_
              have J34731 : ∀ (x34730 : Int32) (H : Heap) (locs : List Loc) (ls : Array Slot), (0 ≤ x34730.toInt ∧ x34730.toInt ≤ 7) → va_P D vwCl [(z1, .inr (5, [.ref z3, .ref z4, .ref z5, .ref z6, .ref z7, .int 0, .long 0, .int 1])), (z3, .inl (T 0, 8, .inl f34463)), (z4, .inl (T 0, 8, .inl f34464)), (z5, .inl (T 0, 8, .inl f34465)), (z6, .inl (T 0, 8, .inl f34600)), (z7, .inl (T 0, 4, .inl f34508)), (z2, .inr (1, [.ref z8, .ref z9, .ref z10, .ref z11, .int x34469, .int x34470, .int x34471, .int x34472])), (z8, .inl (T 0, 64, .inl f34473)), (z9, .inl (T 0, 64, .inl f34474)), (z10, .inl (T 0, 64, .inl f34475)), (z11, .inl (T 0, 64, .inl f34476))] H → va_D A [(z1, .inr (5, [.ref z3, .ref z4, .ref z5, .ref z6, .ref z7, .int 0, .long 0, .int 1])), (z3, .inl (T 0, 8, .inl f34463)), (z4, .inl (T 0, 8, .inl f34464)), (z5, .inl (T 0, 8, .inl f34465)), (z6, .inl (T 0, 8, .inl f34600)), (z7, .inl (T 0, 4, .inl f34508)), (z2, .inr (1, [.ref z8, .ref z9, .ref z10, .ref z11, .int x34469, .int x34470, .int x34471, .int x34472])), (z8, .inl (T 0, 64, .inl f34473)), (z9, .inl (T 0, 64, .inl f34474)), (z10, .inl (T 0, 64, .inl f34475)), (z11, .inl (T 0, 64, .inl f34476))] → va_S A s.heap H locs → lv_has ls 6 [(5, .int x34599), (4, .int x34479), (0, .ref z1), (1, .ref z2), (2, .int p2), (3, .int p3)] → W p l e { frames := 2, cells := 0, slots := 0, locals := 40 } s m args below meth c H locs 0 0 (MQ below ((Qv2 (S := va_W) (fun (u0 : va_W) => B_X5 T z1 z3 z4 z5 z6 z7 u0) (fun (u0 : va_W) => u0 ++ (([(z2, .inr (1, [.ref z8, .ref z9, .ref z10, .ref z11, .int x34469, .int x34470, .int x34471, .int x34472])), (z8, .inl (T 0, 64, .inl f34473)), (z9, .inl (T 0, 64, .inl f34474)), (z10, .inl (T 0, 64, .inl f34475)), (z11, .inl (T 0, 64, .inl f34476))] : va_W))) D) A) args s 0 0 A) (F0 m 99 ls [.int x34730, .ref z2, .int x34599, .ref z6]) := by
                intro x34730 H locs ls hx34730 hP hD hS hl
                refine r_calli (wr := [(z1, .inr (5, [.ref z3, .ref z4, .ref z5, .ref z6, .ref z7, .int 0, .long 0, .int 1])), (z3, .inl (T 0, 8, .inl f34463)), (z4, .inl (T 0, 8, .inl f34464)), (z5, .inl (T 0, 8, .inl f34465)), (z6, .inl (T 0, 8, .inl f34600)), (z7, .inl (T 0, 4, .inl f34508))]) (r_runS2 (As := [.ref z2, .int x34730]) (rest := [.int x34599, .ref z6]) (wc := [(z2, .inr (1, [.ref z8, .ref z9, .ref z10, .ref z11, .int x34469, .int x34470, .int x34471, .int x34472])), (z8, .inl (T 0, 64, .inl f34473)), (z9, .inl (T 0, 64, .inl f34474)), (z10, .inl (T 0, 64, .inl f34475)), (z11, .inl (T 0, 64, .inl f34476))]) C0 hE hStr hS (va_free (wc := [(z2, .inr (1, [.ref z8, .ref z9, .ref z10, .ref z11, .int x34469, .int x34470, .int x34471, .int x34472])), (z8, .inl (T 0, 64, .inl f34473)), (z9, .inl (T 0, 64, .inl f34474)), (z10, .inl (T 0, 64, .inl f34475)), (z11, .inl (T 0, 64, .inl f34476))]) hD hS hA [6, 7, 8, 9, 10] rfl) (g_X5_holdOf_32994 l D T sq sv H.size z2 z8 z9 z10 z11 x34730 [(z2, .inr (1, [.ref z8, .ref z9, .ref z10, .ref z11, .int x34469, .int x34470, .int x34471, .int x34472])), (z8, .inl (T 0, 64, .inl f34473)), (z9, .inl (T 0, 64, .inl f34474)), (z10, .inl (T 0, 64, .inl f34475)), (z11, .inl (T 0, 64, .inl f34476))] (⟨x34469, x34470, x34471, x34472, f34473, f34474, f34475, f34476, rfl, ⟨by omega, by omega⟩, ⟨by omega, by omega⟩, ⟨by omega, by omega⟩⟩) (⟨by omega, by omega⟩)) mw_701 mw_702 mw_8 mw_703 dn_1607 rfl rfl ⟨Nat.le_of_ble_eq_true rfl, Nat.le_of_ble_eq_true rfl⟩ (hP.sub (ws' := [(z2, .inr (1, [.ref z8, .ref z9, .ref z10, .ref z11, .int x34469, .int x34470, .int x34471, .int x34472])), (z8, .inl (T 0, 64, .inl f34473)), (z9, .inl (T 0, 64, .inl f34474)), (z10, .inl (T 0, 64, .inl f34475)), (z11, .inl (T 0, 64, .inl f34476))]) [6, 7, 8, 9, 10] rfl) (hD.sub (ws' := [(z2, .inr (1, [.ref z8, .ref z9, .ref z10, .ref z11, .int x34469, .int x34470, .int x34471, .int x34472])), (z8, .inl (T 0, 64, .inl f34473)), (z9, .inl (T 0, 64, .inl f34474)), (z10, .inl (T 0, 64, .inl f34475)), (z11, .inl (T 0, 64, .inl f34476))]) [6, 7, 8, 9, 10] (by decide +kernel) rfl) hl.1 rfl (Nat.le_of_ble_eq_true rfl) dX5_follow_99 ⟨Nat.le_of_ble_eq_true rfl, Nat.le_of_ble_eq_true rfl⟩) hP hD hS hA [6, 7, 8, 9, 10] [0, 1, 2, 3, 4, 5] rfl rfl (by decide +kernel) (by decide +kernel) (fun x34732 u H locs hq hP hD hS => ?_)
                have hP : va_P D vwCl [(z1, .inr (5, [.ref z3, .ref z4, .ref z5, .ref z6, .ref z7, .int 0, .long 0, .int 1])), (z3, .inl (T 0, 8, .inl f34463)), (z4, .inl (T 0, 8, .inl f34464)), (z5, .inl (T 0, 8, .inl f34465)), (z6, .inl (T 0, 8, .inl f34600)), (z7, .inl (T 0, 4, .inl f34508)), (z2, .inr (1, [.ref z8, .ref z9, .ref z10, .ref z11, .int x34469, .int x34470, .int x34471, .int x34472])), (z8, .inl (T 0, 64, .inl f34473)), (z9, .inl (T 0, 64, .inl f34474)), (z10, .inl (T 0, 64, .inl f34475)), (z11, .inl (T 0, 64, .inl f34476))] H := hP
                have hD : va_D A [(z1, .inr (5, [.ref z3, .ref z4, .ref z5, .ref z6, .ref z7, .int 0, .long 0, .int 1])), (z3, .inl (T 0, 8, .inl f34463)), (z4, .inl (T 0, 8, .inl f34464)), (z5, .inl (T 0, 8, .inl f34465)), (z6, .inl (T 0, 8, .inl f34600)), (z7, .inl (T 0, 4, .inl f34508)), (z2, .inr (1, [.ref z8, .ref z9, .ref z10, .ref z11, .int x34469, .int x34470, .int x34471, .int x34472])), (z8, .inl (T 0, 64, .inl f34473)), (z9, .inl (T 0, 64, .inl f34474)), (z10, .inl (T 0, 64, .inl f34475)), (z11, .inl (T 0, 64, .inl f34476))] := hD
                refine W.widen (k := 0) (n := 0) (Nat.le_refl _) (Nat.le_refl _) ?_
                refine r_iastO hx hb hK hP hD hS 4 rfl (in_ti rfl (by omega) (by omega)) dX5_follow_102 (fun f34733 H locs hP hD hS => ?_)
                have hP : va_P D vwCl [(z1, .inr (5, [.ref z3, .ref z4, .ref z5, .ref z6, .ref z7, .int 0, .long 0, .int 1])), (z3, .inl (T 0, 8, .inl f34463)), (z4, .inl (T 0, 8, .inl f34464)), (z5, .inl (T 0, 8, .inl f34465)), (z6, .inl (T 0, 8, .inl f34733)), (z7, .inl (T 0, 4, .inl f34508)), (z2, .inr (1, [.ref z8, .ref z9, .ref z10, .ref z11, .int x34469, .int x34470, .int x34471, .int x34472])), (z8, .inl (T 0, 64, .inl f34473)), (z9, .inl (T 0, 64, .inl f34474)), (z10, .inl (T 0, 64, .inl f34475)), (z11, .inl (T 0, 64, .inl f34476))] H := hP
                have hD : va_D A [(z1, .inr (5, [.ref z3, .ref z4, .ref z5, .ref z6, .ref z7, .int 0, .long 0, .int 1])), (z3, .inl (T 0, 8, .inl f34463)), (z4, .inl (T 0, 8, .inl f34464)), (z5, .inl (T 0, 8, .inl f34465)), (z6, .inl (T 0, 8, .inl f34733)), (z7, .inl (T 0, 4, .inl f34508)), (z2, .inr (1, [.ref z8, .ref z9, .ref z10, .ref z11, .int x34469, .int x34470, .int x34471, .int x34472])), (z8, .inl (T 0, 64, .inl f34473)), (z9, .inl (T 0, 64, .inl f34474)), (z10, .inl (T 0, 64, .inl f34475)), (z11, .inl (T 0, 64, .inl f34476))] := hD
                obtain ⟨x34734, ex34734⟩ : ∃ y : Int32, y = x34599 + 1 := ⟨_, rfl⟩
                have hx34734 : x34734.toInt = x34599.toInt + 1 := ti_add ex34734 rfl (by decide) (by omega) (by omega)
                refine lv_iinc (v := x34734) (lv' := [(5, .int x34734), (4, .int x34479), (0, .ref z1), (1, .ref z2), (2, .int p2), (3, .int p3)]) hx hb dX5_follow_103 hl (k := 0) rfl (by rw [ex34734]; rfl) (by decide) rfl (fun ls hl => ?_)
                refine lv_goto (tgt := 69) hx hb dX5_follow_106 (by decide) ?_
                exact ih x34734 f34733 _ _ ls ⟨by omega, by omega⟩ (by omega) (hP.sub (ws' := [(z1, .inr (5, [.ref z3, .ref z4, .ref z5, .ref z6, .ref z7, .int 0, .long 0, .int 1])), (z3, .inl (T 0, 8, .inl f34463)), (z4, .inl (T 0, 8, .inl f34464)), (z5, .inl (T 0, 8, .inl f34465)), (z6, .inl (T 0, 8, .inl f34733)), (z7, .inl (T 0, 4, .inl f34508)), (z2, .inr (1, [.ref z8, .ref z9, .ref z10, .ref z11, .int x34469, .int x34470, .int x34471, .int x34472])), (z8, .inl (T 0, 64, .inl f34473)), (z9, .inl (T 0, 64, .inl f34474)), (z10, .inl (T 0, 64, .inl f34475)), (z11, .inl (T 0, 64, .inl f34476))]) [0, 1, 2, 3, 4, 5, 6, 7, 8, 9, 10] rfl) (hD.sub (ws' := [(z1, .inr (5, [.ref z3, .ref z4, .ref z5, .ref z6, .ref z7, .int 0, .long 0, .int 1])), (z3, .inl (T 0, 8, .inl f34463)), (z4, .inl (T 0, 8, .inl f34464)), (z5, .inl (T 0, 8, .inl f34465)), (z6, .inl (T 0, 8, .inl f34733)), (z7, .inl (T 0, 4, .inl f34508)), (z2, .inr (1, [.ref z8, .ref z9, .ref z10, .ref z11, .int x34469, .int x34470, .int x34471, .int x34472])), (z8, .inl (T 0, 64, .inl f34473)), (z9, .inl (T 0, 64, .inl f34474)), (z10, .inl (T 0, 64, .inl f34475)), (z11, .inl (T 0, 64, .inl f34476))]) [0, 1, 2, 3, 4, 5, 6, 7, 8, 9, 10] (by decide +kernel) rfl) hS (lv_sub hl [0, 1, 2, 3, 4, 5] rfl)
              refine lv_if_eq (tgt := 92) hx hb dX5_follow_84 (by decide) (fun c34727 => ?_) (fun c34727 => ?_)
              · skip
                have kc34727 : p2.toInt = 0 := eq_ti rfl (by decide) c34727
                refine lv_iload hx hb dX5_follow_92 (lv_at hl 1 rfl) ?_
                refine lv_iconst (v := 1) hx hb dX5_follow_94 (by decide) ?_
                refine lv_isub hx hb dX5_follow_95 ?_
                refine lv_topi (fun x34735 ex34735 => ?_)
                have hx34735 : x34735.toInt = x34479.toInt - 1 := ti_sub ex34735 rfl (by decide) (by omega) (by omega)
                refine lv_iload hx hb dX5_follow_96 (lv_at hl 0 rfl) ?_
                refine lv_isub hx hb dX5_follow_98 ?_
                refine lv_topi (fun x34736 ex34736 => ?_)
                have hx34736 : x34736.toInt = x34735.toInt - x34599.toInt := ti_sub ex34736 rfl rfl (by omega) (by omega)
                exact J34731 x34736 _ _ ls ⟨by omega, by omega⟩ (hP.sub (ws' := [(z1, .inr (5, [.ref z3, .ref z4, .ref z5, .ref z6, .ref z7, .int 0, .long 0, .int 1])), (z3, .inl (T 0, 8, .inl f34463)), (z4, .inl (T 0, 8, .inl f34464)), (z5, .inl (T 0, 8, .inl f34465)), (z6, .inl (T 0, 8, .inl f34600)), (z7, .inl (T 0, 4, .inl f34508)), (z2, .inr (1, [.ref z8, .ref z9, .ref z10, .ref z11, .int x34469, .int x34470, .int x34471, .int x34472])), (z8, .inl (T 0, 64, .inl f34473)), (z9, .inl (T 0, 64, .inl f34474)), (z10, .inl (T 0, 64, .inl f34475)), (z11, .inl (T 0, 64, .inl f34476))]) [0, 1, 2, 3, 4, 5, 6, 7, 8, 9, 10] rfl) (hD.sub (ws' := [(z1, .inr (5, [.ref z3, .ref z4, .ref z5, .ref z6, .ref z7, .int 0, .long 0, .int 1])), (z3, .inl (T 0, 8, .inl f34463)), (z4, .inl (T 0, 8, .inl f34464)), (z5, .inl (T 0, 8, .inl f34465)), (z6, .inl (T 0, 8, .inl f34600)), (z7, .inl (T 0, 4, .inl f34508)), (z2, .inr (1, [.ref z8, .ref z9, .ref z10, .ref z11, .int x34469, .int x34470, .int x34471, .int x34472])), (z8, .inl (T 0, 64, .inl f34473)), (z9, .inl (T 0, 64, .inl f34474)), (z10, .inl (T 0, 64, .inl f34475)), (z11, .inl (T 0, 64, .inl f34476))]) [0, 1, 2, 3, 4, 5, 6, 7, 8, 9, 10] (by decide +kernel) rfl) hS (lv_sub hl [0, 1, 2, 3, 4, 5] rfl)
              · skip
                have kc34727 : p2.toInt ≠ 0 := ne_ti rfl (by decide) c34727
                have nzp2 : ¬ p2 = 0 := c34727
                refine lv_iload hx hb dX5_follow_87 (lv_at hl 0 rfl) ?_
                refine lv_goto (tgt := 99) hx hb dX5_follow_89 (by decide) ?_
                exact J34731 x34599 _ _ ls ⟨by omega, by omega⟩ (hP.sub (ws' := [(z1, .inr (5, [.ref z3, .ref z4, .ref z5, .ref z6, .ref z7, .int 0, .long 0, .int 1])), (z3, .inl (T 0, 8, .inl f34463)), (z4, .inl (T 0, 8, .inl f34464)), (z5, .inl (T 0, 8, .inl f34465)), (z6, .inl (T 0, 8, .inl f34600)), (z7, .inl (T 0, 4, .inl f34508)), (z2, .inr (1, [.ref z8, .ref z9, .ref z10, .ref z11, .int x34469, .int x34470, .int x34471, .int x34472])), (z8, .inl (T 0, 64, .inl f34473)), (z9, .inl (T 0, 64, .inl f34474)), (z10, .inl (T 0, 64, .inl f34475)), (z11, .inl (T 0, 64, .inl f34476))]) [0, 1, 2, 3, 4, 5, 6, 7, 8, 9, 10] rfl) (hD.sub (ws' := [(z1, .inr (5, [.ref z3, .ref z4, .ref z5, .ref z6, .ref z7, .int 0, .long 0, .int 1])), (z3, .inl (T 0, 8, .inl f34463)), (z4, .inl (T 0, 8, .inl f34464)), (z5, .inl (T 0, 8, .inl f34465)), (z6, .inl (T 0, 8, .inl f34600)), (z7, .inl (T 0, 4, .inl f34508)), (z2, .inr (1, [.ref z8, .ref z9, .ref z10, .ref z11, .int x34469, .int x34470, .int x34471, .int x34472])), (z8, .inl (T 0, 64, .inl f34473)), (z9, .inl (T 0, 64, .inl f34474)), (z10, .inl (T 0, 64, .inl f34475)), (z11, .inl (T 0, 64, .inl f34476))]) [0, 1, 2, 3, 4, 5, 6, 7, 8, 9, 10] (by decide +kernel) rfl) hS (lv_sub hl [0, 1, 2, 3, 4, 5] rfl)
        exact L34609 _ 0 f34467 _ _ ls ⟨by decide, by decide⟩ (Nat.lt_succ_self _) (hP.sub (ws' := [(z1, .inr (5, [.ref z3, .ref z4, .ref z5, .ref z6, .ref z7, .int 0, .long 0, .int 1])), (z3, .inl (T 0, 8, .inl f34463)), (z4, .inl (T 0, 8, .inl f34464)), (z5, .inl (T 0, 8, .inl f34465)), (z6, .inl (T 0, 8, .inl f34467)), (z7, .inl (T 0, 4, .inl f34508)), (z2, .inr (1, [.ref z8, .ref z9, .ref z10, .ref z11, .int x34469, .int x34470, .int x34471, .int x34472])), (z8, .inl (T 0, 64, .inl f34473)), (z9, .inl (T 0, 64, .inl f34474)), (z10, .inl (T 0, 64, .inl f34475)), (z11, .inl (T 0, 64, .inl f34476))]) [0, 1, 2, 3, 4, 5, 6, 7, 8, 9, 10] rfl) (hD.sub (ws' := [(z1, .inr (5, [.ref z3, .ref z4, .ref z5, .ref z6, .ref z7, .int 0, .long 0, .int 1])), (z3, .inl (T 0, 8, .inl f34463)), (z4, .inl (T 0, 8, .inl f34464)), (z5, .inl (T 0, 8, .inl f34465)), (z6, .inl (T 0, 8, .inl f34467)), (z7, .inl (T 0, 4, .inl f34508)), (z2, .inr (1, [.ref z8, .ref z9, .ref z10, .ref z11, .int x34469, .int x34470, .int x34471, .int x34472])), (z8, .inl (T 0, 64, .inl f34473)), (z9, .inl (T 0, 64, .inl f34474)), (z10, .inl (T 0, 64, .inl f34475)), (z11, .inl (T 0, 64, .inl f34476))]) [0, 1, 2, 3, 4, 5, 6, 7, 8, 9, 10] (by decide +kernel) rfl) hS (lv_sub hl [0, 1, 2, 3, 4, 5] rfl)
      · skip
        have kc34516 : x34507.toInt < 4 := nle_ti (by decide) rfl c34516
        refine lv_aload_n hx hb dX5_follow_44 rfl (lv_at hl 2 rfl) ?_
        refine r_get (v := .ref z7) C0 hE ffX5_4 mw_157 hP 0 rfl rfl dX5_follow_45 ?_
        refine lv_iload hx hb dX5_follow_48 (lv_at hl 0 rfl) ?_
        refine lv_iload_n hx hb dX5_follow_50 rfl (lv_at hl 5 rfl) ?_
        refine lv_iconst (v := 4) hx hb dX5_follow_51 (by decide) ?_
        refine lv_iload hx hb dX5_follow_52 (lv_at hl 0 rfl) ?_
        refine lv_imul hx hb dX5_follow_54 ?_
        refine lv_topi (fun x34737 ex34737 => ?_)
        have hx34737 : x34737.toInt = 4 * x34507.toInt := ti_mul ex34737 (by decide) rfl (by omega) (by omega)
        refine lv_ishr hx hb dX5_follow_55 ?_
        refine lv_topi (fun x34738 ex34738 => ?_)
        refine lv_bipush (v := 15) hx hb dX5_follow_56 (by decide) ?_
        refine lv_iand hx hb dX5_follow_58 ?_
        refine lv_topi (fun x34739 ex34739 => ?_)
        have hx34739 : 0 ≤ x34739.toInt ∧ x34739.toInt ≤ 15 := and_ti 15 4 (by decide) (by decide) (by decide) ex34739
        refine r_iastO hx hb hK hP hD hS 5 rfl (in_ti rfl (by omega) (by omega)) dX5_follow_59 (fun f34740 H locs hP hD hS => ?_)
        have hP : va_P D vwCl [(z1, .inr (5, [.ref z3, .ref z4, .ref z5, .ref z6, .ref z7, .int 0, .long 0, .int 1])), (z3, .inl (T 0, 8, .inl f34463)), (z4, .inl (T 0, 8, .inl f34464)), (z5, .inl (T 0, 8, .inl f34465)), (z6, .inl (T 0, 8, .inl f34467)), (z7, .inl (T 0, 4, .inl f34740)), (z2, .inr (1, [.ref z8, .ref z9, .ref z10, .ref z11, .int x34469, .int x34470, .int x34471, .int x34472])), (z8, .inl (T 0, 64, .inl f34473)), (z9, .inl (T 0, 64, .inl f34474)), (z10, .inl (T 0, 64, .inl f34475)), (z11, .inl (T 0, 64, .inl f34476))] H := hP
        have hD : va_D A [(z1, .inr (5, [.ref z3, .ref z4, .ref z5, .ref z6, .ref z7, .int 0, .long 0, .int 1])), (z3, .inl (T 0, 8, .inl f34463)), (z4, .inl (T 0, 8, .inl f34464)), (z5, .inl (T 0, 8, .inl f34465)), (z6, .inl (T 0, 8, .inl f34467)), (z7, .inl (T 0, 4, .inl f34740)), (z2, .inr (1, [.ref z8, .ref z9, .ref z10, .ref z11, .int x34469, .int x34470, .int x34471, .int x34472])), (z8, .inl (T 0, 64, .inl f34473)), (z9, .inl (T 0, 64, .inl f34474)), (z10, .inl (T 0, 64, .inl f34475)), (z11, .inl (T 0, 64, .inl f34476))] := hD
        obtain ⟨x34741, ex34741⟩ : ∃ y : Int32, y = x34507 + 1 := ⟨_, rfl⟩
        have hx34741 : x34741.toInt = x34507.toInt + 1 := ti_add ex34741 rfl (by decide) (by omega) (by omega)
        refine lv_iinc (v := x34741) (lv' := [(5, .int x34741), (4, .int x34479), (0, .ref z1), (1, .ref z2), (2, .int p2), (3, .int p3)]) hx hb dX5_follow_60 hl (k := 0) rfl (by rw [ex34741]; rfl) (by decide) rfl (fun ls hl => ?_)
        refine lv_goto (tgt := 38) hx hb dX5_follow_63 (by decide) ?_
        exact ih x34741 f34740 _ _ ls ⟨by omega, by omega⟩ (by omega) (hP.sub (ws' := [(z1, .inr (5, [.ref z3, .ref z4, .ref z5, .ref z6, .ref z7, .int 0, .long 0, .int 1])), (z3, .inl (T 0, 8, .inl f34463)), (z4, .inl (T 0, 8, .inl f34464)), (z5, .inl (T 0, 8, .inl f34465)), (z6, .inl (T 0, 8, .inl f34467)), (z7, .inl (T 0, 4, .inl f34740)), (z2, .inr (1, [.ref z8, .ref z9, .ref z10, .ref z11, .int x34469, .int x34470, .int x34471, .int x34472])), (z8, .inl (T 0, 64, .inl f34473)), (z9, .inl (T 0, 64, .inl f34474)), (z10, .inl (T 0, 64, .inl f34475)), (z11, .inl (T 0, 64, .inl f34476))]) [0, 1, 2, 3, 4, 5, 6, 7, 8, 9, 10] rfl) (hD.sub (ws' := [(z1, .inr (5, [.ref z3, .ref z4, .ref z5, .ref z6, .ref z7, .int 0, .long 0, .int 1])), (z3, .inl (T 0, 8, .inl f34463)), (z4, .inl (T 0, 8, .inl f34464)), (z5, .inl (T 0, 8, .inl f34465)), (z6, .inl (T 0, 8, .inl f34467)), (z7, .inl (T 0, 4, .inl f34740)), (z2, .inr (1, [.ref z8, .ref z9, .ref z10, .ref z11, .int x34469, .int x34470, .int x34471, .int x34472])), (z8, .inl (T 0, 64, .inl f34473)), (z9, .inl (T 0, 64, .inl f34474)), (z10, .inl (T 0, 64, .inl f34475)), (z11, .inl (T 0, 64, .inl f34476))]) [0, 1, 2, 3, 4, 5, 6, 7, 8, 9, 10] (by decide +kernel) rfl) hS (lv_sub hl [0, 1, 2, 3, 4, 5] rfl)
  exact L34515 _ 0 f34468 _ _ ls ⟨by decide, by decide⟩ (Nat.lt_succ_self _) (hP.sub (ws' := [(z1, .inr (5, [.ref z3, .ref z4, .ref z5, .ref z6, .ref z7, .int 0, .long 0, .int 1])), (z3, .inl (T 0, 8, .inl f34463)), (z4, .inl (T 0, 8, .inl f34464)), (z5, .inl (T 0, 8, .inl f34465)), (z6, .inl (T 0, 8, .inl f34467)), (z7, .inl (T 0, 4, .inl f34468)), (z2, .inr (1, [.ref z8, .ref z9, .ref z10, .ref z11, .int x34469, .int x34470, .int x34471, .int x34472])), (z8, .inl (T 0, 64, .inl f34473)), (z9, .inl (T 0, 64, .inl f34474)), (z10, .inl (T 0, 64, .inl f34475)), (z11, .inl (T 0, 64, .inl f34476))]) [0, 1, 2, 3, 4, 5, 6, 7, 8, 9, 10] rfl) (hD.sub (ws' := [(z1, .inr (5, [.ref z3, .ref z4, .ref z5, .ref z6, .ref z7, .int 0, .long 0, .int 1])), (z3, .inl (T 0, 8, .inl f34463)), (z4, .inl (T 0, 8, .inl f34464)), (z5, .inl (T 0, 8, .inl f34465)), (z6, .inl (T 0, 8, .inl f34467)), (z7, .inl (T 0, 4, .inl f34468)), (z2, .inr (1, [.ref z8, .ref z9, .ref z10, .ref z11, .int x34469, .int x34470, .int x34471, .int x34472])), (z8, .inl (T 0, 64, .inl f34473)), (z9, .inl (T 0, 64, .inl f34474)), (z10, .inl (T 0, 64, .inl f34475)), (z11, .inl (T 0, 64, .inl f34476))]) [0, 1, 2, 3, 4, 5, 6, 7, 8, 9, 10] (by decide +kernel) rfl) hS (lv_sub hl [0, 1, 2, 3, 4, 5] rfl)
