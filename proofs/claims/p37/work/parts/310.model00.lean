set_option maxHeartbeats 4000000 in
set_option maxRecDepth 100000 in
theorem h_X11_isIn_20000007 (l : Launch) (D : va_G) (T : Nat → ClassId) (sq sv sz : Nat) (p0 : Int64) (p1 : Int64) (p2 : Int64) : Met l yX11_isIn (.code yX11_isIn cX11_isIn 6 (some .boolean) :: TB) { frames := 0, cells := 0, slots := 0, locals := 0 } (PC2 D T sq sv [.long p0, .long p1, .long p2] ([] : va_W) sz) (Qi (S := Unit) (fun (r : Int32) (_ : Unit) => ((r.toInt = 0 ∧ (p0.toInt < p1.toInt ∨ p2.toInt < p0.toInt)) ∨ (r.toInt = 1 ∧ p1.toInt ≤ p0.toInt ∧ p0.toInt ≤ p2.toInt)) ∧ (0 ≤ r.toInt ∧ r.toInt ≤ 1)) (fun (_ : Unit) => ([] : va_W)) D (va_A ([] : va_W) sz)) 0 0 (va_A ([] : va_W) sz) := by
  refine ct_begin2 (Qc := Qi (S := Unit) (fun (r : Int32) (_ : Unit) => ((r.toInt = 0 ∧ (p0.toInt < p1.toInt ∨ p2.toInt < p0.toInt)) ∨ (r.toInt = 1 ∧ p1.toInt ≤ p0.toInt ∧ p0.toInt ≤ p2.toInt)) ∧ (0 ≤ r.toInt ∧ r.toInt ≤ 1)) (fun (_ : Unit) => ([] : va_W)) D) (by decide +kernel) (Nat.le_of_ble_eq_true rfl) ?_
  intro p e s m below meth c A ls C0 hr hlocks hnm hE hStr hA hP hD hl
  generalize ([.long p0, .long p1, .long p2] : List Value).toArray = args at C0 ⊢
  have hx := C0.1
  have hb := C0.2.1
  have hml := C0.2.2.1
  have hown := C0.2.2.2.1
  have hT := C0.2.2.2.2
  have hK := hE.1
  generalize hH : s.heap = H at hP ⊢
  have hS : va_S A s.heap H [] := by rw [← hH]; exact va_S.rf
  have hP : va_P D vwCl ([] : va_W) H := hP
  have hD : va_D A ([] : va_W) := hD
  have hl : lv_has ls 6 [(0, .long p0), (2, .long p1), (4, .long p2)] := hl
  refine lv_lload_n hx hb dX11_isIn_0 rfl (lv_at hl 0 rfl) ?_
  refine lv_lload_n hx hb dX11_isIn_1 rfl (lv_at hl 1 rfl) ?_
  refine W.lcmp hx hb dX11_isIn_2 ?_
  refine lv_topi (fun x20000008 ex20000008 => ?_)
  refine lv_if_lt (tgt := 17) hx hb dX11_isIn_3 (by decide) (fun c20000009 => ?_) (fun c20000009 => ?_)
  · skip
    have kc20000009 : x20000008.toInt < 0 := lt_ti rfl (by decide) c20000009
    have qc20000009 : p0.toInt < p1.toInt := lc_lt ex20000008 rfl rfl kc20000009
    have rg20000010 := i32_rng x20000008
    refine lv_iconst (v := 0) hx hb dX11_isIn_17 (by decide) ?_
    have hl20000011 : (0 : Int32).toInt = 0 := by decide
    exact r_zret () C0 hr (by decide +kernel) hlocks hS (Nat.le_refl _) (Nat.le_refl _) dX11_isIn_18 ⟨(by omega), ⟨by decide, by decide⟩⟩ (hP.sub (ws' := []) [] rfl) (hD.sub (ws' := []) [] (by decide +kernel) rfl)
  · skip
    have kc20000009 : 0 ≤ x20000008.toInt := nlt_ti rfl (by decide) c20000009
    have qc20000009 : p1.toInt ≤ p0.toInt := lc_ge ex20000008 rfl rfl kc20000009
    refine lv_lload_n hx hb dX11_isIn_6 rfl (lv_at hl 0 rfl) ?_
    refine lv_lload hx hb dX11_isIn_7 (lv_at hl 2 rfl) ?_
    refine W.lcmp hx hb dX11_isIn_9 ?_
    refine lv_topi (fun x20000012 ex20000012 => ?_)
    refine lv_if_gt (tgt := 17) hx hb dX11_isIn_10 (by decide) (fun c20000013 => ?_) (fun c20000013 => ?_)
    · skip
      have kc20000013 : 0 < x20000012.toInt := lt_ti (by decide) rfl c20000013
      have qc20000013 : p2.toInt < p0.toInt := lc_gt ex20000012 rfl rfl kc20000013
      have rg20000014 := i32_rng x20000012
      refine lv_iconst (v := 0) hx hb dX11_isIn_17 (by decide) ?_
      have hl20000015 : (0 : Int32).toInt = 0 := by decide
      exact r_zret () C0 hr (by decide +kernel) hlocks hS (Nat.le_refl _) (Nat.le_refl _) dX11_isIn_18 ⟨(by omega), ⟨by decide, by decide⟩⟩ (hP.sub (ws' := []) [] rfl) (hD.sub (ws' := []) [] (by decide +kernel) rfl)
    · skip
      have kc20000013 : x20000012.toInt ≤ 0 := nlt_ti (by decide) rfl c20000013
      have qc20000013 : p0.toInt ≤ p2.toInt := lc_le ex20000012 rfl rfl kc20000013
      refine lv_iconst (v := 1) hx hb dX11_isIn_13 (by decide) ?_
      refine lv_goto (tgt := 18) hx hb dX11_isIn_14 (by decide) ?_
      have hl20000016 : (1 : Int32).toInt = 1 := by decide
      exact r_zret () C0 hr (by decide +kernel) hlocks hS (Nat.le_refl _) (Nat.le_refl _) dX11_isIn_18 ⟨(by omega), ⟨by decide, by decide⟩⟩ (hP.sub (ws' := []) [] rfl) (hD.sub (ws' := []) [] (by decide +kernel) rfl)
set_option maxHeartbeats 4000000 in
set_option maxRecDepth 100000 in
theorem h_X11_isLetter_20100005 (l : Launch) (D : va_G) (T : Nat → ClassId) (sq sv sz : Nat) (p0 : Int32) : Met l yX11_isLetter (.code yX11_isLetter cX11_isLetter 1 (some .boolean) :: TB) { frames := 0, cells := 0, slots := 0, locals := 0 } (PC2 D T sq sv [.int p0] ([] : va_W) sz) (Qi (S := Unit) (fun (r : Int32) (_ : Unit) => (((r.toInt = 0)) ∨ ((r.toInt = 1 ∧ 97 ≤ p0.toInt ∧ p0.toInt ≤ 122))) ∧ (0 ≤ r.toInt ∧ r.toInt ≤ 1)) (fun (_ : Unit) => ([] : va_W)) D (va_A ([] : va_W) sz)) 0 0 (va_A ([] : va_W) sz) := by
  refine ct_begin2 (Qc := Qi (S := Unit) (fun (r : Int32) (_ : Unit) => (((r.toInt = 0)) ∨ ((r.toInt = 1 ∧ 97 ≤ p0.toInt ∧ p0.toInt ≤ 122))) ∧ (0 ≤ r.toInt ∧ r.toInt ≤ 1)) (fun (_ : Unit) => ([] : va_W)) D) (by decide +kernel) (Nat.le_of_ble_eq_true rfl) ?_
  intro p e s m below meth c A ls C0 hr hlocks hnm hE hStr hA hP hD hl
  generalize ([.int p0] : List Value).toArray = args at C0 ⊢
  have hx := C0.1
  have hb := C0.2.1
  have hml := C0.2.2.1
  have hown := C0.2.2.2.1
  have hT := C0.2.2.2.2
  have hK := hE.1
  generalize hH : s.heap = H at hP ⊢
  have hS : va_S A s.heap H [] := by rw [← hH]; exact va_S.rf
  have hP : va_P D vwCl ([] : va_W) H := hP
  have hD : va_D A ([] : va_W) := hD
  have hl : lv_has ls 1 [(0, .int p0)] := hl
  refine lv_iload_n hx hb dX11_isLetter_0 rfl (lv_at hl 0 rfl) ?_
  refine lv_bipush (v := 97) hx hb dX11_isLetter_1 (by decide) ?_
  refine lv_icmp_lt (tgt := 16) hx hb dX11_isLetter_3 (by decide) (fun c20100006 => ?_) (fun c20100006 => ?_)
  · skip
    have kc20100006 : p0.toInt < 97 := lt_ti rfl (by decide) c20100006
    have rg20100007 := i32_rng p0
    refine lv_iconst (v := 0) hx hb dX11_isLetter_16 (by decide) ?_
    have hl20100008 : (0 : Int32).toInt = 0 := by decide
    exact r_zret () C0 hr (by decide +kernel) hlocks hS (Nat.le_refl _) (Nat.le_refl _) dX11_isLetter_17 ⟨(Or.inl (by omega)), ⟨by decide, by decide⟩⟩ (hP.sub (ws' := []) [] rfl) (hD.sub (ws' := []) [] (by decide +kernel) rfl)
  · skip
    have kc20100006 : 97 ≤ p0.toInt := nlt_ti rfl (by decide) c20100006
    refine lv_iload_n hx hb dX11_isLetter_6 rfl (lv_at hl 0 rfl) ?_
    refine lv_bipush (v := 122) hx hb dX11_isLetter_7 (by decide) ?_
    refine lv_icmp_gt (tgt := 16) hx hb dX11_isLetter_9 (by decide) (fun c20100009 => ?_) (fun c20100009 => ?_)
    · skip
      have kc20100009 : 122 < p0.toInt := lt_ti (by decide) rfl c20100009
      have rg20100010 := i32_rng p0
      refine lv_iconst (v := 0) hx hb dX11_isLetter_16 (by decide) ?_
      have hl20100011 : (0 : Int32).toInt = 0 := by decide
      exact r_zret () C0 hr (by decide +kernel) hlocks hS (Nat.le_refl _) (Nat.le_refl _) dX11_isLetter_17 ⟨(Or.inl (by omega)), ⟨by decide, by decide⟩⟩ (hP.sub (ws' := []) [] rfl) (hD.sub (ws' := []) [] (by decide +kernel) rfl)
    · skip
      have kc20100009 : p0.toInt ≤ 122 := nlt_ti (by decide) rfl c20100009
      refine lv_iconst (v := 1) hx hb dX11_isLetter_12 (by decide) ?_
      refine lv_goto (tgt := 17) hx hb dX11_isLetter_13 (by decide) ?_
      have hl20100012 : (1 : Int32).toInt = 1 := by decide
      exact r_zret () C0 hr (by decide +kernel) hlocks hS (Nat.le_refl _) (Nat.le_refl _) dX11_isLetter_17 ⟨(Or.inr (by omega)), ⟨by decide, by decide⟩⟩ (hP.sub (ws' := []) [] rfl) (hD.sub (ws' := []) [] (by decide +kernel) rfl)
set_option maxHeartbeats 4000000 in
set_option maxRecDepth 100000 in
theorem h_X11_isDigit_20200005 (l : Launch) (D : va_G) (T : Nat → ClassId) (sq sv sz : Nat) (p0 : Int32) : Met l yX11_isDigit (.code yX11_isDigit cX11_isDigit 1 (some .boolean) :: TB) { frames := 0, cells := 0, slots := 0, locals := 0 } (PC2 D T sq sv [.int p0] ([] : va_W) sz) (Qi (S := Unit) (fun (r : Int32) (_ : Unit) => (((r.toInt = 0 ∧ p0.toInt < 48)) ∨ ((r.toInt = 0 ∧ 57 < p0.toInt)) ∨ ((r.toInt = 1 ∧ 48 ≤ p0.toInt ∧ p0.toInt ≤ 57))) ∧ (0 ≤ r.toInt ∧ r.toInt ≤ 1)) (fun (_ : Unit) => ([] : va_W)) D (va_A ([] : va_W) sz)) 0 0 (va_A ([] : va_W) sz) := by
  refine ct_begin2 (Qc := Qi (S := Unit) (fun (r : Int32) (_ : Unit) => (((r.toInt = 0 ∧ p0.toInt < 48)) ∨ ((r.toInt = 0 ∧ 57 < p0.toInt)) ∨ ((r.toInt = 1 ∧ 48 ≤ p0.toInt ∧ p0.toInt ≤ 57))) ∧ (0 ≤ r.toInt ∧ r.toInt ≤ 1)) (fun (_ : Unit) => ([] : va_W)) D) (by decide +kernel) (Nat.le_of_ble_eq_true rfl) ?_
  intro p e s m below meth c A ls C0 hr hlocks hnm hE hStr hA hP hD hl
  generalize ([.int p0] : List Value).toArray = args at C0 ⊢
  have hx := C0.1
  have hb := C0.2.1
  have hml := C0.2.2.1
  have hown := C0.2.2.2.1
  have hT := C0.2.2.2.2
  have hK := hE.1
  generalize hH : s.heap = H at hP ⊢
  have hS : va_S A s.heap H [] := by rw [← hH]; exact va_S.rf
  have hP : va_P D vwCl ([] : va_W) H := hP
  have hD : va_D A ([] : va_W) := hD
  have hl : lv_has ls 1 [(0, .int p0)] := hl
  refine lv_iload_n hx hb dX11_isDigit_0 rfl (lv_at hl 0 rfl) ?_
  refine lv_bipush (v := 48) hx hb dX11_isDigit_1 (by decide) ?_
  refine lv_icmp_lt (tgt := 16) hx hb dX11_isDigit_3 (by decide) (fun c20200006 => ?_) (fun c20200006 => ?_)
  · skip
    have kc20200006 : p0.toInt < 48 := lt_ti rfl (by decide) c20200006
    have rg20200007 := i32_rng p0
    refine lv_iconst (v := 0) hx hb dX11_isDigit_16 (by decide) ?_
    have hl20200008 : (0 : Int32).toInt = 0 := by decide
    exact r_zret () C0 hr (by decide +kernel) hlocks hS (Nat.le_refl _) (Nat.le_refl _) dX11_isDigit_17 ⟨(Or.inl (by omega)), ⟨by decide, by decide⟩⟩ (hP.sub (ws' := []) [] rfl) (hD.sub (ws' := []) [] (by decide +kernel) rfl)
  · skip
    have kc20200006 : 48 ≤ p0.toInt := nlt_ti rfl (by decide) c20200006
    refine lv_iload_n hx hb dX11_isDigit_6 rfl (lv_at hl 0 rfl) ?_
    refine lv_bipush (v := 57) hx hb dX11_isDigit_7 (by decide) ?_
    refine lv_icmp_gt (tgt := 16) hx hb dX11_isDigit_9 (by decide) (fun c20200009 => ?_) (fun c20200009 => ?_)
    · skip
      have kc20200009 : 57 < p0.toInt := lt_ti (by decide) rfl c20200009
      have rg20200010 := i32_rng p0
      refine lv_iconst (v := 0) hx hb dX11_isDigit_16 (by decide) ?_
      have hl20200011 : (0 : Int32).toInt = 0 := by decide
      exact r_zret () C0 hr (by decide +kernel) hlocks hS (Nat.le_refl _) (Nat.le_refl _) dX11_isDigit_17 ⟨(Or.inr (Or.inl (by omega))), ⟨by decide, by decide⟩⟩ (hP.sub (ws' := []) [] rfl) (hD.sub (ws' := []) [] (by decide +kernel) rfl)
    · skip
      have kc20200009 : p0.toInt ≤ 57 := nlt_ti (by decide) rfl c20200009
      refine lv_iconst (v := 1) hx hb dX11_isDigit_12 (by decide) ?_
      refine lv_goto (tgt := 17) hx hb dX11_isDigit_13 (by decide) ?_
      have hl20200012 : (1 : Int32).toInt = 1 := by decide
      exact r_zret () C0 hr (by decide +kernel) hlocks hS (Nat.le_refl _) (Nat.le_refl _) dX11_isDigit_17 ⟨(Or.inr (Or.inr (by omega))), ⟨by decide, by decide⟩⟩ (hP.sub (ws' := []) [] rfl) (hD.sub (ws' := []) [] (by decide +kernel) rfl)
set_option maxHeartbeats 4000000 in
set_option maxRecDepth 100000 in
theorem h_X11_fail_20300002 (l : Launch) (D : va_G) (T : Nat → ClassId) (sq sv sz : Nat) (a : Nat) (z : Nat → Nat) (i1 i2 i3 i4 i5 i6 i7 i8 i30 i43 i45 i46 i47 i48 i49 i50 i51 i58 i59 i65 i68 i69 i72 i78 i80 i81 i82 i87 i92 i96 i100 i103 i104 : Int32) (p1 : Int32) (p2 : Int32) (hp1 : 1 ≤ p1.toInt ∧ p1.toInt ≤ 9) : Met l yX11_fail (.code yX11_fail cX11_fail 3 none :: TB) { frames := 0, cells := 0, slots := 0, locals := 0 } (PC2 D T sq sv [.ref a, .int p1, .int p2] [(a, .inr (11, OX z i1 i2 i3 i4 i5 i6 i7 i8 i30 i43 i45 i46 i47 i48 i49 i50 i51 i58 i59 i65 i68 i69 i72 i78 i80 i81 i82 i87 i92 i96 i100 i103 i104))] sz) (Qv2 (S := Int32 × Int32) (fun (u : Int32 × Int32) => match u with | (ui5, ui6) => (((i5.toInt ≠ 0 ∧ ui5.toInt = i5.toInt)) ∨ ((i5.toInt = 0 ∧ ui5.toInt = p1.toInt ∧ 1 ≤ ui5.toInt)))) (fun (u : Int32 × Int32) => match u with | (ui5, ui6) => [(a, .inr (11, OX z i1 i2 i3 i4 ui5 ui6 i7 i8 i30 i43 i45 i46 i47 i48 i49 i50 i51 i58 i59 i65 i68 i69 i72 i78 i80 i81 i82 i87 i92 i96 i100 i103 i104))]) D (va_A [(a, .inr (11, OX z i1 i2 i3 i4 i5 i6 i7 i8 i30 i43 i45 i46 i47 i48 i49 i50 i51 i58 i59 i65 i68 i69 i72 i78 i80 i81 i82 i87 i92 i96 i100 i103 i104))] sz)) 0 0 (va_A [(a, .inr (11, OX z i1 i2 i3 i4 i5 i6 i7 i8 i30 i43 i45 i46 i47 i48 i49 i50 i51 i58 i59 i65 i68 i69 i72 i78 i80 i81 i82 i87 i92 i96 i100 i103 i104))] sz) := by
  refine ct_begin2 (Qc := Qv2 (S := Int32 × Int32) (fun (u : Int32 × Int32) => match u with | (ui5, ui6) => (((i5.toInt ≠ 0 ∧ ui5.toInt = i5.toInt)) ∨ ((i5.toInt = 0 ∧ ui5.toInt = p1.toInt ∧ 1 ≤ ui5.toInt)))) (fun (u : Int32 × Int32) => match u with | (ui5, ui6) => [(a, .inr (11, OX z i1 i2 i3 i4 ui5 ui6 i7 i8 i30 i43 i45 i46 i47 i48 i49 i50 i51 i58 i59 i65 i68 i69 i72 i78 i80 i81 i82 i87 i92 i96 i100 i103 i104))]) D) (by decide +kernel) (Nat.le_of_ble_eq_true rfl) ?_
  intro p e s m below meth c A ls C0 hr hlocks hnm hE hStr hA hP hD hl
  generalize ([.ref a, .int p1, .int p2] : List Value).toArray = args at C0 ⊢
  have hx := C0.1
  have hb := C0.2.1
  have hml := C0.2.2.1
  have hown := C0.2.2.2.1
  have hT := C0.2.2.2.2
  have hK := hE.1
  generalize hH : s.heap = H at hP ⊢
  have hS : va_S A s.heap H [] := by rw [← hH]; exact va_S.rf
  have hP : va_P D vwCl [(a, .inr (11, OX z i1 i2 i3 i4 i5 i6 i7 i8 i30 i43 i45 i46 i47 i48 i49 i50 i51 i58 i59 i65 i68 i69 i72 i78 i80 i81 i82 i87 i92 i96 i100 i103 i104))] H := hP
  have hD : va_D A [(a, .inr (11, OX z i1 i2 i3 i4 i5 i6 i7 i8 i30 i43 i45 i46 i47 i48 i49 i50 i51 i58 i59 i65 i68 i69 i72 i78 i80 i81 i82 i87 i92 i96 i100 i103 i104))] := hD
  have hl : lv_has ls 3 [(0, .ref a), (1, .int p1), (2, .int p2)] := hl
  refine lv_aload_n hx hb dX11_fail_0 rfl (lv_at hl 0 rfl) ?_
  refine r_get (v := .int i5) C0 hE ffX11_5 mw_795 hP 0 rfl ox_5 dX11_fail_1 ?_
  refine lv_if_eq (tgt := 8) hx hb dX11_fail_4 (by decide) (fun c20300003 => ?_) (fun c20300003 => ?_)
  · skip
    have kc20300003 : i5.toInt = 0 := eq_ti rfl (by decide) c20300003
    refine lv_aload_n hx hb dX11_fail_8 rfl (lv_at hl 0 rfl) ?_
    refine lv_iload_n hx hb dX11_fail_9 rfl (lv_at hl 1 rfl) ?_
    refine r_put (v := .int p1) (ty := .int) (ws1 := [(a, .inr (11, OX z i1 i2 i3 i4 p1 i6 i7 i8 i30 i43 i45 i46 i47 i48 i49 i50 i51 i58 i59 i65 i68 i69 i72 i78 i80 i81 i82 i87 i92 i96 i100 i103 i104))]) C0 hE ffX11_5 tyX11 tyX11_ok nmX11 mw_795 pf_1358 hP hD hS 0 rfl rfl rfl ol_5 os_5 rfl dX11_fail_10 (fun H locs hP hD hS => ?_)
    refine lv_aload_n hx hb dX11_fail_13 rfl (lv_at hl 0 rfl) ?_
    refine lv_iload_n hx hb dX11_fail_14 rfl (lv_at hl 2 rfl) ?_
    refine r_put (v := .int p2) (ty := .int) (ws1 := [(a, .inr (11, OX z i1 i2 i3 i4 p1 p2 i7 i8 i30 i43 i45 i46 i47 i48 i49 i50 i51 i58 i59 i65 i68 i69 i72 i78 i80 i81 i82 i87 i92 i96 i100 i103 i104))]) C0 hE ffX11_6 tyX11 tyX11_ok nmX11 mw_796 pf_1358 hP hD hS 0 rfl rfl rfl ol_6 os_6 rfl dX11_fail_15 (fun H locs hP hD hS => ?_)
    exact r_vret2 (p1, p2) C0 hr hlocks hS (Nat.le_refl _) (Nat.le_refl _) dX11_fail_18 (Or.inr (by omega)) (hP.sub (ws' := [(a, .inr (11, OX z i1 i2 i3 i4 p1 p2 i7 i8 i30 i43 i45 i46 i47 i48 i49 i50 i51 i58 i59 i65 i68 i69 i72 i78 i80 i81 i82 i87 i92 i96 i100 i103 i104))]) [0] rfl) (hD.sub (ws' := [(a, .inr (11, OX z i1 i2 i3 i4 p1 p2 i7 i8 i30 i43 i45 i46 i47 i48 i49 i50 i51 i58 i59 i65 i68 i69 i72 i78 i80 i81 i82 i87 i92 i96 i100 i103 i104))]) [0] (by decide +kernel) rfl)
  · skip
    have kc20300003 : i5.toInt ≠ 0 := ne_ti rfl (by decide) c20300003
    have nzi5 : ¬ i5 = 0 := c20300003
    exact r_vret2 (i5, i6) C0 hr hlocks hS (Nat.le_refl _) (Nat.le_refl _) dX11_fail_7 (Or.inl (by omega)) (hP.sub (ws' := [(a, .inr (11, OX z i1 i2 i3 i4 i5 i6 i7 i8 i30 i43 i45 i46 i47 i48 i49 i50 i51 i58 i59 i65 i68 i69 i72 i78 i80 i81 i82 i87 i92 i96 i100 i103 i104))]) [0] rfl) (hD.sub (ws' := [(a, .inr (11, OX z i1 i2 i3 i4 i5 i6 i7 i8 i30 i43 i45 i46 i47 i48 i49 i50 i51 i58 i59 i65 i68 i69 i72 i78 i80 i81 i82 i87 i92 i96 i100 i103 i104))]) [0] (by decide +kernel) rfl)
set_option maxHeartbeats 4000000 in
set_option maxRecDepth 100000 in
theorem h_X11_feed_20400252 (l : Launch) (D : va_G) (T : Nat → ClassId) (sq sv sz : Nat) (a : Nat) (z : Nat → Nat) (i1 i2 i3 i4 i5 i6 i7 i8 i30 i43 i45 i46 i47 i48 i49 i50 i51 i58 i59 i65 i68 i69 i72 i78 i80 i81 i82 i87 i92 i96 i100 i103 i104 : Int32) (p1 : Int32) (p2 : Int32) (p3 : Int32) (p4 : Int32) (p5 : Int32) (g0 : Nat → Int32) (hi1 : 0 ≤ i1.toInt ∧ i1.toInt ≤ 700) : Met l yX11_feed (.code yX11_feed cX11_feed 8 (some .int) :: TB) { frames := 0, cells := 0, slots := 0, locals := 0 } (PC2 D T sq sv [.ref a, .int p1, .int p2, .int p3, .int p4, .int p5] [(a, .inr (11, OX z i1 i2 i3 i4 i5 i6 i7 i8 i30 i43 i45 i46 i47 i48 i49 i50 i51 i58 i59 i65 i68 i69 i72 i78 i80 i81 i82 i87 i92 i96 i100 i103 i104)), ((z 0), .inl (T 0, 700, .inl g0))] sz) (Qi (S := Int32 × (Nat → Int32)) (fun (r : Int32) (u : Int32 × (Nat → Int32)) => match u with | (ui1, ug0) => (0 ≤ ui1.toInt ∧ ui1.toInt ≤ 700) ∧ ((i1.toInt ≤ 680 ∧ ui1.toInt = i1.toInt + 20 ∧ r.toInt = i1.toInt + 20) ∨ (680 < i1.toInt ∧ ui1.toInt = i1.toInt ∧ r.toInt = -1)) ∧ (-1 ≤ r.toInt ∧ r.toInt ≤ 700)) (fun (u : Int32 × (Nat → Int32)) => match u with | (ui1, ug0) => [(a, .inr (11, OX z ui1 i2 i3 i4 i5 i6 i7 i8 i30 i43 i45 i46 i47 i48 i49 i50 i51 i58 i59 i65 i68 i69 i72 i78 i80 i81 i82 i87 i92 i96 i100 i103 i104)), ((z 0), .inl (T 0, 700, .inl ug0))]) D (va_A [(a, .inr (11, OX z i1 i2 i3 i4 i5 i6 i7 i8 i30 i43 i45 i46 i47 i48 i49 i50 i51 i58 i59 i65 i68 i69 i72 i78 i80 i81 i82 i87 i92 i96 i100 i103 i104)), ((z 0), .inl (T 0, 700, .inl g0))] sz)) 0 0 (va_A [(a, .inr (11, OX z i1 i2 i3 i4 i5 i6 i7 i8 i30 i43 i45 i46 i47 i48 i49 i50 i51 i58 i59 i65 i68 i69 i72 i78 i80 i81 i82 i87 i92 i96 i100 i103 i104)), ((z 0), .inl (T 0, 700, .inl g0))] sz) := by
  refine ct_begin2 (Qc := Qi (S := Int32 × (Nat → Int32)) (fun (r : Int32) (u : Int32 × (Nat → Int32)) => match u with | (ui1, ug0) => (0 ≤ ui1.toInt ∧ ui1.toInt ≤ 700) ∧ ((i1.toInt ≤ 680 ∧ ui1.toInt = i1.toInt + 20 ∧ r.toInt = i1.toInt + 20) ∨ (680 < i1.toInt ∧ ui1.toInt = i1.toInt ∧ r.toInt = -1)) ∧ (-1 ≤ r.toInt ∧ r.toInt ≤ 700)) (fun (u : Int32 × (Nat → Int32)) => match u with | (ui1, ug0) => [(a, .inr (11, OX z ui1 i2 i3 i4 i5 i6 i7 i8 i30 i43 i45 i46 i47 i48 i49 i50 i51 i58 i59 i65 i68 i69 i72 i78 i80 i81 i82 i87 i92 i96 i100 i103 i104)), ((z 0), .inl (T 0, 700, .inl ug0))]) D) (by decide +kernel) (Nat.le_of_ble_eq_true rfl) ?_
  intro p e s m below meth c A ls C0 hr hlocks hnm hE hStr hA hP hD hl
  generalize ([.ref a, .int p1, .int p2, .int p3, .int p4, .int p5] : List Value).toArray = args at C0 ⊢
  have hx := C0.1
  have hb := C0.2.1
  have hml := C0.2.2.1
  have hown := C0.2.2.2.1
  have hT := C0.2.2.2.2
  have hK := hE.1
  generalize hH : s.heap = H at hP ⊢
  have hS : va_S A s.heap H [] := by rw [← hH]; exact va_S.rf
  have hP : va_P D vwCl [(a, .inr (11, OX z i1 i2 i3 i4 i5 i6 i7 i8 i30 i43 i45 i46 i47 i48 i49 i50 i51 i58 i59 i65 i68 i69 i72 i78 i80 i81 i82 i87 i92 i96 i100 i103 i104)), ((z 0), .inl (T 0, 700, .inl g0))] H := hP
  have hD : va_D A [(a, .inr (11, OX z i1 i2 i3 i4 i5 i6 i7 i8 i30 i43 i45 i46 i47 i48 i49 i50 i51 i58 i59 i65 i68 i69 i72 i78 i80 i81 i82 i87 i92 i96 i100 i103 i104)), ((z 0), .inl (T 0, 700, .inl g0))] := hD
  have hl : lv_has ls 8 [(0, .ref a), (1, .int p1), (2, .int p2), (3, .int p3), (4, .int p4), (5, .int p5)] := hl
  refine lv_aload_n hx hb dX11_feed_0 rfl (lv_at hl 0 rfl) ?_
  refine r_get (v := .int i1) C0 hE ffX11_1 mw_791 hP 0 rfl ox_1 dX11_feed_1 ?_
  refine lv_bipush (v := 20) hx hb dX11_feed_4 (by decide) ?_
  refine lv_iadd hx hb dX11_feed_6 ?_
  refine lv_topi (fun x20400253 ex20400253 => ?_)
  have hx20400253 : x20400253.toInt = i1.toInt + 20 := ti_add ex20400253 rfl (by decide) (by omega) (by omega)
  refine lv_sipush (v := 700) hx hb dX11_feed_7 (by decide) ?_
  refine lv_icmp_le (tgt := 15) hx hb dX11_feed_10 (by decide) (fun c20400254 => ?_) (fun c20400254 => ?_)
  · skip
    have kc20400254 : x20400253.toInt ≤ 700 := le_ti rfl (by decide) c20400254
    refine lv_iconst (v := 0) hx hb dX11_feed_15 (by decide) ?_
    refine lv_istore (lv' := [(6, .int 0), (0, .ref a), (1, .int p1), (2, .int p2), (3, .int p3), (4, .int p4), (5, .int p5)]) hx hb dX11_feed_16 hl (by decide) rfl (fun ls hl => ?_)
    have L20400490 : ∀ (n : Nat) (x20400473 : Int32) (x20400474 : Int32) (f20400475 : Nat → Int32) (H : Heap) (locs : List Loc) (ls : Array Slot), (0 ≤ x20400473.toInt ∧ x20400473.toInt ≤ 20) → (0 ≤ x20400474.toInt ∧ x20400474.toInt ≤ 700) → (x20400474.toInt = i1.toInt + x20400473.toInt) → (21 - x20400473.toInt).toNat < n → va_P D vwCl [(a, .inr (11, OX z x20400474 i2 i3 i4 i5 i6 i7 i8 i30 i43 i45 i46 i47 i48 i49 i50 i51 i58 i59 i65 i68 i69 i72 i78 i80 i81 i82 i87 i92 i96 i100 i103 i104)), ((z 0), .inl (T 0, 700, .inl f20400475))] H → va_D A [(a, .inr (11, OX z x20400474 i2 i3 i4 i5 i6 i7 i8 i30 i43 i45 i46 i47 i48 i49 i50 i51 i58 i59 i65 i68 i69 i72 i78 i80 i81 i82 i87 i92 i96 i100 i103 i104)), ((z 0), .inl (T 0, 700, .inl f20400475))] → va_S A s.heap H locs → lv_has ls 8 [(6, .int x20400473), (0, .ref a), (1, .int p1), (2, .int p2), (3, .int p3), (4, .int p4), (5, .int p5)] → W p l e { frames := 0, cells := 0, slots := 0, locals := 0 } s m args below meth c H locs 0 0 (MQ below ((Qi (S := Int32 × (Nat → Int32)) (fun (r : Int32) (u : Int32 × (Nat → Int32)) => match u with | (ui1, ug0) => (0 ≤ ui1.toInt ∧ ui1.toInt ≤ 700) ∧ ((i1.toInt ≤ 680 ∧ ui1.toInt = i1.toInt + 20 ∧ r.toInt = i1.toInt + 20) ∨ (680 < i1.toInt ∧ ui1.toInt = i1.toInt ∧ r.toInt = -1)) ∧ (-1 ≤ r.toInt ∧ r.toInt ≤ 700)) (fun (u : Int32 × (Nat → Int32)) => match u with | (ui1, ug0) => [(a, .inr (11, OX z ui1 i2 i3 i4 i5 i6 i7 i8 i30 i43 i45 i46 i47 i48 i49 i50 i51 i58 i59 i65 i68 i69 i72 i78 i80 i81 i82 i87 i92 i96 i100 i103 i104)), ((z 0), .inl (T 0, 700, .inl ug0))]) D) A) args s 0 0 A) (F0 m 18 ls []) := by
      intro n
      induction n with
      | zero =>
        intro x20400473 x20400474 f20400475 H locs ls hx20400473 hx20400474 hr20400491 hms hP hD hS hl
        exact absurd hms (Nat.not_lt_zero _)
      | succ n ih20400492 =>
        intro x20400473 x20400474 f20400475 H locs ls hx20400473 hx20400474 hr20400491 hms hP hD hS hl
        refine lv_iload hx hb dX11_feed_18 (lv_at hl 0 rfl) ?_
        refine lv_bipush (v := 20) hx hb dX11_feed_20 (by decide) ?_
        refine lv_icmp_ge (tgt := 114) hx hb dX11_feed_22 (by decide) (fun c20400493 => ?_) (fun c20400493 => ?_)
        · skip
          have kc20400493 : 20 ≤ x20400473.toInt := le_ti (by decide) rfl c20400493
          refine lv_aload_n hx hb dX11_feed_114 rfl (lv_at hl 1 rfl) ?_
          refine r_get (v := .int x20400474) C0 hE ffX11_1 mw_791 hP 0 rfl ox_1 dX11_feed_115 ?_
          exact r_iret (x20400474, f20400475) C0 hr hlocks hS (Nat.le_refl _) (Nat.le_refl _) dX11_feed_118 ⟨⟨by omega, by omega⟩, (by omega), ⟨by omega, by omega⟩⟩ (hP.sub (ws' := [(a, .inr (11, OX z x20400474 i2 i3 i4 i5 i6 i7 i8 i30 i43 i45 i46 i47 i48 i49 i50 i51 i58 i59 i65 i68 i69 i72 i78 i80 i81 i82 i87 i92 i96 i100 i103 i104)), ((z 0), .inl (T 0, 700, .inl f20400475))]) [0, 1] rfl) (hD.sub (ws' := [(a, .inr (11, OX z x20400474 i2 i3 i4 i5 i6 i7 i8 i30 i43 i45 i46 i47 i48 i49 i50 i51 i58 i59 i65 i68 i69 i72 i78 i80 i81 i82 i87 i92 i96 i100 i103 i104)), ((z 0), .inl (T 0, 700, .inl f20400475))]) [0, 1] (by decide +kernel) rfl)
        · skip
          have kc20400493 : x20400473.toInt < 20 := nle_ti (by decide) rfl c20400493
          refine lv_iload hx hb dX11_feed_25 (lv_at hl 0 rfl) ?_
          refine lv_iconst (v := 4) hx hb dX11_feed_27 (by decide) ?_
          have J20400512 : ∀ (x20400511 : Int32) (H : Heap) (locs : List Loc) (ls : Array Slot), va_P D vwCl [(a, .inr (11, OX z x20400474 i2 i3 i4 i5 i6 i7 i8 i30 i43 i45 i46 i47 i48 i49 i50 i51 i58 i59 i65 i68 i69 i72 i78 i80 i81 i82 i87 i92 i96 i100 i103 i104)), ((z 0), .inl (T 0, 700, .inl f20400475))] H → va_D A [(a, .inr (11, OX z x20400474 i2 i3 i4 i5 i6 i7 i8 i30 i43 i45 i46 i47 i48 i49 i50 i51 i58 i59 i65 i68 i69 i72 i78 i80 i81 i82 i87 i92 i96 i100 i103 i104)), ((z 0), .inl (T 0, 700, .inl f20400475))] → va_S A s.heap H locs → lv_has ls 8 [(6, .int x20400473), (0, .ref a), (1, .int p1), (2, .int p2), (3, .int p3), (4, .int p4), (5, .int p5)] → W p l e { frames := 0, cells := 0, slots := 0, locals := 0 } s m args below meth c H locs 0 0 (MQ below ((Qi (S := Int32 × (Nat → Int32)) (fun (r : Int32) (u : Int32 × (Nat → Int32)) => match u with | (ui1, ug0) => (0 ≤ ui1.toInt ∧ ui1.toInt ≤ 700) ∧ ((i1.toInt ≤ 680 ∧ ui1.toInt = i1.toInt + 20 ∧ r.toInt = i1.toInt + 20) ∨ (680 < i1.toInt ∧ ui1.toInt = i1.toInt ∧ r.toInt = -1)) ∧ (-1 ≤ r.toInt ∧ r.toInt ≤ 700)) (fun (u : Int32 × (Nat → Int32)) => match u with | (ui1, ug0) => [(a, .inr (11, OX z ui1 i2 i3 i4 i5 i6 i7 i8 i30 i43 i45 i46 i47 i48 i49 i50 i51 i58 i59 i65 i68 i69 i72 i78 i80 i81 i82 i87 i92 i96 i100 i103 i104)), ((z 0), .inl (T 0, 700, .inl ug0))]) D) A) args s 0 0 A) (F0 m 71 ls [.int x20400511]) := by
            intro x20400511 H locs ls hP hD hS hl
            refine lv_istore (lv' := [(7, .int x20400511), (6, .int x20400473), (0, .ref a), (1, .int p1), (2, .int p2), (3, .int p3), (4, .int p4), (5, .int p5)]) hx hb dX11_feed_71 hl (by decide) rfl (fun ls hl => ?_)
            refine lv_aload_n hx hb dX11_feed_73 rfl (lv_at hl 2 rfl) ?_
            refine r_get (v := .ref (z 0)) C0 hE ffX11_0 mw_790 hP 0 rfl ox_0 dX11_feed_74 ?_
            refine lv_aload_n hx hb dX11_feed_77 rfl (lv_at hl 2 rfl) ?_
            refine r_get (v := .int x20400474) C0 hE ffX11_1 mw_791 hP 0 rfl ox_1 dX11_feed_78 ?_
            refine lv_iload hx hb dX11_feed_81 (lv_at hl 0 rfl) ?_
            refine lv_bipush (v := 8) hx hb dX11_feed_83 (by decide) ?_
            refine lv_iconst (v := 3) hx hb dX11_feed_85 (by decide) ?_
            refine lv_iload hx hb dX11_feed_86 (lv_at hl 1 rfl) ?_
            refine lv_iconst (v := 4) hx hb dX11_feed_88 (by decide) ?_
            refine lv_irem hx hb dX11_feed_89 (by decide +kernel) ?_
            refine lv_topi (fun x20400513 ex20400513 => ?_)
            refine lv_isub hx hb dX11_feed_90 ?_
            refine lv_topi (fun x20400514 ex20400514 => ?_)
            refine lv_imul hx hb dX11_feed_91 ?_
            refine lv_topi (fun x20400515 ex20400515 => ?_)
            refine lv_ishr hx hb dX11_feed_92 ?_
            refine lv_topi (fun x20400516 ex20400516 => ?_)
            refine lv_sipush (v := 255) hx hb dX11_feed_93 (by decide) ?_
            refine lv_iand hx hb dX11_feed_96 ?_
            refine lv_topi (fun x20400517 ex20400517 => ?_)
            have hx20400517 : 0 ≤ x20400517.toInt ∧ x20400517.toInt ≤ 255 := and_ti 255 8 (by decide) (by decide) (by decide) ex20400517
            refine r_iastX hx hb hK hP hD hS 1 rfl (in_ti rfl (by omega) (by omega)) dX11_feed_97 (fun f20400518 ef20400518 H locs hP hD hS => ?_)
            have hP : va_P D vwCl [(a, .inr (11, OX z x20400474 i2 i3 i4 i5 i6 i7 i8 i30 i43 i45 i46 i47 i48 i49 i50 i51 i58 i59 i65 i68 i69 i72 i78 i80 i81 i82 i87 i92 i96 i100 i103 i104)), ((z 0), .inl (T 0, 700, .inl f20400518))] H := hP
            have hD : va_D A [(a, .inr (11, OX z x20400474 i2 i3 i4 i5 i6 i7 i8 i30 i43 i45 i46 i47 i48 i49 i50 i51 i58 i59 i65 i68 i69 i72 i78 i80 i81 i82 i87 i92 i96 i100 i103 i104)), ((z 0), .inl (T 0, 700, .inl f20400518))] := hD
            refine lv_aload_n hx hb dX11_feed_98 rfl (lv_at hl 2 rfl) ?_
            refine lv_dup hx hb dX11_feed_99 rfl ?_
            refine r_get (v := .int x20400474) C0 hE ffX11_1 mw_791 hP 0 rfl ox_1 dX11_feed_100 ?_
            refine lv_iconst (v := 1) hx hb dX11_feed_103 (by decide) ?_
            refine lv_iadd hx hb dX11_feed_104 ?_
            refine lv_topi (fun x20400519 ex20400519 => ?_)
            have hx20400519 : x20400519.toInt = x20400474.toInt + 1 := ti_add ex20400519 rfl (by decide) (by omega) (by omega)
            refine r_put (v := .int x20400519) (ty := .int) (ws1 := [(a, .inr (11, OX z x20400519 i2 i3 i4 i5 i6 i7 i8 i30 i43 i45 i46 i47 i48 i49 i50 i51 i58 i59 i65 i68 i69 i72 i78 i80 i81 i82 i87 i92 i96 i100 i103 i104)), ((z 0), .inl (T 0, 700, .inl f20400518))]) C0 hE ffX11_1 tyX11 tyX11_ok nmX11 mw_791 pf_1358 hP hD hS 0 rfl rfl rfl ol_1 os_1 rfl dX11_feed_105 (fun H locs hP hD hS => ?_)
            obtain ⟨x20400520, ex20400520⟩ : ∃ y : Int32, y = x20400473 + 1 := ⟨_, rfl⟩
            have hx20400520 : x20400520.toInt = x20400473.toInt + 1 := ti_add ex20400520 rfl (by decide) (by omega) (by omega)
            refine lv_iinc (v := x20400520) (lv' := [(6, .int x20400520), (7, .int x20400511), (0, .ref a), (1, .int p1), (2, .int p2), (3, .int p3), (4, .int p4), (5, .int p5)]) hx hb dX11_feed_108 hl (k := 1) rfl (by rw [ex20400520]; rfl) (by decide) rfl (fun ls hl => ?_)
            refine lv_goto (tgt := 18) hx hb dX11_feed_111 (by decide) ?_
            exact ih20400492 x20400520 x20400519 f20400518 _ _ ls ⟨by omega, by omega⟩ ⟨by omega, by omega⟩ (by omega) (by omega) (hP.sub (ws' := [(a, .inr (11, OX z x20400519 i2 i3 i4 i5 i6 i7 i8 i30 i43 i45 i46 i47 i48 i49 i50 i51 i58 i59 i65 i68 i69 i72 i78 i80 i81 i82 i87 i92 i96 i100 i103 i104)), ((z 0), .inl (T 0, 700, .inl f20400518))]) [0, 1] rfl) (hD.sub (ws' := [(a, .inr (11, OX z x20400519 i2 i3 i4 i5 i6 i7 i8 i30 i43 i45 i46 i47 i48 i49 i50 i51 i58 i59 i65 i68 i69 i72 i78 i80 i81 i82 i87 i92 i96 i100 i103 i104)), ((z 0), .inl (T 0, 700, .inl f20400518))]) [0, 1] (by decide +kernel) rfl) hS (lv_sub hl [0, 2, 3, 4, 5, 6, 7] rfl)
          refine lv_icmp_ge (tgt := 35) hx hb dX11_feed_28 (by decide) (fun c20400507 => ?_) (fun c20400507 => ?_)
          · skip
            have kc20400507 : 4 ≤ x20400473.toInt := le_ti (by decide) rfl c20400507
            refine lv_iload hx hb dX11_feed_35 (lv_at hl 0 rfl) ?_
            refine lv_bipush (v := 8) hx hb dX11_feed_37 (by decide) ?_
            refine lv_icmp_ge (tgt := 46) hx hb dX11_feed_39 (by decide) (fun c20400521 => ?_) (fun c20400521 => ?_)
            · skip
              have kc20400521 : 8 ≤ x20400473.toInt := le_ti (by decide) rfl c20400521
              refine lv_iload hx hb dX11_feed_46 (lv_at hl 0 rfl) ?_
              refine lv_bipush (v := 12) hx hb dX11_feed_48 (by decide) ?_
              refine lv_icmp_ge (tgt := 57) hx hb dX11_feed_50 (by decide) (fun c20400522 => ?_) (fun c20400522 => ?_)
              · skip
                have kc20400522 : 12 ≤ x20400473.toInt := le_ti (by decide) rfl c20400522
                refine lv_iload hx hb dX11_feed_57 (lv_at hl 0 rfl) ?_
                refine lv_bipush (v := 16) hx hb dX11_feed_59 (by decide) ?_
                refine lv_icmp_ge (tgt := 69) hx hb dX11_feed_61 (by decide) (fun c20400523 => ?_) (fun c20400523 => ?_)
                · skip
                  have kc20400523 : 16 ≤ x20400473.toInt := le_ti (by decide) rfl c20400523
                  refine lv_iload hx hb dX11_feed_69 (lv_at hl 6 rfl) ?_
                  exact J20400512 p5 _ _ ls (hP.sub (ws' := [(a, .inr (11, OX z x20400474 i2 i3 i4 i5 i6 i7 i8 i30 i43 i45 i46 i47 i48 i49 i50 i51 i58 i59 i65 i68 i69 i72 i78 i80 i81 i82 i87 i92 i96 i100 i103 i104)), ((z 0), .inl (T 0, 700, .inl f20400475))]) [0, 1] rfl) (hD.sub (ws' := [(a, .inr (11, OX z x20400474 i2 i3 i4 i5 i6 i7 i8 i30 i43 i45 i46 i47 i48 i49 i50 i51 i58 i59 i65 i68 i69 i72 i78 i80 i81 i82 i87 i92 i96 i100 i103 i104)), ((z 0), .inl (T 0, 700, .inl f20400475))]) [0, 1] (by decide +kernel) rfl) hS (lv_sub hl [0, 1, 2, 3, 4, 5, 6] rfl)
                · skip
                  have kc20400523 : x20400473.toInt < 16 := nle_ti (by decide) rfl c20400523
                  refine lv_iload hx hb dX11_feed_64 (lv_at hl 5 rfl) ?_
                  refine lv_goto (tgt := 71) hx hb dX11_feed_66 (by decide) ?_
                  exact J20400512 p4 _ _ ls (hP.sub (ws' := [(a, .inr (11, OX z x20400474 i2 i3 i4 i5 i6 i7 i8 i30 i43 i45 i46 i47 i48 i49 i50 i51 i58 i59 i65 i68 i69 i72 i78 i80 i81 i82 i87 i92 i96 i100 i103 i104)), ((z 0), .inl (T 0, 700, .inl f20400475))]) [0, 1] rfl) (hD.sub (ws' := [(a, .inr (11, OX z x20400474 i2 i3 i4 i5 i6 i7 i8 i30 i43 i45 i46 i47 i48 i49 i50 i51 i58 i59 i65 i68 i69 i72 i78 i80 i81 i82 i87 i92 i96 i100 i103 i104)), ((z 0), .inl (T 0, 700, .inl f20400475))]) [0, 1] (by decide +kernel) rfl) hS (lv_sub hl [0, 1, 2, 3, 4, 5, 6] rfl)
              · skip
                have kc20400522 : x20400473.toInt < 12 := nle_ti (by decide) rfl c20400522
                refine lv_iload_n hx hb dX11_feed_53 rfl (lv_at hl 4 rfl) ?_
                refine lv_goto (tgt := 71) hx hb dX11_feed_54 (by decide) ?_
                exact J20400512 p3 _ _ ls (hP.sub (ws' := [(a, .inr (11, OX z x20400474 i2 i3 i4 i5 i6 i7 i8 i30 i43 i45 i46 i47 i48 i49 i50 i51 i58 i59 i65 i68 i69 i72 i78 i80 i81 i82 i87 i92 i96 i100 i103 i104)), ((z 0), .inl (T 0, 700, .inl f20400475))]) [0, 1] rfl) (hD.sub (ws' := [(a, .inr (11, OX z x20400474 i2 i3 i4 i5 i6 i7 i8 i30 i43 i45 i46 i47 i48 i49 i50 i51 i58 i59 i65 i68 i69 i72 i78 i80 i81 i82 i87 i92 i96 i100 i103 i104)), ((z 0), .inl (T 0, 700, .inl f20400475))]) [0, 1] (by decide +kernel) rfl) hS (lv_sub hl [0, 1, 2, 3, 4, 5, 6] rfl)
            · skip
              have kc20400521 : x20400473.toInt < 8 := nle_ti (by decide) rfl c20400521
              refine lv_iload_n hx hb dX11_feed_42 rfl (lv_at hl 3 rfl) ?_
              refine lv_goto (tgt := 71) hx hb dX11_feed_43 (by decide) ?_
              exact J20400512 p2 _ _ ls (hP.sub (ws' := [(a, .inr (11, OX z x20400474 i2 i3 i4 i5 i6 i7 i8 i30 i43 i45 i46 i47 i48 i49 i50 i51 i58 i59 i65 i68 i69 i72 i78 i80 i81 i82 i87 i92 i96 i100 i103 i104)), ((z 0), .inl (T 0, 700, .inl f20400475))]) [0, 1] rfl) (hD.sub (ws' := [(a, .inr (11, OX z x20400474 i2 i3 i4 i5 i6 i7 i8 i30 i43 i45 i46 i47 i48 i49 i50 i51 i58 i59 i65 i68 i69 i72 i78 i80 i81 i82 i87 i92 i96 i100 i103 i104)), ((z 0), .inl (T 0, 700, .inl f20400475))]) [0, 1] (by decide +kernel) rfl) hS (lv_sub hl [0, 1, 2, 3, 4, 5, 6] rfl)
          · skip
            have kc20400507 : x20400473.toInt < 4 := nle_ti (by decide) rfl c20400507
            refine lv_iload_n hx hb dX11_feed_31 rfl (lv_at hl 2 rfl) ?_
            refine lv_goto (tgt := 71) hx hb dX11_feed_32 (by decide) ?_
            exact J20400512 p1 _ _ ls (hP.sub (ws' := [(a, .inr (11, OX z x20400474 i2 i3 i4 i5 i6 i7 i8 i30 i43 i45 i46 i47 i48 i49 i50 i51 i58 i59 i65 i68 i69 i72 i78 i80 i81 i82 i87 i92 i96 i100 i103 i104)), ((z 0), .inl (T 0, 700, .inl f20400475))]) [0, 1] rfl) (hD.sub (ws' := [(a, .inr (11, OX z x20400474 i2 i3 i4 i5 i6 i7 i8 i30 i43 i45 i46 i47 i48 i49 i50 i51 i58 i59 i65 i68 i69 i72 i78 i80 i81 i82 i87 i92 i96 i100 i103 i104)), ((z 0), .inl (T 0, 700, .inl f20400475))]) [0, 1] (by decide +kernel) rfl) hS (lv_sub hl [0, 1, 2, 3, 4, 5, 6] rfl)
    have hl20400524 : (0 : Int32).toInt = 0 := by decide
    exact L20400490 _ 0 i1 g0 _ _ ls ⟨by decide, by decide⟩ ⟨by omega, by omega⟩ (by omega) (Nat.lt_succ_self _) (hP.sub (ws' := [(a, .inr (11, OX z i1 i2 i3 i4 i5 i6 i7 i8 i30 i43 i45 i46 i47 i48 i49 i50 i51 i58 i59 i65 i68 i69 i72 i78 i80 i81 i82 i87 i92 i96 i100 i103 i104)), ((z 0), .inl (T 0, 700, .inl g0))]) [0, 1] rfl) (hD.sub (ws' := [(a, .inr (11, OX z i1 i2 i3 i4 i5 i6 i7 i8 i30 i43 i45 i46 i47 i48 i49 i50 i51 i58 i59 i65 i68 i69 i72 i78 i80 i81 i82 i87 i92 i96 i100 i103 i104)), ((z 0), .inl (T 0, 700, .inl g0))]) [0, 1] (by decide +kernel) rfl) hS (lv_sub hl [0, 1, 2, 3, 4, 5, 6] rfl)
  · skip
    have kc20400254 : 700 < x20400253.toInt := nle_ti rfl (by decide) c20400254
    refine lv_iconst (v := (-1)) hx hb dX11_feed_13 (by decide) ?_
    have hl20400525 : ((-1) : Int32).toInt = -1 := by decide
    exact r_iret (i1, g0) C0 hr hlocks hS (Nat.le_refl _) (Nat.le_refl _) dX11_feed_14 ⟨⟨by omega, by omega⟩, (by omega), ⟨by decide, by decide⟩⟩ (hP.sub (ws' := [(a, .inr (11, OX z i1 i2 i3 i4 i5 i6 i7 i8 i30 i43 i45 i46 i47 i48 i49 i50 i51 i58 i59 i65 i68 i69 i72 i78 i80 i81 i82 i87 i92 i96 i100 i103 i104)), ((z 0), .inl (T 0, 700, .inl g0))]) [0, 1] rfl) (hD.sub (ws' := [(a, .inr (11, OX z i1 i2 i3 i4 i5 i6 i7 i8 i30 i43 i45 i46 i47 i48 i49 i50 i51 i58 i59 i65 i68 i69 i72 i78 i80 i81 i82 i87 i92 i96 i100 i103 i104)), ((z 0), .inl (T 0, 700, .inl g0))]) [0, 1] (by decide +kernel) rfl)
set_option maxHeartbeats 4000000 in
set_option maxRecDepth 100000 in
theorem h_X11_end_20500005 (l : Launch) (D : va_G) (T : Nat → ClassId) (sq sv sz : Nat) (a : Nat) (z : Nat → Nat) (i1 i2 i3 i4 i5 i6 i7 i8 i30 i43 i45 i46 i47 i48 i49 i50 i51 i58 i59 i65 i68 i69 i72 i78 i80 i81 i82 i87 i92 i96 i100 i103 i104 : Int32) (p1 : Int32) (hi1 : 0 ≤ i1.toInt ∧ i1.toInt ≤ 700) : Met l yX11_end (.code yX11_end cX11_end 2 (some .boolean) :: TB) { frames := 0, cells := 0, slots := 0, locals := 0 } (PC2 D T sq sv [.ref a, .int p1] [(a, .inr (11, OX z i1 i2 i3 i4 i5 i6 i7 i8 i30 i43 i45 i46 i47 i48 i49 i50 i51 i58 i59 i65 i68 i69 i72 i78 i80 i81 i82 i87 i92 i96 i100 i103 i104))] sz) (Qi (S := Int32) (fun (r : Int32) (ui1 : Int32) => (0 ≤ ui1.toInt ∧ ui1.toInt ≤ 700) ∧ ((0 ≤ p1.toInt ∧ p1.toInt ≤ i1.toInt ∧ ui1.toInt = p1.toInt ∧ r.toInt = 1) ∨ ((p1.toInt < 0 ∨ i1.toInt < p1.toInt) ∧ ui1.toInt = i1.toInt ∧ r.toInt = 0)) ∧ (0 ≤ r.toInt ∧ r.toInt ≤ 1)) (fun (ui1 : Int32) => [(a, .inr (11, OX z ui1 i2 i3 i4 i5 i6 i7 i8 i30 i43 i45 i46 i47 i48 i49 i50 i51 i58 i59 i65 i68 i69 i72 i78 i80 i81 i82 i87 i92 i96 i100 i103 i104))]) D (va_A [(a, .inr (11, OX z i1 i2 i3 i4 i5 i6 i7 i8 i30 i43 i45 i46 i47 i48 i49 i50 i51 i58 i59 i65 i68 i69 i72 i78 i80 i81 i82 i87 i92 i96 i100 i103 i104))] sz)) 0 0 (va_A [(a, .inr (11, OX z i1 i2 i3 i4 i5 i6 i7 i8 i30 i43 i45 i46 i47 i48 i49 i50 i51 i58 i59 i65 i68 i69 i72 i78 i80 i81 i82 i87 i92 i96 i100 i103 i104))] sz) := by
  refine ct_begin2 (Qc := Qi (S := Int32) (fun (r : Int32) (ui1 : Int32) => (0 ≤ ui1.toInt ∧ ui1.toInt ≤ 700) ∧ ((0 ≤ p1.toInt ∧ p1.toInt ≤ i1.toInt ∧ ui1.toInt = p1.toInt ∧ r.toInt = 1) ∨ ((p1.toInt < 0 ∨ i1.toInt < p1.toInt) ∧ ui1.toInt = i1.toInt ∧ r.toInt = 0)) ∧ (0 ≤ r.toInt ∧ r.toInt ≤ 1)) (fun (ui1 : Int32) => [(a, .inr (11, OX z ui1 i2 i3 i4 i5 i6 i7 i8 i30 i43 i45 i46 i47 i48 i49 i50 i51 i58 i59 i65 i68 i69 i72 i78 i80 i81 i82 i87 i92 i96 i100 i103 i104))]) D) (by decide +kernel) (Nat.le_of_ble_eq_true rfl) ?_
  intro p e s m below meth c A ls C0 hr hlocks hnm hE hStr hA hP hD hl
  generalize ([.ref a, .int p1] : List Value).toArray = args at C0 ⊢
  have hx := C0.1
  have hb := C0.2.1
  have hml := C0.2.2.1
  have hown := C0.2.2.2.1
  have hT := C0.2.2.2.2
  have hK := hE.1
  generalize hH : s.heap = H at hP ⊢
  have hS : va_S A s.heap H [] := by rw [← hH]; exact va_S.rf
  have hP : va_P D vwCl [(a, .inr (11, OX z i1 i2 i3 i4 i5 i6 i7 i8 i30 i43 i45 i46 i47 i48 i49 i50 i51 i58 i59 i65 i68 i69 i72 i78 i80 i81 i82 i87 i92 i96 i100 i103 i104))] H := hP
  have hD : va_D A [(a, .inr (11, OX z i1 i2 i3 i4 i5 i6 i7 i8 i30 i43 i45 i46 i47 i48 i49 i50 i51 i58 i59 i65 i68 i69 i72 i78 i80 i81 i82 i87 i92 i96 i100 i103 i104))] := hD
  have hl : lv_has ls 2 [(0, .ref a), (1, .int p1)] := hl
  refine lv_iload_n hx hb dX11_end_0 rfl (lv_at hl 1 rfl) ?_
  refine lv_if_lt (tgt := 12) hx hb dX11_end_1 (by decide) (fun c20500006 => ?_) (fun c20500006 => ?_)
  · skip
    have kc20500006 : p1.toInt < 0 := lt_ti rfl (by decide) c20500006
    have rg20500007 := i32_rng p1
    refine lv_iconst (v := 0) hx hb dX11_end_12 (by decide) ?_
    have hl20500008 : (0 : Int32).toInt = 0 := by decide
    exact r_zret (i1 : Int32) C0 hr (by decide +kernel) hlocks hS (Nat.le_refl _) (Nat.le_refl _) dX11_end_13 ⟨⟨by omega, by omega⟩, (by omega), ⟨by decide, by decide⟩⟩ (hP.sub (ws' := [(a, .inr (11, OX z i1 i2 i3 i4 i5 i6 i7 i8 i30 i43 i45 i46 i47 i48 i49 i50 i51 i58 i59 i65 i68 i69 i72 i78 i80 i81 i82 i87 i92 i96 i100 i103 i104))]) [0] rfl) (hD.sub (ws' := [(a, .inr (11, OX z i1 i2 i3 i4 i5 i6 i7 i8 i30 i43 i45 i46 i47 i48 i49 i50 i51 i58 i59 i65 i68 i69 i72 i78 i80 i81 i82 i87 i92 i96 i100 i103 i104))]) [0] (by decide +kernel) rfl)
  · skip
    have kc20500006 : 0 ≤ p1.toInt := nlt_ti rfl (by decide) c20500006
    refine lv_iload_n hx hb dX11_end_4 rfl (lv_at hl 1 rfl) ?_
    refine lv_aload_n hx hb dX11_end_5 rfl (lv_at hl 0 rfl) ?_
    refine r_get (v := .int i1) C0 hE ffX11_1 mw_791 hP 0 rfl ox_1 dX11_end_6 ?_
    refine lv_icmp_le (tgt := 14) hx hb dX11_end_9 (by decide) (fun c20500009 => ?_) (fun c20500009 => ?_)
    · skip
      have kc20500009 : p1.toInt ≤ i1.toInt := le_ti rfl rfl c20500009
      refine lv_aload_n hx hb dX11_end_14 rfl (lv_at hl 0 rfl) ?_
      refine lv_iload_n hx hb dX11_end_15 rfl (lv_at hl 1 rfl) ?_
      refine r_put (v := .int p1) (ty := .int) (ws1 := [(a, .inr (11, OX z p1 i2 i3 i4 i5 i6 i7 i8 i30 i43 i45 i46 i47 i48 i49 i50 i51 i58 i59 i65 i68 i69 i72 i78 i80 i81 i82 i87 i92 i96 i100 i103 i104))]) C0 hE ffX11_1 tyX11 tyX11_ok nmX11 mw_791 pf_1358 hP hD hS 0 rfl rfl rfl ol_1 os_1 rfl dX11_end_16 (fun H locs hP hD hS => ?_)
      refine lv_iconst (v := 1) hx hb dX11_end_19 (by decide) ?_
      have hl20500010 : (1 : Int32).toInt = 1 := by decide
      exact r_zret (p1 : Int32) C0 hr (by decide +kernel) hlocks hS (Nat.le_refl _) (Nat.le_refl _) dX11_end_20 ⟨⟨by omega, by omega⟩, (by omega), ⟨by decide, by decide⟩⟩ (hP.sub (ws' := [(a, .inr (11, OX z p1 i2 i3 i4 i5 i6 i7 i8 i30 i43 i45 i46 i47 i48 i49 i50 i51 i58 i59 i65 i68 i69 i72 i78 i80 i81 i82 i87 i92 i96 i100 i103 i104))]) [0] rfl) (hD.sub (ws' := [(a, .inr (11, OX z p1 i2 i3 i4 i5 i6 i7 i8 i30 i43 i45 i46 i47 i48 i49 i50 i51 i58 i59 i65 i68 i69 i72 i78 i80 i81 i82 i87 i92 i96 i100 i103 i104))]) [0] (by decide +kernel) rfl)
    · skip
      have kc20500009 : i1.toInt < p1.toInt := nle_ti rfl rfl c20500009
      have rg20500011 := i32_rng p1
      refine lv_iconst (v := 0) hx hb dX11_end_12 (by decide) ?_
      have hl20500012 : (0 : Int32).toInt = 0 := by decide
      exact r_zret (i1 : Int32) C0 hr (by decide +kernel) hlocks hS (Nat.le_refl _) (Nat.le_refl _) dX11_end_13 ⟨⟨by omega, by omega⟩, (by omega), ⟨by decide, by decide⟩⟩ (hP.sub (ws' := [(a, .inr (11, OX z i1 i2 i3 i4 i5 i6 i7 i8 i30 i43 i45 i46 i47 i48 i49 i50 i51 i58 i59 i65 i68 i69 i72 i78 i80 i81 i82 i87 i92 i96 i100 i103 i104))]) [0] rfl) (hD.sub (ws' := [(a, .inr (11, OX z i1 i2 i3 i4 i5 i6 i7 i8 i30 i43 i45 i46 i47 i48 i49 i50 i51 i58 i59 i65 i68 i69 i72 i78 i80 i81 i82 i87 i92 i96 i100 i103 i104))]) [0] (by decide +kernel) rfl)
set_option maxHeartbeats 4000000 in
set_option maxRecDepth 100000 in
theorem h_X11_look_20600027 (l : Launch) (D : va_G) (T : Nat → ClassId) (sq sv sz : Nat) (a : Nat) (z : Nat → Nat) (i1 i2 i3 i4 i5 i6 i7 i8 i30 i43 i45 i46 i47 i48 i49 i50 i51 i58 i59 i65 i68 i69 i72 i78 i80 i81 i82 i87 i92 i96 i100 i103 i104 : Int32) (g0 : Nat → Int32) (hi2 : 0 ≤ i2.toInt ∧ i2.toInt ≤ 700) (hi3 : 0 ≤ i3.toInt ∧ i3.toInt ≤ 700) : Met l yX11_look (.code yX11_look cX11_look 1 (some .int) :: TB) { frames := 0, cells := 0, slots := 0, locals := 0 } (PC2 D T sq sv [.ref a] [(a, .inr (11, OX z i1 i2 i3 i4 i5 i6 i7 i8 i30 i43 i45 i46 i47 i48 i49 i50 i51 i58 i59 i65 i68 i69 i72 i78 i80 i81 i82 i87 i92 i96 i100 i103 i104)), ((z 0), .inl (T 0, 700, .inl g0))] sz) (Qi (S := Int32) (fun (r : Int32) (ui2 : Int32) => (0 ≤ ui2.toInt ∧ ui2.toInt ≤ 700) ∧ (i2.toInt ≤ ui2.toInt) ∧ (((r.toInt = -1 ∧ i2.toInt ≤ ui2.toInt)) ∨ ((i2.toInt ≤ ui2.toInt ∧ ui2.toInt < i3.toInt ∧ r.toInt = (g0 (Int32.toNatClampNeg ui2)).toInt)))) (fun (ui2 : Int32) => [(a, .inr (11, OX z i1 ui2 i3 i4 i5 i6 i7 i8 i30 i43 i45 i46 i47 i48 i49 i50 i51 i58 i59 i65 i68 i69 i72 i78 i80 i81 i82 i87 i92 i96 i100 i103 i104)), ((z 0), .inl (T 0, 700, .inl g0))]) D (va_A [(a, .inr (11, OX z i1 i2 i3 i4 i5 i6 i7 i8 i30 i43 i45 i46 i47 i48 i49 i50 i51 i58 i59 i65 i68 i69 i72 i78 i80 i81 i82 i87 i92 i96 i100 i103 i104)), ((z 0), .inl (T 0, 700, .inl g0))] sz)) 0 0 (va_A [(a, .inr (11, OX z i1 i2 i3 i4 i5 i6 i7 i8 i30 i43 i45 i46 i47 i48 i49 i50 i51 i58 i59 i65 i68 i69 i72 i78 i80 i81 i82 i87 i92 i96 i100 i103 i104)), ((z 0), .inl (T 0, 700, .inl g0))] sz) := by
  refine ct_begin2 (Qc := Qi (S := Int32) (fun (r : Int32) (ui2 : Int32) => (0 ≤ ui2.toInt ∧ ui2.toInt ≤ 700) ∧ (i2.toInt ≤ ui2.toInt) ∧ (((r.toInt = -1 ∧ i2.toInt ≤ ui2.toInt)) ∨ ((i2.toInt ≤ ui2.toInt ∧ ui2.toInt < i3.toInt ∧ r.toInt = (g0 (Int32.toNatClampNeg ui2)).toInt)))) (fun (ui2 : Int32) => [(a, .inr (11, OX z i1 ui2 i3 i4 i5 i6 i7 i8 i30 i43 i45 i46 i47 i48 i49 i50 i51 i58 i59 i65 i68 i69 i72 i78 i80 i81 i82 i87 i92 i96 i100 i103 i104)), ((z 0), .inl (T 0, 700, .inl g0))]) D) (by decide +kernel) (Nat.le_of_ble_eq_true rfl) ?_
  intro p e s m below meth c A ls C0 hr hlocks hnm hE hStr hA hP hD hl
  generalize ([.ref a] : List Value).toArray = args at C0 ⊢
  have hx := C0.1
  have hb := C0.2.1
  have hml := C0.2.2.1
  have hown := C0.2.2.2.1
  have hT := C0.2.2.2.2
  have hK := hE.1
  generalize hH : s.heap = H at hP ⊢
  have hS : va_S A s.heap H [] := by rw [← hH]; exact va_S.rf
  have hP : va_P D vwCl [(a, .inr (11, OX z i1 i2 i3 i4 i5 i6 i7 i8 i30 i43 i45 i46 i47 i48 i49 i50 i51 i58 i59 i65 i68 i69 i72 i78 i80 i81 i82 i87 i92 i96 i100 i103 i104)), ((z 0), .inl (T 0, 700, .inl g0))] H := hP
  have hD : va_D A [(a, .inr (11, OX z i1 i2 i3 i4 i5 i6 i7 i8 i30 i43 i45 i46 i47 i48 i49 i50 i51 i58 i59 i65 i68 i69 i72 i78 i80 i81 i82 i87 i92 i96 i100 i103 i104)), ((z 0), .inl (T 0, 700, .inl g0))] := hD
  have hl : lv_has ls 1 [(0, .ref a)] := hl
  have L20600043 : ∀ (n : Nat) (x20600035 : Int32) (H : Heap) (locs : List Loc) (ls : Array Slot), (0 ≤ x20600035.toInt ∧ x20600035.toInt ≤ 700) → (i2.toInt ≤ x20600035.toInt) → (701 - x20600035.toInt).toNat < n → va_P D vwCl [(a, .inr (11, OX z i1 x20600035 i3 i4 i5 i6 i7 i8 i30 i43 i45 i46 i47 i48 i49 i50 i51 i58 i59 i65 i68 i69 i72 i78 i80 i81 i82 i87 i92 i96 i100 i103 i104)), ((z 0), .inl (T 0, 700, .inl g0))] H → va_D A [(a, .inr (11, OX z i1 x20600035 i3 i4 i5 i6 i7 i8 i30 i43 i45 i46 i47 i48 i49 i50 i51 i58 i59 i65 i68 i69 i72 i78 i80 i81 i82 i87 i92 i96 i100 i103 i104)), ((z 0), .inl (T 0, 700, .inl g0))] → va_S A s.heap H locs → lv_has ls 1 [(0, .ref a)] → W p l e { frames := 0, cells := 0, slots := 0, locals := 0 } s m args below meth c H locs 0 0 (MQ below ((Qi (S := Int32) (fun (r : Int32) (ui2 : Int32) => (0 ≤ ui2.toInt ∧ ui2.toInt ≤ 700) ∧ (i2.toInt ≤ ui2.toInt) ∧ (((r.toInt = -1 ∧ i2.toInt ≤ ui2.toInt)) ∨ ((i2.toInt ≤ ui2.toInt ∧ ui2.toInt < i3.toInt ∧ r.toInt = (g0 (Int32.toNatClampNeg ui2)).toInt)))) (fun (ui2 : Int32) => [(a, .inr (11, OX z i1 ui2 i3 i4 i5 i6 i7 i8 i30 i43 i45 i46 i47 i48 i49 i50 i51 i58 i59 i65 i68 i69 i72 i78 i80 i81 i82 i87 i92 i96 i100 i103 i104)), ((z 0), .inl (T 0, 700, .inl g0))]) D) A) args s 0 0 A) (F0 m 0 ls []) := by
    intro n
    induction n with
    | zero =>
      intro x20600035 H locs ls hx20600035 hr20600044 hms hP hD hS hl
      exact absurd hms (Nat.not_lt_zero _)
    | succ n ih20600045 =>
      intro x20600035 H locs ls hx20600035 hr20600044 hms hP hD hS hl
      refine lv_aload_n hx hb dX11_look_0 rfl (lv_at hl 0 rfl) ?_
      refine r_get (v := .int x20600035) C0 hE ffX11_2 mw_792 hP 0 rfl ox_2 dX11_look_1 ?_
      refine lv_aload_n hx hb dX11_look_4 rfl (lv_at hl 0 rfl) ?_
      refine r_get (v := .int i3) C0 hE ffX11_3 mw_793 hP 0 rfl ox_3 dX11_look_5 ?_
      refine lv_icmp_ge (tgt := 52) hx hb dX11_look_8 (by decide) (fun c20600046 => ?_) (fun c20600046 => ?_)
      · skip
        have kc20600046 : i3.toInt ≤ x20600035.toInt := le_ti rfl rfl c20600046
        refine lv_aload_n hx hb dX11_look_52 rfl (lv_at hl 0 rfl) ?_
        refine r_get (v := .int x20600035) C0 hE ffX11_2 mw_792 hP 0 rfl ox_2 dX11_look_53 ?_
        refine lv_aload_n hx hb dX11_look_56 rfl (lv_at hl 0 rfl) ?_
        refine r_get (v := .int i3) C0 hE ffX11_3 mw_793 hP 0 rfl ox_3 dX11_look_57 ?_
        refine lv_icmp_ge (tgt := 75) hx hb dX11_look_60 (by decide) (fun c20600047 => ?_) (fun c20600047 => ?_)
        · skip
          have kc20600047 : i3.toInt ≤ x20600035.toInt := le_ti rfl rfl c20600047
          refine lv_iconst (v := (-1)) hx hb dX11_look_75 (by decide) ?_
          have hl20600048 : ((-1) : Int32).toInt = -1 := by decide
          have hl20600049 : ((-1) : Int32).toInt = -1 := by decide
          exact r_iret (x20600035 : Int32) C0 hr hlocks hS (Nat.le_refl _) (Nat.le_refl _) dX11_look_76 ⟨⟨by omega, by omega⟩, (by omega), (Or.inl (by omega))⟩ (hP.sub (ws' := [(a, .inr (11, OX z i1 x20600035 i3 i4 i5 i6 i7 i8 i30 i43 i45 i46 i47 i48 i49 i50 i51 i58 i59 i65 i68 i69 i72 i78 i80 i81 i82 i87 i92 i96 i100 i103 i104)), ((z 0), .inl (T 0, 700, .inl g0))]) [0, 1] rfl) (hD.sub (ws' := [(a, .inr (11, OX z i1 x20600035 i3 i4 i5 i6 i7 i8 i30 i43 i45 i46 i47 i48 i49 i50 i51 i58 i59 i65 i68 i69 i72 i78 i80 i81 i82 i87 i92 i96 i100 i103 i104)), ((z 0), .inl (T 0, 700, .inl g0))]) [0, 1] (by decide +kernel) rfl)
        · skip
          have kc20600047 : x20600035.toInt < i3.toInt := nle_ti rfl rfl c20600047
          refine lv_aload_n hx hb dX11_look_63 rfl (lv_at hl 0 rfl) ?_
          refine r_get (v := .ref (z 0)) C0 hE ffX11_0 mw_790 hP 0 rfl ox_0 dX11_look_64 ?_
          refine lv_aload_n hx hb dX11_look_67 rfl (lv_at hl 0 rfl) ?_
          refine r_get (v := .int x20600035) C0 hE ffX11_2 mw_792 hP 0 rfl ox_2 dX11_look_68 ?_
          refine va_iald hx hb hK hP 1 0 rfl rfl (in_ti rfl (by omega) (by omega)) dX11_look_71 ?_
          refine lv_topi (fun x20600050 ex20600050 => ?_)
          have tx20600050 : x20600050.toInt = (g0 (Int32.toNatClampNeg x20600035)).toInt := by rw [ex20600050]
          refine lv_goto (tgt := 76) hx hb dX11_look_72 (by decide) ?_
          exact r_iret (x20600035 : Int32) C0 hr hlocks hS (Nat.le_refl _) (Nat.le_refl _) dX11_look_76 ⟨⟨by omega, by omega⟩, (by omega), (Or.inr (by omega))⟩ (hP.sub (ws' := [(a, .inr (11, OX z i1 x20600035 i3 i4 i5 i6 i7 i8 i30 i43 i45 i46 i47 i48 i49 i50 i51 i58 i59 i65 i68 i69 i72 i78 i80 i81 i82 i87 i92 i96 i100 i103 i104)), ((z 0), .inl (T 0, 700, .inl g0))]) [0, 1] rfl) (hD.sub (ws' := [(a, .inr (11, OX z i1 x20600035 i3 i4 i5 i6 i7 i8 i30 i43 i45 i46 i47 i48 i49 i50 i51 i58 i59 i65 i68 i69 i72 i78 i80 i81 i82 i87 i92 i96 i100 i103 i104)), ((z 0), .inl (T 0, 700, .inl g0))]) [0, 1] (by decide +kernel) rfl)
      · skip
        have kc20600046 : x20600035.toInt < i3.toInt := nle_ti rfl rfl c20600046
        refine lv_aload_n hx hb dX11_look_11 rfl (lv_at hl 0 rfl) ?_
        refine r_get (v := .ref (z 0)) C0 hE ffX11_0 mw_790 hP 0 rfl ox_0 dX11_look_12 ?_
        refine lv_aload_n hx hb dX11_look_15 rfl (lv_at hl 0 rfl) ?_
        refine r_get (v := .int x20600035) C0 hE ffX11_2 mw_792 hP 0 rfl ox_2 dX11_look_16 ?_
        refine va_iald hx hb hK hP 1 0 rfl rfl (in_ti rfl (by omega) (by omega)) dX11_look_19 ?_
        refine lv_topi (fun x20600051 ex20600051 => ?_)
        have tx20600051 : x20600051.toInt = (g0 (Int32.toNatClampNeg x20600035)).toInt := by rw [ex20600051]
        refine lv_bipush (v := 10) hx hb dX11_look_20 (by decide) ?_
        refine lv_icmp_eq (tgt := 39) hx hb dX11_look_22 (by decide) (fun c20600052 => ?_) (fun c20600052 => ?_)
        · skip
          have kc20600052 : x20600051.toInt = 10 := eq_ti rfl (by decide) c20600052
          refine lv_aload_n hx hb dX11_look_39 rfl (lv_at hl 0 rfl) ?_
          refine lv_dup hx hb dX11_look_40 rfl ?_
          refine r_get (v := .int x20600035) C0 hE ffX11_2 mw_792 hP 0 rfl ox_2 dX11_look_41 ?_
          refine lv_iconst (v := 1) hx hb dX11_look_44 (by decide) ?_
          refine lv_iadd hx hb dX11_look_45 ?_
          refine lv_topi (fun x20600053 ex20600053 => ?_)
          have hx20600053 : x20600053.toInt = x20600035.toInt + 1 := ti_add ex20600053 rfl (by decide) (by omega) (by omega)
          refine r_put (v := .int x20600053) (ty := .int) (ws1 := [(a, .inr (11, OX z i1 x20600053 i3 i4 i5 i6 i7 i8 i30 i43 i45 i46 i47 i48 i49 i50 i51 i58 i59 i65 i68 i69 i72 i78 i80 i81 i82 i87 i92 i96 i100 i103 i104)), ((z 0), .inl (T 0, 700, .inl g0))]) C0 hE ffX11_2 tyX11 tyX11_ok nmX11 mw_792 pf_1358 hP hD hS 0 rfl rfl rfl ol_2 os_2 rfl dX11_look_46 (fun H locs hP hD hS => ?_)
          refine lv_goto (tgt := 0) hx hb dX11_look_49 (by decide) ?_
          exact ih20600045 x20600053 _ _ ls ⟨by omega, by omega⟩ (by omega) (by omega) (hP.sub (ws' := [(a, .inr (11, OX z i1 x20600053 i3 i4 i5 i6 i7 i8 i30 i43 i45 i46 i47 i48 i49 i50 i51 i58 i59 i65 i68 i69 i72 i78 i80 i81 i82 i87 i92 i96 i100 i103 i104)), ((z 0), .inl (T 0, 700, .inl g0))]) [0, 1] rfl) (hD.sub (ws' := [(a, .inr (11, OX z i1 x20600053 i3 i4 i5 i6 i7 i8 i30 i43 i45 i46 i47 i48 i49 i50 i51 i58 i59 i65 i68 i69 i72 i78 i80 i81 i82 i87 i92 i96 i100 i103 i104)), ((z 0), .inl (T 0, 700, .inl g0))]) [0, 1] (by decide +kernel) rfl) hS (lv_sub hl [0] rfl)
        · skip
          have kc20600052 : x20600051.toInt ≠ 10 := ne_ti rfl (by decide) c20600052
          refine lv_aload_n hx hb dX11_look_25 rfl (lv_at hl 0 rfl) ?_
          refine r_get (v := .ref (z 0)) C0 hE ffX11_0 mw_790 hP 0 rfl ox_0 dX11_look_26 ?_
          refine lv_aload_n hx hb dX11_look_29 rfl (lv_at hl 0 rfl) ?_
          refine r_get (v := .int x20600035) C0 hE ffX11_2 mw_792 hP 0 rfl ox_2 dX11_look_30 ?_
          refine va_iald hx hb hK hP 1 0 rfl rfl (in_ti rfl (by omega) (by omega)) dX11_look_33 ?_
          refine lv_topi (fun x20600054 ex20600054 => ?_)
          have tx20600054 : x20600054.toInt = (g0 (Int32.toNatClampNeg x20600035)).toInt := by rw [ex20600054]
          refine lv_bipush (v := 32) hx hb dX11_look_34 (by decide) ?_
          refine lv_icmp_ne (tgt := 52) hx hb dX11_look_36 (by decide) (fun c20600055 => ?_) (fun c20600055 => ?_)
          · skip
            have kc20600055 : x20600054.toInt ≠ 32 := ne_ti rfl (by decide) c20600055
            refine lv_aload_n hx hb dX11_look_52 rfl (lv_at hl 0 rfl) ?_
            refine r_get (v := .int x20600035) C0 hE ffX11_2 mw_792 hP 0 rfl ox_2 dX11_look_53 ?_
            refine lv_aload_n hx hb dX11_look_56 rfl (lv_at hl 0 rfl) ?_
            refine r_get (v := .int i3) C0 hE ffX11_3 mw_793 hP 0 rfl ox_3 dX11_look_57 ?_
            refine lv_icmp_ge (tgt := 75) hx hb dX11_look_60 (by decide) (fun c20600056 => ?_) (fun c20600056 => ?_)
            · skip
              have kc20600056 : i3.toInt ≤ x20600035.toInt := le_ti rfl rfl c20600056
              refine lv_iconst (v := (-1)) hx hb dX11_look_75 (by decide) ?_
              have hl20600057 : ((-1) : Int32).toInt = -1 := by decide
              have hl20600058 : ((-1) : Int32).toInt = -1 := by decide
              exact r_iret (x20600035 : Int32) C0 hr hlocks hS (Nat.le_refl _) (Nat.le_refl _) dX11_look_76 ⟨⟨by omega, by omega⟩, (by omega), (Or.inl (by omega))⟩ (hP.sub (ws' := [(a, .inr (11, OX z i1 x20600035 i3 i4 i5 i6 i7 i8 i30 i43 i45 i46 i47 i48 i49 i50 i51 i58 i59 i65 i68 i69 i72 i78 i80 i81 i82 i87 i92 i96 i100 i103 i104)), ((z 0), .inl (T 0, 700, .inl g0))]) [0, 1] rfl) (hD.sub (ws' := [(a, .inr (11, OX z i1 x20600035 i3 i4 i5 i6 i7 i8 i30 i43 i45 i46 i47 i48 i49 i50 i51 i58 i59 i65 i68 i69 i72 i78 i80 i81 i82 i87 i92 i96 i100 i103 i104)), ((z 0), .inl (T 0, 700, .inl g0))]) [0, 1] (by decide +kernel) rfl)
            · skip
              have kc20600056 : x20600035.toInt < i3.toInt := nle_ti rfl rfl c20600056
              refine lv_aload_n hx hb dX11_look_63 rfl (lv_at hl 0 rfl) ?_
              refine r_get (v := .ref (z 0)) C0 hE ffX11_0 mw_790 hP 0 rfl ox_0 dX11_look_64 ?_
              refine lv_aload_n hx hb dX11_look_67 rfl (lv_at hl 0 rfl) ?_
              refine r_get (v := .int x20600035) C0 hE ffX11_2 mw_792 hP 0 rfl ox_2 dX11_look_68 ?_
              refine va_iald hx hb hK hP 1 0 rfl rfl (in_ti rfl (by omega) (by omega)) dX11_look_71 ?_
              refine lv_topi (fun x20600059 ex20600059 => ?_)
              have tx20600059 : x20600059.toInt = (g0 (Int32.toNatClampNeg x20600035)).toInt := by rw [ex20600059]
              refine lv_goto (tgt := 76) hx hb dX11_look_72 (by decide) ?_
              exact r_iret (x20600035 : Int32) C0 hr hlocks hS (Nat.le_refl _) (Nat.le_refl _) dX11_look_76 ⟨⟨by omega, by omega⟩, (by omega), (Or.inr (by omega))⟩ (hP.sub (ws' := [(a, .inr (11, OX z i1 x20600035 i3 i4 i5 i6 i7 i8 i30 i43 i45 i46 i47 i48 i49 i50 i51 i58 i59 i65 i68 i69 i72 i78 i80 i81 i82 i87 i92 i96 i100 i103 i104)), ((z 0), .inl (T 0, 700, .inl g0))]) [0, 1] rfl) (hD.sub (ws' := [(a, .inr (11, OX z i1 x20600035 i3 i4 i5 i6 i7 i8 i30 i43 i45 i46 i47 i48 i49 i50 i51 i58 i59 i65 i68 i69 i72 i78 i80 i81 i82 i87 i92 i96 i100 i103 i104)), ((z 0), .inl (T 0, 700, .inl g0))]) [0, 1] (by decide +kernel) rfl)
          · skip
            have kc20600055 : x20600054.toInt = 32 := eq_ti rfl (by decide) c20600055
            refine lv_aload_n hx hb dX11_look_39 rfl (lv_at hl 0 rfl) ?_
            refine lv_dup hx hb dX11_look_40 rfl ?_
            refine r_get (v := .int x20600035) C0 hE ffX11_2 mw_792 hP 0 rfl ox_2 dX11_look_41 ?_
            refine lv_iconst (v := 1) hx hb dX11_look_44 (by decide) ?_
            refine lv_iadd hx hb dX11_look_45 ?_
            refine lv_topi (fun x20600060 ex20600060 => ?_)
            have hx20600060 : x20600060.toInt = x20600035.toInt + 1 := ti_add ex20600060 rfl (by decide) (by omega) (by omega)
            refine r_put (v := .int x20600060) (ty := .int) (ws1 := [(a, .inr (11, OX z i1 x20600060 i3 i4 i5 i6 i7 i8 i30 i43 i45 i46 i47 i48 i49 i50 i51 i58 i59 i65 i68 i69 i72 i78 i80 i81 i82 i87 i92 i96 i100 i103 i104)), ((z 0), .inl (T 0, 700, .inl g0))]) C0 hE ffX11_2 tyX11 tyX11_ok nmX11 mw_792 pf_1358 hP hD hS 0 rfl rfl rfl ol_2 os_2 rfl dX11_look_46 (fun H locs hP hD hS => ?_)
            refine lv_goto (tgt := 0) hx hb dX11_look_49 (by decide) ?_
            exact ih20600045 x20600060 _ _ ls ⟨by omega, by omega⟩ (by omega) (by omega) (hP.sub (ws' := [(a, .inr (11, OX z i1 x20600060 i3 i4 i5 i6 i7 i8 i30 i43 i45 i46 i47 i48 i49 i50 i51 i58 i59 i65 i68 i69 i72 i78 i80 i81 i82 i87 i92 i96 i100 i103 i104)), ((z 0), .inl (T 0, 700, .inl g0))]) [0, 1] rfl) (hD.sub (ws' := [(a, .inr (11, OX z i1 x20600060 i3 i4 i5 i6 i7 i8 i30 i43 i45 i46 i47 i48 i49 i50 i51 i58 i59 i65 i68 i69 i72 i78 i80 i81 i82 i87 i92 i96 i100 i103 i104)), ((z 0), .inl (T 0, 700, .inl g0))]) [0, 1] (by decide +kernel) rfl) hS (lv_sub hl [0] rfl)
  exact L20600043 _ i2 _ _ ls ⟨by omega, by omega⟩ (by omega) (Nat.lt_succ_self _) (hP.sub (ws' := [(a, .inr (11, OX z i1 i2 i3 i4 i5 i6 i7 i8 i30 i43 i45 i46 i47 i48 i49 i50 i51 i58 i59 i65 i68 i69 i72 i78 i80 i81 i82 i87 i92 i96 i100 i103 i104)), ((z 0), .inl (T 0, 700, .inl g0))]) [0, 1] rfl) (hD.sub (ws' := [(a, .inr (11, OX z i1 i2 i3 i4 i5 i6 i7 i8 i30 i43 i45 i46 i47 i48 i49 i50 i51 i58 i59 i65 i68 i69 i72 i78 i80 i81 i82 i87 i92 i96 i100 i103 i104)), ((z 0), .inl (T 0, 700, .inl g0))]) [0, 1] (by decide +kernel) rfl) hS (lv_sub hl [0] rfl)
set_option maxHeartbeats 4000000 in
set_option maxRecDepth 100000 in
theorem h_X11_fault_20700004 (l : Launch) (D : va_G) (T : Nat → ClassId) (sq sv sz : Nat) (a : Nat) (z : Nat → Nat) (i1 i2 i3 i4 i5 i6 i7 i8 i30 i43 i45 i46 i47 i48 i49 i50 i51 i58 i59 i65 i68 i69 i72 i78 i80 i81 i82 i87 i92 i96 i100 i103 i104 : Int32) (p1 : Int32) : Met l yX11_fault (.code yX11_fault cX11_fault 2 (some .int) :: TB) { frames := 0, cells := 0, slots := 0, locals := 0 } (PC2 D T sq sv [.ref a, .int p1] [(a, .inr (11, OX z i1 i2 i3 i4 i5 i6 i7 i8 i30 i43 i45 i46 i47 i48 i49 i50 i51 i58 i59 i65 i68 i69 i72 i78 i80 i81 i82 i87 i92 i96 i100 i103 i104))] sz) (Qi (S := Unit) (fun (r : Int32) (_ : Unit) => True) (fun (_ : Unit) => [(a, .inr (11, OX z i1 i2 i3 i4 i5 i6 i7 i8 i30 i43 i45 i46 i47 i48 i49 i50 i51 i58 i59 i65 i68 i69 i72 i78 i80 i81 i82 i87 i92 i96 i100 i103 i104))]) D (va_A [(a, .inr (11, OX z i1 i2 i3 i4 i5 i6 i7 i8 i30 i43 i45 i46 i47 i48 i49 i50 i51 i58 i59 i65 i68 i69 i72 i78 i80 i81 i82 i87 i92 i96 i100 i103 i104))] sz)) 0 0 (va_A [(a, .inr (11, OX z i1 i2 i3 i4 i5 i6 i7 i8 i30 i43 i45 i46 i47 i48 i49 i50 i51 i58 i59 i65 i68 i69 i72 i78 i80 i81 i82 i87 i92 i96 i100 i103 i104))] sz) := by
  refine ct_begin2 (Qc := Qi (S := Unit) (fun (r : Int32) (_ : Unit) => True) (fun (_ : Unit) => [(a, .inr (11, OX z i1 i2 i3 i4 i5 i6 i7 i8 i30 i43 i45 i46 i47 i48 i49 i50 i51 i58 i59 i65 i68 i69 i72 i78 i80 i81 i82 i87 i92 i96 i100 i103 i104))]) D) (by decide +kernel) (Nat.le_of_ble_eq_true rfl) ?_
  intro p e s m below meth c A ls C0 hr hlocks hnm hE hStr hA hP hD hl
  generalize ([.ref a, .int p1] : List Value).toArray = args at C0 ⊢
  have hx := C0.1
  have hb := C0.2.1
  have hml := C0.2.2.1
  have hown := C0.2.2.2.1
  have hT := C0.2.2.2.2
  have hK := hE.1
  generalize hH : s.heap = H at hP ⊢
  have hS : va_S A s.heap H [] := by rw [← hH]; exact va_S.rf
  have hP : va_P D vwCl [(a, .inr (11, OX z i1 i2 i3 i4 i5 i6 i7 i8 i30 i43 i45 i46 i47 i48 i49 i50 i51 i58 i59 i65 i68 i69 i72 i78 i80 i81 i82 i87 i92 i96 i100 i103 i104))] H := hP
  have hD : va_D A [(a, .inr (11, OX z i1 i2 i3 i4 i5 i6 i7 i8 i30 i43 i45 i46 i47 i48 i49 i50 i51 i58 i59 i65 i68 i69 i72 i78 i80 i81 i82 i87 i92 i96 i100 i103 i104))] := hD
  have hl : lv_has ls 2 [(0, .ref a), (1, .int p1)] := hl
  refine lv_iload_n hx hb dX11_fault_0 rfl (lv_at hl 1 rfl) ?_
  have J20700008 : ∀ (x20700007 : Int32) (H : Heap) (locs : List Loc) (ls : Array Slot), va_P D vwCl [(a, .inr (11, OX z i1 i2 i3 i4 i5 i6 i7 i8 i30 i43 i45 i46 i47 i48 i49 i50 i51 i58 i59 i65 i68 i69 i72 i78 i80 i81 i82 i87 i92 i96 i100 i103 i104))] H → va_D A [(a, .inr (11, OX z i1 i2 i3 i4 i5 i6 i7 i8 i30 i43 i45 i46 i47 i48 i49 i50 i51 i58 i59 i65 i68 i69 i72 i78 i80 i81 i82 i87 i92 i96 i100 i103 i104))] → va_S A s.heap H locs → lv_has ls 2 [(0, .ref a), (1, .int p1)] → W p l e { frames := 0, cells := 0, slots := 0, locals := 0 } s m args below meth c H locs 0 0 (MQ below ((Qi (S := Unit) (fun (r : Int32) (_ : Unit) => True) (fun (_ : Unit) => [(a, .inr (11, OX z i1 i2 i3 i4 i5 i6 i7 i8 i30 i43 i45 i46 i47 i48 i49 i50 i51 i58 i59 i65 i68 i69 i72 i78 i80 i81 i82 i87 i92 i96 i100 i103 i104))]) D) A) args s 0 0 A) (F0 m 24 ls [.int x20700007]) := by
    intro x20700007 H locs ls hP hD hS hl
    exact r_iret () C0 hr hlocks hS (Nat.le_refl _) (Nat.le_refl _) dX11_fault_24 trivial (hP.sub (ws' := [(a, .inr (11, OX z i1 i2 i3 i4 i5 i6 i7 i8 i30 i43 i45 i46 i47 i48 i49 i50 i51 i58 i59 i65 i68 i69 i72 i78 i80 i81 i82 i87 i92 i96 i100 i103 i104))]) [0] rfl) (hD.sub (ws' := [(a, .inr (11, OX z i1 i2 i3 i4 i5 i6 i7 i8 i30 i43 i45 i46 i47 i48 i49 i50 i51 i58 i59 i65 i68 i69 i72 i78 i80 i81 i82 i87 i92 i96 i100 i103 i104))]) [0] (by decide +kernel) rfl)
  refine lv_if_ne (tgt := 11) hx hb dX11_fault_1 (by decide) (fun c20700005 => ?_) (fun c20700005 => ?_)
  · skip
    have kc20700005 : p1.toInt ≠ 0 := ne_ti rfl (by decide) c20700005
    have nzp1 : ¬ p1 = 0 := c20700005
    refine lv_iload_n hx hb dX11_fault_11 rfl (lv_at hl 1 rfl) ?_
    refine lv_iconst (v := 1) hx hb dX11_fault_12 (by decide) ?_
    refine lv_icmp_ne (tgt := 23) hx hb dX11_fault_13 (by decide) (fun c20700009 => ?_) (fun c20700009 => ?_)
    · skip
      have kc20700009 : p1.toInt ≠ 1 := ne_ti rfl (by decide) c20700009
      refine lv_iconst (v := (-1)) hx hb dX11_fault_23 (by decide) ?_
      exact J20700008 (-1) _ _ ls (hP.sub (ws' := [(a, .inr (11, OX z i1 i2 i3 i4 i5 i6 i7 i8 i30 i43 i45 i46 i47 i48 i49 i50 i51 i58 i59 i65 i68 i69 i72 i78 i80 i81 i82 i87 i92 i96 i100 i103 i104))]) [0] rfl) (hD.sub (ws' := [(a, .inr (11, OX z i1 i2 i3 i4 i5 i6 i7 i8 i30 i43 i45 i46 i47 i48 i49 i50 i51 i58 i59 i65 i68 i69 i72 i78 i80 i81 i82 i87 i92 i96 i100 i103 i104))]) [0] (by decide +kernel) rfl) hS (lv_sub hl [0, 1] rfl)
    · skip
      have kc20700009 : p1.toInt = 1 := eq_ti rfl (by decide) c20700009
      refine lv_aload_n hx hb dX11_fault_16 rfl (lv_at hl 0 rfl) ?_
      refine r_get (v := .int i8) C0 hE ffX11_8 mw_798 hP 0 rfl ox_8 dX11_fault_17 ?_
      refine lv_goto (tgt := 24) hx hb dX11_fault_20 (by decide) ?_
      exact J20700008 i8 _ _ ls (hP.sub (ws' := [(a, .inr (11, OX z i1 i2 i3 i4 i5 i6 i7 i8 i30 i43 i45 i46 i47 i48 i49 i50 i51 i58 i59 i65 i68 i69 i72 i78 i80 i81 i82 i87 i92 i96 i100 i103 i104))]) [0] rfl) (hD.sub (ws' := [(a, .inr (11, OX z i1 i2 i3 i4 i5 i6 i7 i8 i30 i43 i45 i46 i47 i48 i49 i50 i51 i58 i59 i65 i68 i69 i72 i78 i80 i81 i82 i87 i92 i96 i100 i103 i104))]) [0] (by decide +kernel) rfl) hS (lv_sub hl [0, 1] rfl)
  · skip
    have kc20700005 : p1.toInt = 0 := eq_ti rfl (by decide) c20700005
    refine lv_aload_n hx hb dX11_fault_4 rfl (lv_at hl 0 rfl) ?_
    refine r_get (v := .int i7) C0 hE ffX11_7 mw_797 hP 0 rfl ox_7 dX11_fault_5 ?_
    refine lv_goto (tgt := 24) hx hb dX11_fault_8 (by decide) ?_
    exact J20700008 i7 _ _ ls (hP.sub (ws' := [(a, .inr (11, OX z i1 i2 i3 i4 i5 i6 i7 i8 i30 i43 i45 i46 i47 i48 i49 i50 i51 i58 i59 i65 i68 i69 i72 i78 i80 i81 i82 i87 i92 i96 i100 i103 i104))]) [0] rfl) (hD.sub (ws' := [(a, .inr (11, OX z i1 i2 i3 i4 i5 i6 i7 i8 i30 i43 i45 i46 i47 i48 i49 i50 i51 i58 i59 i65 i68 i69 i72 i78 i80 i81 i82 i87 i92 i96 i100 i103 i104))]) [0] (by decide +kernel) rfl) hS (lv_sub hl [0, 1] rfl)
