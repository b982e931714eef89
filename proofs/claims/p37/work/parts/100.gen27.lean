set_option maxHeartbeats 4000000 in
set_option maxRecDepth 100000 in
theorem g_X7_mayOpen_184223 (l : Launch) (D : va_G) (T : Nat → ClassId) (sq sv sz : Nat) (z1 : Nat) (z2 : Nat) (z3 : Nat) (p1 : Int32) (w1 : va_W) (hw1 : B_X7 T z1 z2 z3 w1) : Met l yX7_mayOpen (.code yX7_mayOpen cX7_mayOpen 2 (some .boolean) :: TB) { frames := 1, cells := 0, slots := 0, locals := 22 } (PC2 D T sq sv [.ref z1, .int p1] (w1) sz) (Qi (S := va_W) (fun (r : Int32) (u0 : va_W) => B_X7 T z1 z2 z3 u0 ∧ fv u0 3 = fv w1 3 ∧ fv u0 4 = fv w1 4 ∧ fv u0 5 = fv w1 5 ∧ (r.toInt = 0 ∨ p1.toInt < 6) ∧ (0 ≤ r.toInt ∧ r.toInt ≤ 1)) (fun (u0 : va_W) => u0) D (va_A (w1) sz)) 0 0 (va_A (w1) sz) := by
  obtain ⟨x184230, x184231, x184232, x184233, x184234, x184235, rfl, hx184231, hx184232⟩ := hw1
  refine ct_begin2 (Qc := Qi (S := va_W) (fun (r : Int32) (u0 : va_W) => B_X7 T z1 z2 z3 u0 ∧ fv u0 3 = fv ([(z1, .inr (7, [.ref z2, .ref z3, .int x184230, .int x184231, .int x184232, .int x184233, .int x184234, .int x184235]))] : va_W) 3 ∧ fv u0 4 = fv ([(z1, .inr (7, [.ref z2, .ref z3, .int x184230, .int x184231, .int x184232, .int x184233, .int x184234, .int x184235]))] : va_W) 4 ∧ fv u0 5 = fv ([(z1, .inr (7, [.ref z2, .ref z3, .int x184230, .int x184231, .int x184232, .int x184233, .int x184234, .int x184235]))] : va_W) 5 ∧ (r.toInt = 0 ∨ p1.toInt < 6) ∧ (0 ≤ r.toInt ∧ r.toInt ≤ 1)) (fun (u0 : va_W) => u0) D) (by decide +kernel) (Nat.le_of_ble_eq_true rfl) ?_
  intro p e s m below meth c A ls C0 hr hlocks hnm hE hStr hA hP hD hl
  generalize ([.ref z1, .int p1] : List Value).toArray = args at C0 ⊢
  have hx := C0.1
  have hb := C0.2.1
  have hml := C0.2.2.1
  have hown := C0.2.2.2.1
  have hT := C0.2.2.2.2
  have hK := hE.1
  generalize hH : s.heap = H at hP ⊢
  have hS : va_S A s.heap H [] := by rw [← hH]; exact va_S.rf
  have hP : va_P D vwCl [(z1, .inr (7, [.ref z2, .ref z3, .int x184230, .int x184231, .int x184232, .int x184233, .int x184234, .int x184235]))] H := hP
  have hD : va_D A [(z1, .inr (7, [.ref z2, .ref z3, .int x184230, .int x184231, .int x184232, .int x184233, .int x184234, .int x184235]))] := hD
  have hl : lv_has ls 2 [(0, .ref z1), (1, .int p1)] := hl
  refine lv_iload_n hx hb dX7_mayOpen_0 rfl (lv_at hl 1 rfl) ?_
  refine lv_bipush (v := 6) hx hb dX7_mayOpen_1 (by decide) ?_
  refine lv_icmp_lt (tgt := 17) hx hb dX7_mayOpen_3 (by decide) (fun c184236 => ?_) (fun c184236 => ?_)
  · skip
    have kc184236 : p1.toInt < 6 := lt_ti rfl (by decide) c184236
    refine lv_iconst (v := 1) hx hb dX7_mayOpen_17 (by decide) ?_
    exact r_zret ([(z1, .inr (7, [.ref z2, .ref z3, .int x184230, .int x184231, .int x184232, .int x184233, .int x184234, .int x184235]))] : va_W) C0 hr (by decide +kernel) hlocks hS (Nat.le_refl _) (Nat.le_refl _) dX7_mayOpen_18 ⟨⟨x184230, x184231, x184232, x184233, x184234, x184235, rfl, ⟨by omega, by omega⟩, ⟨by omega, by omega⟩⟩, rfl, rfl, rfl, (by first | omega | exact Or.inl (by decide) | exact Or.inr (by omega)), ⟨by decide, by decide⟩⟩ (hP.sub (ws' := [(z1, .inr (7, [.ref z2, .ref z3, .int x184230, .int x184231, .int x184232, .int x184233, .int x184234, .int x184235]))]) [0] rfl) (hD.sub (ws' := [(z1, .inr (7, [.ref z2, .ref z3, .int x184230, .int x184231, .int x184232, .int x184233, .int x184234, .int x184235]))]) [0] (by decide +kernel) rfl)
  · skip
    have kc184236 : 6 ≤ p1.toInt := nlt_ti rfl (by decide) c184236
    refine lv_aload_n hx hb dX7_mayOpen_6 rfl (lv_at hl 0 rfl) ?_
    refine lv_iconst (v := 4) hx hb dX7_mayOpen_7 (by decide) ?_
    refine lv_aload_n hx hb dX7_mayOpen_8 rfl (lv_at hl 0 rfl) ?_
    refine r_get (v := .int x184231) C0 hE ffX7_3 mw_227 hP 0 rfl rfl dX7_mayOpen_9 ?_
    refine r_callv2 (wr := []) (r_runV2 (As := [.int 4, .int x184231]) (rest := []) (wc := [(z1, .inr (7, [.ref z2, .ref z3, .int x184230, .int x184231, .int x184232, .int x184233, .int x184234, .int x184235]))]) (ci := 7) C0 hE hStr hS (va_free (wc := [(z1, .inr (7, [.ref z2, .ref z3, .int x184230, .int x184231, .int x184232, .int x184233, .int x184234, .int x184235]))]) hD hS hA [0] rfl) (g_X7_fail_34872 l D T sq sv H.size z1 z2 z3 4 x184231 [(z1, .inr (7, [.ref z2, .ref z3, .int x184230, .int x184231, .int x184232, .int x184233, .int x184234, .int x184235]))] (⟨x184230, x184231, x184232, x184233, x184234, x184235, rfl, ⟨by omega, by omega⟩, ⟨by omega, by omega⟩⟩)) mw_355 mw_356 mw_1261 mw_11 mw_357 dn_1637 rfl rfl ⟨Nat.le_of_ble_eq_true rfl, Nat.le_of_ble_eq_true rfl⟩ (hP.sub (ws' := [(z1, .inr (7, [.ref z2, .ref z3, .int x184230, .int x184231, .int x184232, .int x184233, .int x184234, .int x184235]))]) [0] rfl) (hD.sub (ws' := [(z1, .inr (7, [.ref z2, .ref z3, .int x184230, .int x184231, .int x184232, .int x184233, .int x184234, .int x184235]))]) [0] (by decide +kernel) rfl) rfl rfl rfl hl.1 rfl (Nat.le_of_ble_eq_true rfl) dX7_mayOpen_12 ⟨Nat.le_of_ble_eq_true rfl, Nat.le_of_ble_eq_true rfl⟩) hP hD hS hA [0] [] rfl rfl (by decide +kernel) (by decide +kernel) (fun u H locs hq hP hD hS => ?_)
    obtain ⟨u184237, rfl⟩ : ∃ z, z = u := ⟨_, rfl⟩
    obtain ⟨hm184238, hkhm184238_3, hkhm184238_4, hkhm184238_5⟩ := hq
    obtain ⟨x184239, x184240, x184241, x184242, x184243, x184244, rfl, hx184240, hx184241⟩ := hm184238
    have hkhm184238_3 : x184231 = x184240 := (fv_inj hkhm184238_3).symm
    subst hkhm184238_3
    have hkhm184238_4 : x184232 = x184241 := (fv_inj hkhm184238_4).symm
    subst hkhm184238_4
    have hkhm184238_5 : x184233 = x184242 := (fv_inj hkhm184238_5).symm
    subst hkhm184238_5
    have hP : va_P D vwCl [(z1, .inr (7, [.ref z2, .ref z3, .int x184239, .int x184231, .int x184232, .int x184233, .int x184243, .int x184244]))] H := hP
    have hD : va_D A [(z1, .inr (7, [.ref z2, .ref z3, .int x184239, .int x184231, .int x184232, .int x184233, .int x184243, .int x184244]))] := hD
    refine W.widen (k := 0) (n := 0) (Nat.le_refl _) (Nat.le_refl _) ?_
    refine lv_iconst (v := 0) hx hb dX7_mayOpen_15 (by decide) ?_
    exact r_zret ([(z1, .inr (7, [.ref z2, .ref z3, .int x184239, .int x184231, .int x184232, .int x184233, .int x184243, .int x184244]))] : va_W) C0 hr (by decide +kernel) hlocks hS (Nat.le_refl _) (Nat.le_refl _) dX7_mayOpen_16 ⟨⟨x184239, x184231, x184232, x184233, x184243, x184244, rfl, ⟨by omega, by omega⟩, ⟨by omega, by omega⟩⟩, rfl, rfl, rfl, (by first | omega | exact Or.inl (by decide) | exact Or.inr (by omega)), ⟨by decide, by decide⟩⟩ (hP.sub (ws' := [(z1, .inr (7, [.ref z2, .ref z3, .int x184239, .int x184231, .int x184232, .int x184233, .int x184243, .int x184244]))]) [0] rfl) (hD.sub (ws' := [(z1, .inr (7, [.ref z2, .ref z3, .int x184239, .int x184231, .int x184232, .int x184233, .int x184243, .int x184244]))]) [0] (by decide +kernel) rfl)
set_option maxHeartbeats 4000000 in
set_option maxRecDepth 100000 in
theorem g_X7_leastFor_184367 (l : Launch) (D : va_G) (T : Nat → ClassId) (sq sv sz : Nat) (p0 : Int32) : Met l yX7_leastFor (.code yX7_leastFor cX7_leastFor 1 (some .int) :: TB) { frames := 0, cells := 0, slots := 0, locals := 0 } (PC2 D T sq sv [.int p0] (([] : va_W)) sz) (Qi (S := Unit) (fun (r : Int32) (_ : Unit) => (0 ≤ r.toInt ∧ r.toInt ≤ 1)) (fun (_ : Unit) => ([] : va_W)) D (va_A (([] : va_W)) sz)) 0 0 (va_A (([] : va_W)) sz) := by
  refine ct_begin2 (Qc := Qi (S := Unit) (fun (r : Int32) (_ : Unit) => (0 ≤ r.toInt ∧ r.toInt ≤ 1)) (fun (_ : Unit) => ([] : va_W)) D) (by decide +kernel) (Nat.le_of_ble_eq_true rfl) ?_
  intro p e s m below meth c A ls C0 hr hlocks hnm hE hStr hA hP hD hl
  generalize ([.int p0] : List Value).toArray = args at C0 ⊢
  have hx := C0.1
  have hb := C0.2.1
  have hml := C0.2.2.1
  have hown := C0.2.2.2.1
  have hT := C0.2.2.2.2
  have hK := hE.1
  generalize hH : s.heap = H at hP ⊢
  have hS : va_S A s.heap H [] := by rw [← hH]; exact va_S.rf
  have hP : va_P D vwCl [] H := hP
  have hD : va_D A [] := hD
  have hl : lv_has ls 1 [(0, .int p0)] := hl
  refine lv_iload_n hx hb dX7_leastFor_0 rfl (lv_at hl 0 rfl) ?_
  refine lv_iconst (v := 2) hx hb dX7_leastFor_1 (by decide) ?_
  have J184370 : ∀ (x184369 : Int32) (H : Heap) (locs : List Loc) (ls : Array Slot), (0 ≤ x184369.toInt ∧ x184369.toInt ≤ 1) → va_P D vwCl [] H → va_D A [] → va_S A s.heap H locs → lv_has ls 1 [(0, .int p0)] → W p l e { frames := 0, cells := 0, slots := 0, locals := 0 } s m args below meth c H locs 0 0 (MQ below ((Qi (S := Unit) (fun (r : Int32) (_ : Unit) => (0 ≤ r.toInt ∧ r.toInt ≤ 1)) (fun (_ : Unit) => ([] : va_W)) D) A) args s 0 0 A) (F0 m 10 ls [.int x184369]) := by
    intro x184369 H locs ls hx184369 hP hD hS hl
    exact r_iret () C0 hr hlocks hS (Nat.le_refl _) (Nat.le_refl _) dX7_leastFor_10 ⟨by omega, by omega⟩ (hP.sub (ws' := []) [] rfl) (hD.sub (ws' := []) [] (by decide +kernel) rfl)
  refine lv_icmp_ne (tgt := 9) hx hb dX7_leastFor_2 (by decide) (fun c184368 => ?_) (fun c184368 => ?_)
  · skip
    have kc184368 : p0.toInt ≠ 2 := ne_ti rfl (by decide) c184368
    refine lv_iconst (v := 1) hx hb dX7_leastFor_9 (by decide) ?_
    exact J184370 1 _ _ ls ⟨by decide, by decide⟩ (hP.sub (ws' := []) [] rfl) (hD.sub (ws' := []) [] (by decide +kernel) rfl) hS (lv_sub hl [0] rfl)
  · skip
    have kc184368 : p0.toInt = 2 := eq_ti rfl (by decide) c184368
    refine lv_iconst (v := 0) hx hb dX7_leastFor_5 (by decide) ?_
    refine lv_goto (tgt := 10) hx hb dX7_leastFor_6 (by decide) ?_
    exact J184370 0 _ _ ls ⟨by decide, by decide⟩ (hP.sub (ws' := []) [] rfl) (hD.sub (ws' := []) [] (by decide +kernel) rfl) hS (lv_sub hl [0] rfl)
set_option maxHeartbeats 4000000 in
set_option maxRecDepth 100000 in
theorem g_X7_mostFor_184495 (l : Launch) (D : va_G) (T : Nat → ClassId) (sq sv sz : Nat) (p0 : Int32) : Met l yX7_mostFor (.code yX7_mostFor cX7_mostFor 1 (some .int) :: TB) { frames := 0, cells := 0, slots := 0, locals := 0 } (PC2 D T sq sv [.int p0] (([] : va_W)) sz) (Qi (S := Unit) (fun (r : Int32) (_ : Unit) => (999 ≤ r.toInt ∧ r.toInt ≤ 9999)) (fun (_ : Unit) => ([] : va_W)) D (va_A (([] : va_W)) sz)) 0 0 (va_A (([] : va_W)) sz) := by
  refine ct_begin2 (Qc := Qi (S := Unit) (fun (r : Int32) (_ : Unit) => (999 ≤ r.toInt ∧ r.toInt ≤ 9999)) (fun (_ : Unit) => ([] : va_W)) D) (by decide +kernel) (Nat.le_of_ble_eq_true rfl) ?_
  intro p e s m below meth c A ls C0 hr hlocks hnm hE hStr hA hP hD hl
  generalize ([.int p0] : List Value).toArray = args at C0 ⊢
  have hx := C0.1
  have hb := C0.2.1
  have hml := C0.2.2.1
  have hown := C0.2.2.2.1
  have hT := C0.2.2.2.2
  have hK := hE.1
  generalize hH : s.heap = H at hP ⊢
  have hS : va_S A s.heap H [] := by rw [← hH]; exact va_S.rf
  have hP : va_P D vwCl [] H := hP
  have hD : va_D A [] := hD
  have hl : lv_has ls 1 [(0, .int p0)] := hl
  refine lv_iload_n hx hb dX7_mostFor_0 rfl (lv_at hl 0 rfl) ?_
  refine lv_if_ne (tgt := 8) hx hb dX7_mostFor_1 (by decide) (fun c184496 => ?_) (fun c184496 => ?_)
  · skip
    have kc184496 : p0.toInt ≠ 0 := ne_ti rfl (by decide) c184496
    have nzp0 : ¬ p0 = 0 := c184496
    refine lv_iload_n hx hb dX7_mostFor_8 rfl (lv_at hl 0 rfl) ?_
    refine lv_iconst (v := 2) hx hb dX7_mostFor_9 (by decide) ?_
    have J184499 : ∀ (x184498 : Int32) (H : Heap) (locs : List Loc) (ls : Array Slot), (1000 ≤ x184498.toInt ∧ x184498.toInt ≤ 9999) → va_P D vwCl [] H → va_D A [] → va_S A s.heap H locs → lv_has ls 1 [(0, .int p0)] → W p l e { frames := 0, cells := 0, slots := 0, locals := 0 } s m args below meth c H locs 0 0 (MQ below ((Qi (S := Unit) (fun (r : Int32) (_ : Unit) => (999 ≤ r.toInt ∧ r.toInt ≤ 9999)) (fun (_ : Unit) => ([] : va_W)) D) A) args s 0 0 A) (F0 m 22 ls [.int x184498]) := by
      intro x184498 H locs ls hx184498 hP hD hS hl
      exact r_iret () C0 hr hlocks hS (Nat.le_refl _) (Nat.le_refl _) dX7_mostFor_22 ⟨by omega, by omega⟩ (hP.sub (ws' := []) [] rfl) (hD.sub (ws' := []) [] (by decide +kernel) rfl)
    refine lv_icmp_ne (tgt := 19) hx hb dX7_mostFor_10 (by decide) (fun c184497 => ?_) (fun c184497 => ?_)
    · skip
      have kc184497 : p0.toInt ≠ 2 := ne_ti rfl (by decide) c184497
      refine lv_sipush (v := 9999) hx hb dX7_mostFor_19 (by decide) ?_
      exact J184499 9999 _ _ ls ⟨by decide, by decide⟩ (hP.sub (ws' := []) [] rfl) (hD.sub (ws' := []) [] (by decide +kernel) rfl) hS (lv_sub hl [0] rfl)
    · skip
      have kc184497 : p0.toInt = 2 := eq_ti rfl (by decide) c184497
      refine lv_sipush (v := 1000) hx hb dX7_mostFor_13 (by decide) ?_
      refine lv_goto (tgt := 22) hx hb dX7_mostFor_16 (by decide) ?_
      exact J184499 1000 _ _ ls ⟨by decide, by decide⟩ (hP.sub (ws' := []) [] rfl) (hD.sub (ws' := []) [] (by decide +kernel) rfl) hS (lv_sub hl [0] rfl)
  · skip
    have kc184496 : p0.toInt = 0 := eq_ti rfl (by decide) c184496
    refine lv_sipush (v := 999) hx hb dX7_mostFor_4 (by decide) ?_
    exact r_iret () C0 hr hlocks hS (Nat.le_refl _) (Nat.le_refl _) dX7_mostFor_7 ⟨by decide, by decide⟩ (hP.sub (ws' := []) [] rfl) (hD.sub (ws' := []) [] (by decide +kernel) rfl)
set_option maxHeartbeats 4000000 in
set_option maxRecDepth 100000 in
theorem g_X7_operationHere_184638 (l : Launch) (D : va_G) (T : Nat → ClassId) (sq sv sz : Nat) (z1 : Nat) (z2 : Nat) (z3 : Nat) (w1 : va_W) (hw1 : B_X7 T z1 z2 z3 w1) : Met l yX7_operationHere (.code yX7_operationHere cX7_operationHere 1 (some .int) :: TB) { frames := 0, cells := 0, slots := 0, locals := 0 } (PC2 D T sq sv [.ref z1] (w1) sz) (Qi (S := Unit) (fun (r : Int32) (_ : Unit) => (-1 ≤ r.toInt ∧ r.toInt ≤ 7)) (fun (_ : Unit) => w1) D (va_A (w1) sz)) 0 0 (va_A (w1) sz) := by
  obtain ⟨x184645, x184646, x184647, x184648, x184649, x184650, rfl, hx184646, hx184647⟩ := hw1
  refine ct_begin2 (Qc := Qi (S := Unit) (fun (r : Int32) (_ : Unit) => (-1 ≤ r.toInt ∧ r.toInt ≤ 7)) (fun (_ : Unit) => ([(z1, .inr (7, [.ref z2, .ref z3, .int x184645, .int x184646, .int x184647, .int x184648, .int x184649, .int x184650]))] : va_W)) D) (by decide +kernel) (Nat.le_of_ble_eq_true rfl) ?_
  intro p e s m below meth c A ls C0 hr hlocks hnm hE hStr hA hP hD hl
  generalize ([.ref z1] : List Value).toArray = args at C0 ⊢
  have hx := C0.1
  have hb := C0.2.1
  have hml := C0.2.2.1
  have hown := C0.2.2.2.1
  have hT := C0.2.2.2.2
  have hK := hE.1
  generalize hH : s.heap = H at hP ⊢
  have hS : va_S A s.heap H [] := by rw [← hH]; exact va_S.rf
  have hP : va_P D vwCl [(z1, .inr (7, [.ref z2, .ref z3, .int x184645, .int x184646, .int x184647, .int x184648, .int x184649, .int x184650]))] H := hP
  have hD : va_D A [(z1, .inr (7, [.ref z2, .ref z3, .int x184645, .int x184646, .int x184647, .int x184648, .int x184649, .int x184650]))] := hD
  have hl : lv_has ls 1 [(0, .ref z1)] := hl
  refine lv_aload_n hx hb dX7_operationHere_0 rfl (lv_at hl 0 rfl) ?_
  refine r_get (v := .int x184645) C0 hE ffX7_2 mw_226 hP 0 rfl rfl dX7_operationHere_1 ?_
  refine lv_iconst (v := 3) hx hb dX7_operationHere_4 (by decide) ?_
  refine lv_icmp_eq (tgt := 10) hx hb dX7_operationHere_5 (by decide) (fun c184651 => ?_) (fun c184651 => ?_)
  · skip
    have kc184651 : x184645.toInt = 3 := eq_ti rfl (by decide) c184651
    refine lv_aload_n hx hb dX7_operationHere_10 rfl (lv_at hl 0 rfl) ?_
    refine r_get (v := .int x184648) C0 hE ffX7_5 mw_229 hP 0 rfl rfl dX7_operationHere_11 ?_
    by_cases c184652 : x184648 = 42
    · skip
      have kc184652 : x184648.toInt = 42 := eq_ti rfl (by decide) c184652
      refine lv_tableIn (off := 42) (tgt := 56) hx hb dX7_operationHere_14 (by omega) (by omega) (by rw [kc184652]; rfl) (by decide) ?_
      refine lv_bipush (v := 6) hx hb dX7_operationHere_56 (by decide) ?_
      exact r_iret () C0 hr hlocks hS (Nat.le_refl _) (Nat.le_refl _) dX7_operationHere_58 ⟨by decide, by decide⟩ (hP.sub (ws' := [(z1, .inr (7, [.ref z2, .ref z3, .int x184645, .int x184646, .int x184647, .int x184648, .int x184649, .int x184650]))]) [0] rfl) (hD.sub (ws' := [(z1, .inr (7, [.ref z2, .ref z3, .int x184645, .int x184646, .int x184647, .int x184648, .int x184649, .int x184650]))]) [0] (by decide +kernel) rfl)
    · skip
      have kc184652 : x184648.toInt ≠ 42 := ne_ti rfl (by decide) c184652
      by_cases c184653 : x184648 = 43
      · skip
        have kc184653 : x184648.toInt = 43 := eq_ti rfl (by decide) c184653
        refine lv_tableIn (off := 38) (tgt := 52) hx hb dX7_operationHere_14 (by omega) (by omega) (by rw [kc184653]; rfl) (by decide) ?_
        refine lv_iconst (v := 4) hx hb dX7_operationHere_52 (by decide) ?_
        exact r_iret () C0 hr hlocks hS (Nat.le_refl _) (Nat.le_refl _) dX7_operationHere_53 ⟨by decide, by decide⟩ (hP.sub (ws' := [(z1, .inr (7, [.ref z2, .ref z3, .int x184645, .int x184646, .int x184647, .int x184648, .int x184649, .int x184650]))]) [0] rfl) (hD.sub (ws' := [(z1, .inr (7, [.ref z2, .ref z3, .int x184645, .int x184646, .int x184647, .int x184648, .int x184649, .int x184650]))]) [0] (by decide +kernel) rfl)
      · skip
        have kc184653 : x184648.toInt ≠ 43 := ne_ti rfl (by decide) c184653
        by_cases c184654 : x184648 = 44
        · skip
          have kc184654 : x184648.toInt = 44 := eq_ti rfl (by decide) c184654
          refine lv_tableIn (off := 48) (tgt := 62) hx hb dX7_operationHere_14 (by omega) (by omega) (by rw [kc184654]; rfl) (by decide) ?_
          refine lv_iconst (v := (-1)) hx hb dX7_operationHere_62 (by decide) ?_
          exact r_iret () C0 hr hlocks hS (Nat.le_refl _) (Nat.le_refl _) dX7_operationHere_63 ⟨by decide, by decide⟩ (hP.sub (ws' := [(z1, .inr (7, [.ref z2, .ref z3, .int x184645, .int x184646, .int x184647, .int x184648, .int x184649, .int x184650]))]) [0] rfl) (hD.sub (ws' := [(z1, .inr (7, [.ref z2, .ref z3, .int x184645, .int x184646, .int x184647, .int x184648, .int x184649, .int x184650]))]) [0] (by decide +kernel) rfl)
        · skip
          have kc184654 : x184648.toInt ≠ 44 := ne_ti rfl (by decide) c184654
          by_cases c184655 : x184648 = 45
          · skip
            have kc184655 : x184648.toInt = 45 := eq_ti rfl (by decide) c184655
            refine lv_tableIn (off := 40) (tgt := 54) hx hb dX7_operationHere_14 (by omega) (by omega) (by rw [kc184655]; rfl) (by decide) ?_
            refine lv_iconst (v := 5) hx hb dX7_operationHere_54 (by decide) ?_
            exact r_iret () C0 hr hlocks hS (Nat.le_refl _) (Nat.le_refl _) dX7_operationHere_55 ⟨by decide, by decide⟩ (hP.sub (ws' := [(z1, .inr (7, [.ref z2, .ref z3, .int x184645, .int x184646, .int x184647, .int x184648, .int x184649, .int x184650]))]) [0] rfl) (hD.sub (ws' := [(z1, .inr (7, [.ref z2, .ref z3, .int x184645, .int x184646, .int x184647, .int x184648, .int x184649, .int x184650]))]) [0] (by decide +kernel) rfl)
          · skip
            have kc184655 : x184648.toInt ≠ 45 := ne_ti rfl (by decide) c184655
            by_cases c184656 : x184648 = 46
            · skip
              have kc184656 : x184648.toInt = 46 := eq_ti rfl (by decide) c184656
              refine lv_tableIn (off := 48) (tgt := 62) hx hb dX7_operationHere_14 (by omega) (by omega) (by rw [kc184656]; rfl) (by decide) ?_
              refine lv_iconst (v := (-1)) hx hb dX7_operationHere_62 (by decide) ?_
              exact r_iret () C0 hr hlocks hS (Nat.le_refl _) (Nat.le_refl _) dX7_operationHere_63 ⟨by decide, by decide⟩ (hP.sub (ws' := [(z1, .inr (7, [.ref z2, .ref z3, .int x184645, .int x184646, .int x184647, .int x184648, .int x184649, .int x184650]))]) [0] rfl) (hD.sub (ws' := [(z1, .inr (7, [.ref z2, .ref z3, .int x184645, .int x184646, .int x184647, .int x184648, .int x184649, .int x184650]))]) [0] (by decide +kernel) rfl)
            · skip
              have kc184656 : x184648.toInt ≠ 46 := ne_ti rfl (by decide) c184656
              by_cases c184657 : x184648 = 47
              · skip
                have kc184657 : x184648.toInt = 47 := eq_ti rfl (by decide) c184657
                refine lv_tableIn (off := 45) (tgt := 59) hx hb dX7_operationHere_14 (by omega) (by omega) (by rw [kc184657]; rfl) (by decide) ?_
                refine lv_bipush (v := 7) hx hb dX7_operationHere_59 (by decide) ?_
                exact r_iret () C0 hr hlocks hS (Nat.le_refl _) (Nat.le_refl _) dX7_operationHere_61 ⟨by decide, by decide⟩ (hP.sub (ws' := [(z1, .inr (7, [.ref z2, .ref z3, .int x184645, .int x184646, .int x184647, .int x184648, .int x184649, .int x184650]))]) [0] rfl) (hD.sub (ws' := [(z1, .inr (7, [.ref z2, .ref z3, .int x184645, .int x184646, .int x184647, .int x184648, .int x184649, .int x184650]))]) [0] (by decide +kernel) rfl)
              · skip
                have kc184657 : x184648.toInt ≠ 47 := ne_ti rfl (by decide) c184657
                refine lv_tableOut (tgt := 62) hx hb dX7_operationHere_14 (by omega) (by decide) ?_
                refine lv_iconst (v := (-1)) hx hb dX7_operationHere_62 (by decide) ?_
                exact r_iret () C0 hr hlocks hS (Nat.le_refl _) (Nat.le_refl _) dX7_operationHere_63 ⟨by decide, by decide⟩ (hP.sub (ws' := [(z1, .inr (7, [.ref z2, .ref z3, .int x184645, .int x184646, .int x184647, .int x184648, .int x184649, .int x184650]))]) [0] rfl) (hD.sub (ws' := [(z1, .inr (7, [.ref z2, .ref z3, .int x184645, .int x184646, .int x184647, .int x184648, .int x184649, .int x184650]))]) [0] (by decide +kernel) rfl)
  · skip
    have kc184651 : x184645.toInt ≠ 3 := ne_ti rfl (by decide) c184651
    refine lv_iconst (v := (-1)) hx hb dX7_operationHere_8 (by decide) ?_
    exact r_iret () C0 hr hlocks hS (Nat.le_refl _) (Nat.le_refl _) dX7_operationHere_9 ⟨by decide, by decide⟩ (hP.sub (ws' := [(z1, .inr (7, [.ref z2, .ref z3, .int x184645, .int x184646, .int x184647, .int x184648, .int x184649, .int x184650]))]) [0] rfl) (hD.sub (ws' := [(z1, .inr (7, [.ref z2, .ref z3, .int x184645, .int x184646, .int x184647, .int x184648, .int x184649, .int x184650]))]) [0] (by decide +kernel) rfl)
set_option maxHeartbeats 4000000 in
set_option maxRecDepth 100000 in
theorem g_X7_comparisonHere_184825 (l : Launch) (D : va_G) (T : Nat → ClassId) (sq sv sz : Nat) (z1 : Nat) (z2 : Nat) (z3 : Nat) (w1 : va_W) (hw1 : B_X7 T z1 z2 z3 w1) : Met l yX7_comparisonHere (.code yX7_comparisonHere cX7_comparisonHere 1 (some .int) :: TB) { frames := 1, cells := 0, slots := 0, locals := 22 } (PC2 D T sq sv [.ref z1] (w1) sz) (Qi (S := va_W) (fun (r : Int32) (u0 : va_W) => B_X7 T z1 z2 z3 u0 ∧ fv u0 3 = fv w1 3 ∧ fv u0 4 = fv w1 4 ∧ fv u0 5 = fv w1 5 ∧ (10 ≤ r.toInt ∧ r.toInt ≤ 12)) (fun (u0 : va_W) => u0) D (va_A (w1) sz)) 0 0 (va_A (w1) sz) := by
  obtain ⟨x184832, x184833, x184834, x184835, x184836, x184837, rfl, hx184833, hx184834⟩ := hw1
  refine ct_begin2 (Qc := Qi (S := va_W) (fun (r : Int32) (u0 : va_W) => B_X7 T z1 z2 z3 u0 ∧ fv u0 3 = fv ([(z1, .inr (7, [.ref z2, .ref z3, .int x184832, .int x184833, .int x184834, .int x184835, .int x184836, .int x184837]))] : va_W) 3 ∧ fv u0 4 = fv ([(z1, .inr (7, [.ref z2, .ref z3, .int x184832, .int x184833, .int x184834, .int x184835, .int x184836, .int x184837]))] : va_W) 4 ∧ fv u0 5 = fv ([(z1, .inr (7, [.ref z2, .ref z3, .int x184832, .int x184833, .int x184834, .int x184835, .int x184836, .int x184837]))] : va_W) 5 ∧ (10 ≤ r.toInt ∧ r.toInt ≤ 12)) (fun (u0 : va_W) => u0) D) (by decide +kernel) (Nat.le_of_ble_eq_true rfl) ?_
  intro p e s m below meth c A ls C0 hr hlocks hnm hE hStr hA hP hD hl
  generalize ([.ref z1] : List Value).toArray = args at C0 ⊢
  have hx := C0.1
  have hb := C0.2.1
  have hml := C0.2.2.1
  have hown := C0.2.2.2.1
  have hT := C0.2.2.2.2
  have hK := hE.1
  generalize hH : s.heap = H at hP ⊢
  have hS : va_S A s.heap H [] := by rw [← hH]; exact va_S.rf
  have hP : va_P D vwCl [(z1, .inr (7, [.ref z2, .ref z3, .int x184832, .int x184833, .int x184834, .int x184835, .int x184836, .int x184837]))] H := hP
  have hD : va_D A [(z1, .inr (7, [.ref z2, .ref z3, .int x184832, .int x184833, .int x184834, .int x184835, .int x184836, .int x184837]))] := hD
  have hl : lv_has ls 1 [(0, .ref z1)] := hl
  refine lv_aload_n hx hb dX7_comparisonHere_0 rfl (lv_at hl 0 rfl) ?_
  refine lv_bipush (v := 60) hx hb dX7_comparisonHere_1 (by decide) ?_
  refine r_calli (wr := []) (r_runV2 (As := [.int 60]) (rest := []) (wc := [(z1, .inr (7, [.ref z2, .ref z3, .int x184832, .int x184833, .int x184834, .int x184835, .int x184836, .int x184837]))]) (ci := 7) C0 hE hStr hS (va_free (wc := [(z1, .inr (7, [.ref z2, .ref z3, .int x184832, .int x184833, .int x184834, .int x184835, .int x184836, .int x184837]))]) hD hS hA [0] rfl) (g_X7_isSign_35167 l D T sq sv H.size z1 z2 z3 60 [(z1, .inr (7, [.ref z2, .ref z3, .int x184832, .int x184833, .int x184834, .int x184835, .int x184836, .int x184837]))] (⟨x184832, x184833, x184834, x184835, x184836, x184837, rfl, ⟨by omega, by omega⟩, ⟨by omega, by omega⟩⟩)) mw_393 mw_394 mw_1270 mw_11 mw_395 dn_1634 rfl rfl ⟨Nat.le_of_ble_eq_true rfl, Nat.le_of_ble_eq_true rfl⟩ (hP.sub (ws' := [(z1, .inr (7, [.ref z2, .ref z3, .int x184832, .int x184833, .int x184834, .int x184835, .int x184836, .int x184837]))]) [0] rfl) (hD.sub (ws' := [(z1, .inr (7, [.ref z2, .ref z3, .int x184832, .int x184833, .int x184834, .int x184835, .int x184836, .int x184837]))]) [0] (by decide +kernel) rfl) rfl rfl rfl hl.1 rfl (Nat.le_of_ble_eq_true rfl) dX7_comparisonHere_3 ⟨Nat.le_of_ble_eq_true rfl, Nat.le_of_ble_eq_true rfl⟩) hP hD hS hA [0] [] rfl rfl (by decide +kernel) (by decide +kernel) (fun x184838 u H locs hq hP hD hS => ?_)
  have hx184838 : 0 ≤ x184838.toInt ∧ x184838.toInt ≤ 1 := hq
  have hP : va_P D vwCl [(z1, .inr (7, [.ref z2, .ref z3, .int x184832, .int x184833, .int x184834, .int x184835, .int x184836, .int x184837]))] H := hP
  have hD : va_D A [(z1, .inr (7, [.ref z2, .ref z3, .int x184832, .int x184833, .int x184834, .int x184835, .int x184836, .int x184837]))] := hD
  refine W.widen (k := 0) (n := 0) (Nat.le_refl _) (Nat.le_refl _) ?_
  refine lv_if_eq (tgt := 12) hx hb dX7_comparisonHere_6 (by decide) (fun c184839 => ?_) (fun c184839 => ?_)
  · skip
    have kc184839 : x184838.toInt = 0 := eq_ti rfl (by decide) c184839
    refine lv_aload_n hx hb dX7_comparisonHere_12 rfl (lv_at hl 0 rfl) ?_
    refine lv_bipush (v := 62) hx hb dX7_comparisonHere_13 (by decide) ?_
    refine r_calli (wr := []) (r_runV2 (As := [.int 62]) (rest := []) (wc := [(z1, .inr (7, [.ref z2, .ref z3, .int x184832, .int x184833, .int x184834, .int x184835, .int x184836, .int x184837]))]) (ci := 7) C0 hE hStr hS (va_free (wc := [(z1, .inr (7, [.ref z2, .ref z3, .int x184832, .int x184833, .int x184834, .int x184835, .int x184836, .int x184837]))]) hD hS hA [0] rfl) (g_X7_isSign_35167 l D T sq sv H.size z1 z2 z3 62 [(z1, .inr (7, [.ref z2, .ref z3, .int x184832, .int x184833, .int x184834, .int x184835, .int x184836, .int x184837]))] (⟨x184832, x184833, x184834, x184835, x184836, x184837, rfl, ⟨by omega, by omega⟩, ⟨by omega, by omega⟩⟩)) mw_393 mw_394 mw_1270 mw_11 mw_395 dn_1634 rfl rfl ⟨Nat.le_of_ble_eq_true rfl, Nat.le_of_ble_eq_true rfl⟩ (hP.sub (ws' := [(z1, .inr (7, [.ref z2, .ref z3, .int x184832, .int x184833, .int x184834, .int x184835, .int x184836, .int x184837]))]) [0] rfl) (hD.sub (ws' := [(z1, .inr (7, [.ref z2, .ref z3, .int x184832, .int x184833, .int x184834, .int x184835, .int x184836, .int x184837]))]) [0] (by decide +kernel) rfl) rfl rfl rfl hl.1 rfl (Nat.le_of_ble_eq_true rfl) dX7_comparisonHere_15 ⟨Nat.le_of_ble_eq_true rfl, Nat.le_of_ble_eq_true rfl⟩) hP hD hS hA [0] [] rfl rfl (by decide +kernel) (by decide +kernel) (fun x184840 u H locs hq hP hD hS => ?_)
    have hx184840 : 0 ≤ x184840.toInt ∧ x184840.toInt ≤ 1 := hq
    have hP : va_P D vwCl [(z1, .inr (7, [.ref z2, .ref z3, .int x184832, .int x184833, .int x184834, .int x184835, .int x184836, .int x184837]))] H := hP
    have hD : va_D A [(z1, .inr (7, [.ref z2, .ref z3, .int x184832, .int x184833, .int x184834, .int x184835, .int x184836, .int x184837]))] := hD
    refine W.widen (k := 0) (n := 0) (Nat.le_refl _) (Nat.le_refl _) ?_
    refine lv_if_eq (tgt := 24) hx hb dX7_comparisonHere_18 (by decide) (fun c184841 => ?_) (fun c184841 => ?_)
    · skip
      have kc184841 : x184840.toInt = 0 := eq_ti rfl (by decide) c184841
      refine lv_aload_n hx hb dX7_comparisonHere_24 rfl (lv_at hl 0 rfl) ?_
      refine lv_bipush (v := 61) hx hb dX7_comparisonHere_25 (by decide) ?_
      refine r_calli (wr := []) (r_runV2 (As := [.int 61]) (rest := []) (wc := [(z1, .inr (7, [.ref z2, .ref z3, .int x184832, .int x184833, .int x184834, .int x184835, .int x184836, .int x184837]))]) (ci := 7) C0 hE hStr hS (va_free (wc := [(z1, .inr (7, [.ref z2, .ref z3, .int x184832, .int x184833, .int x184834, .int x184835, .int x184836, .int x184837]))]) hD hS hA [0] rfl) (g_X7_isSign_35167 l D T sq sv H.size z1 z2 z3 61 [(z1, .inr (7, [.ref z2, .ref z3, .int x184832, .int x184833, .int x184834, .int x184835, .int x184836, .int x184837]))] (⟨x184832, x184833, x184834, x184835, x184836, x184837, rfl, ⟨by omega, by omega⟩, ⟨by omega, by omega⟩⟩)) mw_393 mw_394 mw_1270 mw_11 mw_395 dn_1634 rfl rfl ⟨Nat.le_of_ble_eq_true rfl, Nat.le_of_ble_eq_true rfl⟩ (hP.sub (ws' := [(z1, .inr (7, [.ref z2, .ref z3, .int x184832, .int x184833, .int x184834, .int x184835, .int x184836, .int x184837]))]) [0] rfl) (hD.sub (ws' := [(z1, .inr (7, [.ref z2, .ref z3, .int x184832, .int x184833, .int x184834, .int x184835, .int x184836, .int x184837]))]) [0] (by decide +kernel) rfl) rfl rfl rfl hl.1 rfl (Nat.le_of_ble_eq_true rfl) dX7_comparisonHere_27 ⟨Nat.le_of_ble_eq_true rfl, Nat.le_of_ble_eq_true rfl⟩) hP hD hS hA [0] [] rfl rfl (by decide +kernel) (by decide +kernel) (fun x184842 u H locs hq hP hD hS => ?_)
      have hx184842 : 0 ≤ x184842.toInt ∧ x184842.toInt ≤ 1 := hq
      have hP : va_P D vwCl [(z1, .inr (7, [.ref z2, .ref z3, .int x184832, .int x184833, .int x184834, .int x184835, .int x184836, .int x184837]))] H := hP
      have hD : va_D A [(z1, .inr (7, [.ref z2, .ref z3, .int x184832, .int x184833, .int x184834, .int x184835, .int x184836, .int x184837]))] := hD
      refine W.widen (k := 0) (n := 0) (Nat.le_refl _) (Nat.le_refl _) ?_
      have J184855 : ∀ (x184852 : Int32) (x184853 : Int32) (x184854 : Int32) (H : Heap) (locs : List Loc) (ls : Array Slot), va_P D vwCl [(z1, .inr (7, [.ref z2, .ref z3, .int x184852, .int x184833, .int x184834, .int x184835, .int x184853, .int x184854]))] H → va_D A [(z1, .inr (7, [.ref z2, .ref z3, .int x184852, .int x184833, .int x184834, .int x184835, .int x184853, .int x184854]))] → va_S A s.heap H locs → lv_has ls 1 [(0, .ref z1)] → W p l e { frames := 1, cells := 0, slots := 0, locals := 22 } s m args below meth c H locs 0 0 (MQ below ((Qi (S := va_W) (fun (r : Int32) (u0 : va_W) => B_X7 T z1 z2 z3 u0 ∧ fv u0 3 = fv ([(z1, .inr (7, [.ref z2, .ref z3, .int x184832, .int x184833, .int x184834, .int x184835, .int x184836, .int x184837]))] : va_W) 3 ∧ fv u0 4 = fv ([(z1, .inr (7, [.ref z2, .ref z3, .int x184832, .int x184833, .int x184834, .int x184835, .int x184836, .int x184837]))] : va_W) 4 ∧ fv u0 5 = fv ([(z1, .inr (7, [.ref z2, .ref z3, .int x184832, .int x184833, .int x184834, .int x184835, .int x184836, .int x184837]))] : va_W) 5 ∧ (10 ≤ r.toInt ∧ r.toInt ≤ 12)) (fun (u0 : va_W) => u0) D) A) args s 0 0 A) (F0 m 42 ls []) := by
        intro x184852 x184853 x184854 H locs ls hP hD hS hl
        refine lv_bipush (v := 12) hx hb dX7_comparisonHere_42 (by decide) ?_
        exact r_iret ([(z1, .inr (7, [.ref z2, .ref z3, .int x184852, .int x184833, .int x184834, .int x184835, .int x184853, .int x184854]))] : va_W) C0 hr hlocks hS (Nat.le_refl _) (Nat.le_refl _) dX7_comparisonHere_44 ⟨⟨x184852, x184833, x184834, x184835, x184853, x184854, rfl, ⟨by omega, by omega⟩, ⟨by omega, by omega⟩⟩, rfl, rfl, rfl, ⟨by decide, by decide⟩⟩ (hP.sub (ws' := [(z1, .inr (7, [.ref z2, .ref z3, .int x184852, .int x184833, .int x184834, .int x184835, .int x184853, .int x184854]))]) [0] rfl) (hD.sub (ws' := [(z1, .inr (7, [.ref z2, .ref z3, .int x184852, .int x184833, .int x184834, .int x184835, .int x184853, .int x184854]))]) [0] (by decide +kernel) rfl)
      refine lv_if_ne (tgt := 42) hx hb dX7_comparisonHere_30 (by decide) (fun c184843 => ?_) (fun c184843 => ?_)
      · skip
        have kc184843 : x184842.toInt ≠ 0 := ne_ti rfl (by decide) c184843
        have nzx184842 : ¬ x184842 = 0 := c184843
        exact J184855 x184832 x184836 x184837 _ _ ls (hP.sub (ws' := [(z1, .inr (7, [.ref z2, .ref z3, .int x184832, .int x184833, .int x184834, .int x184835, .int x184836, .int x184837]))]) [0] rfl) (hD.sub (ws' := [(z1, .inr (7, [.ref z2, .ref z3, .int x184832, .int x184833, .int x184834, .int x184835, .int x184836, .int x184837]))]) [0] (by decide +kernel) rfl) hS (lv_sub hl [0] rfl)
      · skip
        have kc184843 : x184842.toInt = 0 := eq_ti rfl (by decide) c184843
        refine lv_aload_n hx hb dX7_comparisonHere_33 rfl (lv_at hl 0 rfl) ?_
        refine lv_iconst (v := 1) hx hb dX7_comparisonHere_34 (by decide) ?_
        refine lv_aload_n hx hb dX7_comparisonHere_35 rfl (lv_at hl 0 rfl) ?_
        refine r_get (v := .int x184833) C0 hE ffX7_3 mw_227 hP 0 rfl rfl dX7_comparisonHere_36 ?_
        refine r_callv2 (wr := []) (r_runV2 (As := [.int 1, .int x184833]) (rest := []) (wc := [(z1, .inr (7, [.ref z2, .ref z3, .int x184832, .int x184833, .int x184834, .int x184835, .int x184836, .int x184837]))]) (ci := 7) C0 hE hStr hS (va_free (wc := [(z1, .inr (7, [.ref z2, .ref z3, .int x184832, .int x184833, .int x184834, .int x184835, .int x184836, .int x184837]))]) hD hS hA [0] rfl) (g_X7_fail_34872 l D T sq sv H.size z1 z2 z3 1 x184833 [(z1, .inr (7, [.ref z2, .ref z3, .int x184832, .int x184833, .int x184834, .int x184835, .int x184836, .int x184837]))] (⟨x184832, x184833, x184834, x184835, x184836, x184837, rfl, ⟨by omega, by omega⟩, ⟨by omega, by omega⟩⟩)) mw_355 mw_356 mw_1261 mw_11 mw_357 dn_1637 rfl rfl ⟨Nat.le_of_ble_eq_true rfl, Nat.le_of_ble_eq_true rfl⟩ (hP.sub (ws' := [(z1, .inr (7, [.ref z2, .ref z3, .int x184832, .int x184833, .int x184834, .int x184835, .int x184836, .int x184837]))]) [0] rfl) (hD.sub (ws' := [(z1, .inr (7, [.ref z2, .ref z3, .int x184832, .int x184833, .int x184834, .int x184835, .int x184836, .int x184837]))]) [0] (by decide +kernel) rfl) rfl rfl rfl hl.1 rfl (Nat.le_of_ble_eq_true rfl) dX7_comparisonHere_39 ⟨Nat.le_of_ble_eq_true rfl, Nat.le_of_ble_eq_true rfl⟩) hP hD hS hA [0] [] rfl rfl (by decide +kernel) (by decide +kernel) (fun u H locs hq hP hD hS => ?_)
        obtain ⟨u184856, rfl⟩ : ∃ z, z = u := ⟨_, rfl⟩
        obtain ⟨hm184857, hkhm184857_3, hkhm184857_4, hkhm184857_5⟩ := hq
        obtain ⟨x184858, x184859, x184860, x184861, x184862, x184863, rfl, hx184859, hx184860⟩ := hm184857
        have hkhm184857_3 : x184833 = x184859 := (fv_inj hkhm184857_3).symm
        subst hkhm184857_3
        have hkhm184857_4 : x184834 = x184860 := (fv_inj hkhm184857_4).symm
        subst hkhm184857_4
        have hkhm184857_5 : x184835 = x184861 := (fv_inj hkhm184857_5).symm
        subst hkhm184857_5
        have hP : va_P D vwCl [(z1, .inr (7, [.ref z2, .ref z3, .int x184858, .int x184833, .int x184834, .int x184835, .int x184862, .int x184863]))] H := hP
        have hD : va_D A [(z1, .inr (7, [.ref z2, .ref z3, .int x184858, .int x184833, .int x184834, .int x184835, .int x184862, .int x184863]))] := hD
        refine W.widen (k := 0) (n := 0) (Nat.le_refl _) (Nat.le_refl _) ?_
        exact J184855 x184858 x184862 x184863 _ _ ls (hP.sub (ws' := [(z1, .inr (7, [.ref z2, .ref z3, .int x184858, .int x184833, .int x184834, .int x184835, .int x184862, .int x184863]))]) [0] rfl) (hD.sub (ws' := [(z1, .inr (7, [.ref z2, .ref z3, .int x184858, .int x184833, .int x184834, .int x184835, .int x184862, .int x184863]))]) [0] (by decide +kernel) rfl) hS (lv_sub hl [0] rfl)
    · skip
      have kc184841 : x184840.toInt ≠ 0 := ne_ti rfl (by decide) c184841
      have nzx184840 : ¬ x184840 = 0 := c184841
      refine lv_bipush (v := 11) hx hb dX7_comparisonHere_21 (by decide) ?_
      exact r_iret ([(z1, .inr (7, [.ref z2, .ref z3, .int x184832, .int x184833, .int x184834, .int x184835, .int x184836, .int x184837]))] : va_W) C0 hr hlocks hS (Nat.le_refl _) (Nat.le_refl _) dX7_comparisonHere_23 ⟨⟨x184832, x184833, x184834, x184835, x184836, x184837, rfl, ⟨by omega, by omega⟩, ⟨by omega, by omega⟩⟩, rfl, rfl, rfl, ⟨by decide, by decide⟩⟩ (hP.sub (ws' := [(z1, .inr (7, [.ref z2, .ref z3, .int x184832, .int x184833, .int x184834, .int x184835, .int x184836, .int x184837]))]) [0] rfl) (hD.sub (ws' := [(z1, .inr (7, [.ref z2, .ref z3, .int x184832, .int x184833, .int x184834, .int x184835, .int x184836, .int x184837]))]) [0] (by decide +kernel) rfl)
  · skip
    have kc184839 : x184838.toInt ≠ 0 := ne_ti rfl (by decide) c184839
    have nzx184838 : ¬ x184838 = 0 := c184839
    refine lv_bipush (v := 10) hx hb dX7_comparisonHere_9 (by decide) ?_
    exact r_iret ([(z1, .inr (7, [.ref z2, .ref z3, .int x184832, .int x184833, .int x184834, .int x184835, .int x184836, .int x184837]))] : va_W) C0 hr hlocks hS (Nat.le_refl _) (Nat.le_refl _) dX7_comparisonHere_11 ⟨⟨x184832, x184833, x184834, x184835, x184836, x184837, rfl, ⟨by omega, by omega⟩, ⟨by omega, by omega⟩⟩, rfl, rfl, rfl, ⟨by decide, by decide⟩⟩ (hP.sub (ws' := [(z1, .inr (7, [.ref z2, .ref z3, .int x184832, .int x184833, .int x184834, .int x184835, .int x184836, .int x184837]))]) [0] rfl) (hD.sub (ws' := [(z1, .inr (7, [.ref z2, .ref z3, .int x184832, .int x184833, .int x184834, .int x184835, .int x184836, .int x184837]))]) [0] (by decide +kernel) rfl)
