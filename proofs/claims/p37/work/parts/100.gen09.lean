def B_X7 (T : Nat → ClassId) (a r0 r1 : Nat) (w : va_W) : Prop := ∃ (v2 : Int32), ∃ (v3 : Int32), ∃ (v4 : Int32), ∃ (v5 : Int32), ∃ (v6 : Int32), ∃ (v7 : Int32), w = [(a, .inr (7, [.ref r0, .ref r1, .int v2, .int v3, .int v4, .int v5, .int v6, .int v7]))] ∧ (0 ≤ v3.toInt ∧ v3.toInt ≤ 700) ∧ (0 ≤ v4.toInt ∧ v4.toInt ≤ 700)
set_option maxHeartbeats 4000000 in
set_option maxRecDepth 100000 in
theorem g_X7_fail_34872 (l : Launch) (D : va_G) (T : Nat → ClassId) (sq sv sz : Nat) (z1 : Nat) (z2 : Nat) (z3 : Nat) (p1 : Int32) (p2 : Int32) (w1 : va_W) (hw1 : B_X7 T z1 z2 z3 w1) : Met l yX7_fail (.code yX7_fail cX7_fail 3 none :: TB) { frames := 0, cells := 0, slots := 0, locals := 0 } (PC2 D T sq sv [.ref z1, .int p1, .int p2] (w1) sz) (Qv2 (S := va_W) (fun (u0 : va_W) => B_X7 T z1 z2 z3 u0 ∧ fv u0 3 = fv w1 3 ∧ fv u0 4 = fv w1 4 ∧ fv u0 5 = fv w1 5) (fun (u0 : va_W) => u0) D (va_A (w1) sz)) 0 0 (va_A (w1) sz) := by
  obtain ⟨x34879, x34880, x34881, x34882, x34883, x34884, rfl, hx34880, hx34881⟩ := hw1
  refine ct_begin2 (Qc := Qv2 (S := va_W) (fun (u0 : va_W) => B_X7 T z1 z2 z3 u0 ∧ fv u0 3 = fv ([(z1, .inr (7, [.ref z2, .ref z3, .int x34879, .int x34880, .int x34881, .int x34882, .int x34883, .int x34884]))] : va_W) 3 ∧ fv u0 4 = fv ([(z1, .inr (7, [.ref z2, .ref z3, .int x34879, .int x34880, .int x34881, .int x34882, .int x34883, .int x34884]))] : va_W) 4 ∧ fv u0 5 = fv ([(z1, .inr (7, [.ref z2, .ref z3, .int x34879, .int x34880, .int x34881, .int x34882, .int x34883, .int x34884]))] : va_W) 5) (fun (u0 : va_W) => u0) D) (by decide +kernel) (Nat.le_of_ble_eq_true rfl) ?_
  intro p e s m below meth c A ls C0 hr hlocks hnm hE hStr hA hP hD hl
  generalize ([.ref z1, .int p1, .int p2] : List Value).toArray = args at C0 ⊢
  have hx := C0.1
  have hb := C0.2.1
  have hml := C0.2.2.1
  have hown := C0.2.2.2.1
  have hT := C0.2.2.2.2
  have hK := hE.1
  generalize hH : s.heap = H at hP ⊢
  have hS : va_S A s.heap H [] := by rw [← hH]; exact va_S.rf
  have hP : va_P D vwCl [(z1, .inr (7, [.ref z2, .ref z3, .int x34879, .int x34880, .int x34881, .int x34882, .int x34883, .int x34884]))] H := hP
  have hD : va_D A [(z1, .inr (7, [.ref z2, .ref z3, .int x34879, .int x34880, .int x34881, .int x34882, .int x34883, .int x34884]))] := hD
  have hl : lv_has ls 3 [(0, .ref z1), (1, .int p1), (2, .int p2)] := hl
  refine lv_aload_n hx hb dX7_fail_0 rfl (lv_at hl 0 rfl) ?_
  refine r_get (v := .int x34883) C0 hE ffX7_6 mw_230 hP 0 rfl rfl dX7_fail_1 ?_
  have J34888 : ∀ (x34886 : Int32) (x34887 : Int32) (H : Heap) (locs : List Loc) (ls : Array Slot), va_P D vwCl [(z1, .inr (7, [.ref z2, .ref z3, .int x34879, .int x34880, .int x34881, .int x34882, .int x34886, .int x34887]))] H → va_D A [(z1, .inr (7, [.ref z2, .ref z3, .int x34879, .int x34880, .int x34881, .int x34882, .int x34886, .int x34887]))] → va_S A s.heap H locs → lv_has ls 3 [(0, .ref z1), (1, .int p1), (2, .int p2)] → W p l e { frames := 0, cells := 0, slots := 0, locals := 0 } s m args below meth c H locs 0 0 (MQ below ((Qv2 (S := va_W) (fun (u0 : va_W) => B_X7 T z1 z2 z3 u0 ∧ fv u0 3 = fv ([(z1, .inr (7, [.ref z2, .ref z3, .int x34879, .int x34880, .int x34881, .int x34882, .int x34883, .int x34884]))] : va_W) 3 ∧ fv u0 4 = fv ([(z1, .inr (7, [.ref z2, .ref z3, .int x34879, .int x34880, .int x34881, .int x34882, .int x34883, .int x34884]))] : va_W) 4 ∧ fv u0 5 = fv ([(z1, .inr (7, [.ref z2, .ref z3, .int x34879, .int x34880, .int x34881, .int x34882, .int x34883, .int x34884]))] : va_W) 5) (fun (u0 : va_W) => u0) D) A) args s 0 0 A) (F0 m 17 ls []) := by
    intro x34886 x34887 H locs ls hP hD hS hl
    refine lv_aload_n hx hb dX7_fail_17 rfl (lv_at hl 0 rfl) ?_
    refine lv_iconst (v := 4) hx hb dX7_fail_18 (by decide) ?_
    refine r_put (v := .int 4) (ty := .int) (fs1 := [.ref z2, .ref z3, .int 4, .int x34880, .int x34881, .int x34882, .int x34886, .int x34887]) (ws1 := [(z1, .inr (7, [.ref z2, .ref z3, .int 4, .int x34880, .int x34881, .int x34882, .int x34886, .int x34887]))]) C0 hE ffX7_2 tyX7 tyX7_ok nmX7 mw_226 pf_1358 hP hD hS 0 rfl rfl rfl (Nat.le_of_ble_eq_true rfl) rfl rfl dX7_fail_19 (fun H locs hP hD hS => ?_)
    exact r_vret2 ([(z1, .inr (7, [.ref z2, .ref z3, .int 4, .int x34880, .int x34881, .int x34882, .int x34886, .int x34887]))] : va_W) C0 hr hlocks hS (Nat.le_refl _) (Nat.le_refl _) dX7_fail_22 ⟨⟨4, x34880, x34881, x34882, x34886, x34887, rfl, ⟨by omega, by omega⟩, ⟨by omega, by omega⟩⟩, rfl, rfl, rfl⟩ (hP.sub (ws' := [(z1, .inr (7, [.ref z2, .ref z3, .int 4, .int x34880, .int x34881, .int x34882, .int x34886, .int x34887]))]) [0] rfl) (hD.sub (ws' := [(z1, .inr (7, [.ref z2, .ref z3, .int 4, .int x34880, .int x34881, .int x34882, .int x34886, .int x34887]))]) [0] (by decide +kernel) rfl)
  refine lv_if_ne (tgt := 17) hx hb dX7_fail_4 (by decide) (fun c34885 => ?_) (fun c34885 => ?_)
  · skip
    have kc34885 : x34883.toInt ≠ 0 := ne_ti rfl (by decide) c34885
    have nzx34883 : ¬ x34883 = 0 := c34885
    exact J34888 x34883 x34884 _ _ ls (hP.sub (ws' := [(z1, .inr (7, [.ref z2, .ref z3, .int x34879, .int x34880, .int x34881, .int x34882, .int x34883, .int x34884]))]) [0] rfl) (hD.sub (ws' := [(z1, .inr (7, [.ref z2, .ref z3, .int x34879, .int x34880, .int x34881, .int x34882, .int x34883, .int x34884]))]) [0] (by decide +kernel) rfl) hS (lv_sub hl [0, 1, 2] rfl)
  · skip
    have kc34885 : x34883.toInt = 0 := eq_ti rfl (by decide) c34885
    refine lv_aload_n hx hb dX7_fail_7 rfl (lv_at hl 0 rfl) ?_
    refine lv_iload_n hx hb dX7_fail_8 rfl (lv_at hl 1 rfl) ?_
    refine r_put (v := .int p1) (ty := .int) (fs1 := [.ref z2, .ref z3, .int x34879, .int x34880, .int x34881, .int x34882, .int p1, .int x34884]) (ws1 := [(z1, .inr (7, [.ref z2, .ref z3, .int x34879, .int x34880, .int x34881, .int x34882, .int p1, .int x34884]))]) C0 hE ffX7_6 tyX7 tyX7_ok nmX7 mw_230 pf_1358 hP hD hS 0 rfl rfl rfl (Nat.le_of_ble_eq_true rfl) rfl rfl dX7_fail_9 (fun H locs hP hD hS => ?_)
    refine lv_aload_n hx hb dX7_fail_12 rfl (lv_at hl 0 rfl) ?_
    refine lv_iload_n hx hb dX7_fail_13 rfl (lv_at hl 2 rfl) ?_
    refine r_put (v := .int p2) (ty := .int) (fs1 := [.ref z2, .ref z3, .int x34879, .int x34880, .int x34881, .int x34882, .int p1, .int p2]) (ws1 := [(z1, .inr (7, [.ref z2, .ref z3, .int x34879, .int x34880, .int x34881, .int x34882, .int p1, .int p2]))]) C0 hE ffX7_7 tyX7 tyX7_ok nmX7 mw_232 pf_1358 hP hD hS 0 rfl rfl rfl (Nat.le_of_ble_eq_true rfl) rfl rfl dX7_fail_14 (fun H locs hP hD hS => ?_)
    exact J34888 p1 p2 _ _ ls (hP.sub (ws' := [(z1, .inr (7, [.ref z2, .ref z3, .int x34879, .int x34880, .int x34881, .int x34882, .int p1, .int p2]))]) [0] rfl) (hD.sub (ws' := [(z1, .inr (7, [.ref z2, .ref z3, .int x34879, .int x34880, .int x34881, .int x34882, .int p1, .int p2]))]) [0] (by decide +kernel) rfl) hS (lv_sub hl [0, 1, 2] rfl)
set_option maxHeartbeats 4000000 in
set_option maxRecDepth 100000 in
theorem g_X7_isWord_35019 (l : Launch) (D : va_G) (T : Nat → ClassId) (sq sv sz : Nat) (z1 : Nat) (z2 : Nat) (z3 : Nat) (p1 : Int32) (w1 : va_W) (hw1 : B_X7 T z1 z2 z3 w1) : Met l yX7_isWord (.code yX7_isWord cX7_isWord 2 (some .boolean) :: TB) { frames := 0, cells := 0, slots := 0, locals := 0 } (PC2 D T sq sv [.ref z1, .int p1] (w1) sz) (Qi (S := Unit) (fun (r : Int32) (_ : Unit) => (0 ≤ r.toInt ∧ r.toInt ≤ 1)) (fun (_ : Unit) => w1) D (va_A (w1) sz)) 0 0 (va_A (w1) sz) := by
  obtain ⟨x35026, x35027, x35028, x35029, x35030, x35031, rfl, hx35027, hx35028⟩ := hw1
  refine ct_begin2 (Qc := Qi (S := Unit) (fun (r : Int32) (_ : Unit) => (0 ≤ r.toInt ∧ r.toInt ≤ 1)) (fun (_ : Unit) => ([(z1, .inr (7, [.ref z2, .ref z3, .int x35026, .int x35027, .int x35028, .int x35029, .int x35030, .int x35031]))] : va_W)) D) (by decide +kernel) (Nat.le_of_ble_eq_true rfl) ?_
  intro p e s m below meth c A ls C0 hr hlocks hnm hE hStr hA hP hD hl
  generalize ([.ref z1, .int p1] : List Value).toArray = args at C0 ⊢
  have hx := C0.1
  have hb := C0.2.1
  have hml := C0.2.2.1
  have hown := C0.2.2.2.1
  have hT := C0.2.2.2.2
  have hK := hE.1
  generalize hH : s.heap = H at hP ⊢
  have hS : va_S A s.heap H [] := by rw [← hH]; exact va_S.rf
  have hP : va_P D vwCl [(z1, .inr (7, [.ref z2, .ref z3, .int x35026, .int x35027, .int x35028, .int x35029, .int x35030, .int x35031]))] H := hP
  have hD : va_D A [(z1, .inr (7, [.ref z2, .ref z3, .int x35026, .int x35027, .int x35028, .int x35029, .int x35030, .int x35031]))] := hD
  have hl : lv_has ls 2 [(0, .ref z1), (1, .int p1)] := hl
  refine lv_aload_n hx hb dX7_isWord_0 rfl (lv_at hl 0 rfl) ?_
  refine r_get (v := .int x35026) C0 hE ffX7_2 mw_226 hP 0 rfl rfl dX7_isWord_1 ?_
  refine lv_iconst (v := 1) hx hb dX7_isWord_4 (by decide) ?_
  have J35035 : ∀ (x35034 : Int32) (H : Heap) (locs : List Loc) (ls : Array Slot), (0 ≤ x35034.toInt ∧ x35034.toInt ≤ 1) → va_P D vwCl [(z1, .inr (7, [.ref z2, .ref z3, .int x35026, .int x35027, .int x35028, .int x35029, .int x35030, .int x35031]))] H → va_D A [(z1, .inr (7, [.ref z2, .ref z3, .int x35026, .int x35027, .int x35028, .int x35029, .int x35030, .int x35031]))] → va_S A s.heap H locs → lv_has ls 2 [(0, .ref z1), (1, .int p1)] → W p l e { frames := 0, cells := 0, slots := 0, locals := 0 } s m args below meth c H locs 0 0 (MQ below ((Qi (S := Unit) (fun (r : Int32) (_ : Unit) => (0 ≤ r.toInt ∧ r.toInt ≤ 1)) (fun (_ : Unit) => ([(z1, .inr (7, [.ref z2, .ref z3, .int x35026, .int x35027, .int x35028, .int x35029, .int x35030, .int x35031]))] : va_W)) D) A) args s 0 0 A) (F0 m 21 ls [.int x35034]) := by
    intro x35034 H locs ls hx35034 hP hD hS hl
    exact r_zret () C0 hr (bool_nar ⟨by omega, by omega⟩) hlocks hS (Nat.le_refl _) (Nat.le_refl _) dX7_isWord_21 ⟨by omega, by omega⟩ (hP.sub (ws' := [(z1, .inr (7, [.ref z2, .ref z3, .int x35026, .int x35027, .int x35028, .int x35029, .int x35030, .int x35031]))]) [0] rfl) (hD.sub (ws' := [(z1, .inr (7, [.ref z2, .ref z3, .int x35026, .int x35027, .int x35028, .int x35029, .int x35030, .int x35031]))]) [0] (by decide +kernel) rfl)
  refine lv_icmp_ne (tgt := 20) hx hb dX7_isWord_5 (by decide) (fun c35032 => ?_) (fun c35032 => ?_)
  · skip
    have kc35032 : x35026.toInt ≠ 1 := ne_ti rfl (by decide) c35032
    refine lv_iconst (v := 0) hx hb dX7_isWord_20 (by decide) ?_
    exact J35035 0 _ _ ls ⟨by decide, by decide⟩ (hP.sub (ws' := [(z1, .inr (7, [.ref z2, .ref z3, .int x35026, .int x35027, .int x35028, .int x35029, .int x35030, .int x35031]))]) [0] rfl) (hD.sub (ws' := [(z1, .inr (7, [.ref z2, .ref z3, .int x35026, .int x35027, .int x35028, .int x35029, .int x35030, .int x35031]))]) [0] (by decide +kernel) rfl) hS (lv_sub hl [0, 1] rfl)
  · skip
    have kc35032 : x35026.toInt = 1 := eq_ti rfl (by decide) c35032
    refine lv_aload_n hx hb dX7_isWord_8 rfl (lv_at hl 0 rfl) ?_
    refine r_get (v := .int x35029) C0 hE ffX7_5 mw_229 hP 0 rfl rfl dX7_isWord_9 ?_
    refine lv_iload_n hx hb dX7_isWord_12 rfl (lv_at hl 1 rfl) ?_
    refine lv_icmp_ne (tgt := 20) hx hb dX7_isWord_13 (by decide) (fun c35036 => ?_) (fun c35036 => ?_)
    · skip
      have kc35036 : x35029.toInt ≠ p1.toInt := ne_ti rfl rfl c35036
      refine lv_iconst (v := 0) hx hb dX7_isWord_20 (by decide) ?_
      exact J35035 0 _ _ ls ⟨by decide, by decide⟩ (hP.sub (ws' := [(z1, .inr (7, [.ref z2, .ref z3, .int x35026, .int x35027, .int x35028, .int x35029, .int x35030, .int x35031]))]) [0] rfl) (hD.sub (ws' := [(z1, .inr (7, [.ref z2, .ref z3, .int x35026, .int x35027, .int x35028, .int x35029, .int x35030, .int x35031]))]) [0] (by decide +kernel) rfl) hS (lv_sub hl [0, 1] rfl)
    · skip
      have kc35036 : x35029.toInt = p1.toInt := eq_ti rfl rfl c35036
      refine lv_iconst (v := 1) hx hb dX7_isWord_16 (by decide) ?_
      refine lv_goto (tgt := 21) hx hb dX7_isWord_17 (by decide) ?_
      exact J35035 1 _ _ ls ⟨by decide, by decide⟩ (hP.sub (ws' := [(z1, .inr (7, [.ref z2, .ref z3, .int x35026, .int x35027, .int x35028, .int x35029, .int x35030, .int x35031]))]) [0] rfl) (hD.sub (ws' := [(z1, .inr (7, [.ref z2, .ref z3, .int x35026, .int x35027, .int x35028, .int x35029, .int x35030, .int x35031]))]) [0] (by decide +kernel) rfl) hS (lv_sub hl [0, 1] rfl)
set_option maxHeartbeats 4000000 in
set_option maxRecDepth 100000 in
theorem g_X7_isSign_35167 (l : Launch) (D : va_G) (T : Nat → ClassId) (sq sv sz : Nat) (z1 : Nat) (z2 : Nat) (z3 : Nat) (p1 : Int32) (w1 : va_W) (hw1 : B_X7 T z1 z2 z3 w1) : Met l yX7_isSign (.code yX7_isSign cX7_isSign 2 (some .boolean) :: TB) { frames := 0, cells := 0, slots := 0, locals := 0 } (PC2 D T sq sv [.ref z1, .int p1] (w1) sz) (Qi (S := Unit) (fun (r : Int32) (_ : Unit) => (0 ≤ r.toInt ∧ r.toInt ≤ 1)) (fun (_ : Unit) => w1) D (va_A (w1) sz)) 0 0 (va_A (w1) sz) := by
  obtain ⟨x35174, x35175, x35176, x35177, x35178, x35179, rfl, hx35175, hx35176⟩ := hw1
  refine ct_begin2 (Qc := Qi (S := Unit) (fun (r : Int32) (_ : Unit) => (0 ≤ r.toInt ∧ r.toInt ≤ 1)) (fun (_ : Unit) => ([(z1, .inr (7, [.ref z2, .ref z3, .int x35174, .int x35175, .int x35176, .int x35177, .int x35178, .int x35179]))] : va_W)) D) (by decide +kernel) (Nat.le_of_ble_eq_true rfl) ?_
  intro p e s m below meth c A ls C0 hr hlocks hnm hE hStr hA hP hD hl
  generalize ([.ref z1, .int p1] : List Value).toArray = args at C0 ⊢
  have hx := C0.1
  have hb := C0.2.1
  have hml := C0.2.2.1
  have hown := C0.2.2.2.1
  have hT := C0.2.2.2.2
  have hK := hE.1
  generalize hH : s.heap = H at hP ⊢
  have hS : va_S A s.heap H [] := by rw [← hH]; exact va_S.rf
  have hP : va_P D vwCl [(z1, .inr (7, [.ref z2, .ref z3, .int x35174, .int x35175, .int x35176, .int x35177, .int x35178, .int x35179]))] H := hP
  have hD : va_D A [(z1, .inr (7, [.ref z2, .ref z3, .int x35174, .int x35175, .int x35176, .int x35177, .int x35178, .int x35179]))] := hD
  have hl : lv_has ls 2 [(0, .ref z1), (1, .int p1)] := hl
  refine lv_aload_n hx hb dX7_isSign_0 rfl (lv_at hl 0 rfl) ?_
  refine r_get (v := .int x35174) C0 hE ffX7_2 mw_226 hP 0 rfl rfl dX7_isSign_1 ?_
  refine lv_iconst (v := 3) hx hb dX7_isSign_4 (by decide) ?_
  have J35183 : ∀ (x35182 : Int32) (H : Heap) (locs : List Loc) (ls : Array Slot), (0 ≤ x35182.toInt ∧ x35182.toInt ≤ 1) → va_P D vwCl [(z1, .inr (7, [.ref z2, .ref z3, .int x35174, .int x35175, .int x35176, .int x35177, .int x35178, .int x35179]))] H → va_D A [(z1, .inr (7, [.ref z2, .ref z3, .int x35174, .int x35175, .int x35176, .int x35177, .int x35178, .int x35179]))] → va_S A s.heap H locs → lv_has ls 2 [(0, .ref z1), (1, .int p1)] → W p l e { frames := 0, cells := 0, slots := 0, locals := 0 } s m args below meth c H locs 0 0 (MQ below ((Qi (S := Unit) (fun (r : Int32) (_ : Unit) => (0 ≤ r.toInt ∧ r.toInt ≤ 1)) (fun (_ : Unit) => ([(z1, .inr (7, [.ref z2, .ref z3, .int x35174, .int x35175, .int x35176, .int x35177, .int x35178, .int x35179]))] : va_W)) D) A) args s 0 0 A) (F0 m 21 ls [.int x35182]) := by
    intro x35182 H locs ls hx35182 hP hD hS hl
    exact r_zret () C0 hr (bool_nar ⟨by omega, by omega⟩) hlocks hS (Nat.le_refl _) (Nat.le_refl _) dX7_isSign_21 ⟨by omega, by omega⟩ (hP.sub (ws' := [(z1, .inr (7, [.ref z2, .ref z3, .int x35174, .int x35175, .int x35176, .int x35177, .int x35178, .int x35179]))]) [0] rfl) (hD.sub (ws' := [(z1, .inr (7, [.ref z2, .ref z3, .int x35174, .int x35175, .int x35176, .int x35177, .int x35178, .int x35179]))]) [0] (by decide +kernel) rfl)
  refine lv_icmp_ne (tgt := 20) hx hb dX7_isSign_5 (by decide) (fun c35180 => ?_) (fun c35180 => ?_)
  · skip
    have kc35180 : x35174.toInt ≠ 3 := ne_ti rfl (by decide) c35180
    refine lv_iconst (v := 0) hx hb dX7_isSign_20 (by decide) ?_
    exact J35183 0 _ _ ls ⟨by decide, by decide⟩ (hP.sub (ws' := [(z1, .inr (7, [.ref z2, .ref z3, .int x35174, .int x35175, .int x35176, .int x35177, .int x35178, .int x35179]))]) [0] rfl) (hD.sub (ws' := [(z1, .inr (7, [.ref z2, .ref z3, .int x35174, .int x35175, .int x35176, .int x35177, .int x35178, .int x35179]))]) [0] (by decide +kernel) rfl) hS (lv_sub hl [0, 1] rfl)
  · skip
    have kc35180 : x35174.toInt = 3 := eq_ti rfl (by decide) c35180
    refine lv_aload_n hx hb dX7_isSign_8 rfl (lv_at hl 0 rfl) ?_
    refine r_get (v := .int x35177) C0 hE ffX7_5 mw_229 hP 0 rfl rfl dX7_isSign_9 ?_
    refine lv_iload_n hx hb dX7_isSign_12 rfl (lv_at hl 1 rfl) ?_
    refine lv_icmp_ne (tgt := 20) hx hb dX7_isSign_13 (by decide) (fun c35184 => ?_) (fun c35184 => ?_)
    · skip
      have kc35184 : x35177.toInt ≠ p1.toInt := ne_ti rfl rfl c35184
      refine lv_iconst (v := 0) hx hb dX7_isSign_20 (by decide) ?_
      exact J35183 0 _ _ ls ⟨by decide, by decide⟩ (hP.sub (ws' := [(z1, .inr (7, [.ref z2, .ref z3, .int x35174, .int x35175, .int x35176, .int x35177, .int x35178, .int x35179]))]) [0] rfl) (hD.sub (ws' := [(z1, .inr (7, [.ref z2, .ref z3, .int x35174, .int x35175, .int x35176, .int x35177, .int x35178, .int x35179]))]) [0] (by decide +kernel) rfl) hS (lv_sub hl [0, 1] rfl)
    · skip
      have kc35184 : x35177.toInt = p1.toInt := eq_ti rfl rfl c35184
      refine lv_iconst (v := 1) hx hb dX7_isSign_16 (by decide) ?_
      refine lv_goto (tgt := 21) hx hb dX7_isSign_17 (by decide) ?_
      exact J35183 1 _ _ ls ⟨by decide, by decide⟩ (hP.sub (ws' := [(z1, .inr (7, [.ref z2, .ref z3, .int x35174, .int x35175, .int x35176, .int x35177, .int x35178, .int x35179]))]) [0] rfl) (hD.sub (ws' := [(z1, .inr (7, [.ref z2, .ref z3, .int x35174, .int x35175, .int x35176, .int x35177, .int x35178, .int x35179]))]) [0] (by decide +kernel) rfl) hS (lv_sub hl [0, 1] rfl)
set_option maxHeartbeats 4000000 in
set_option maxRecDepth 100000 in
theorem g_X7_isLetter_35317 (l : Launch) (D : va_G) (T : Nat → ClassId) (sq sv sz : Nat) (p0 : Int32) : Met l yX7_isLetter (.code yX7_isLetter cX7_isLetter 1 (some .boolean) :: TB) { frames := 0, cells := 0, slots := 0, locals := 0 } (PC2 D T sq sv [.int p0] (([] : va_W)) sz) (Qi (S := Unit) (fun (r : Int32) (_ : Unit) => (0 ≤ r.toInt ∧ r.toInt ≤ 1)) (fun (_ : Unit) => ([] : va_W)) D (va_A (([] : va_W)) sz)) 0 0 (va_A (([] : va_W)) sz) := by
  refine ct_begin2 (Qc := Qi (S := Unit) (fun (r : Int32) (_ : Unit) => (0 ≤ r.toInt ∧ r.toInt ≤ 1)) (fun (_ : Unit) => ([] : va_W)) D) (by decide +kernel) (Nat.le_of_ble_eq_true rfl) ?_
  intro p e s m below meth c A ls C0 hr hlocks hnm hE hStr hA hP hD hl
  generalize ([.int p0] : List Value).toArray = args at C0 ⊢
  have hx := C0.1
  have hb := C0.2.1
  have hml := C0.2.2.1
  have hown := C0.2.2.2.1
  have hT := C0.2.2.2.2
  have hK := hE.1
  generalize hH : s.heap = H at hP ⊢
  have hS : va_S A s.heap H [] := by rw [← hH]; exact va_S.rf
  have hP : va_P D vwCl [] H := hP
  have hD : va_D A [] := hD
  have hl : lv_has ls 1 [(0, .int p0)] := hl
  refine lv_iload_n hx hb dX7_isLetter_0 rfl (lv_at hl 0 rfl) ?_
  refine lv_bipush (v := 97) hx hb dX7_isLetter_1 (by decide) ?_
  have J35325 : ∀ (x35324 : Int32) (H : Heap) (locs : List Loc) (ls : Array Slot), (0 ≤ x35324.toInt ∧ x35324.toInt ≤ 1) → va_P D vwCl [] H → va_D A [] → va_S A s.heap H locs → lv_has ls 1 [(0, .int p0)] → W p l e { frames := 0, cells := 0, slots := 0, locals := 0 } s m args below meth c H locs 0 0 (MQ below ((Qi (S := Unit) (fun (r : Int32) (_ : Unit) => (0 ≤ r.toInt ∧ r.toInt ≤ 1)) (fun (_ : Unit) => ([] : va_W)) D) A) args s 0 0 A) (F0 m 29 ls [.int x35324]) := by
    intro x35324 H locs ls hx35324 hP hD hS hl
    exact r_zret () C0 hr (bool_nar ⟨by omega, by omega⟩) hlocks hS (Nat.le_refl _) (Nat.le_refl _) dX7_isLetter_29 ⟨by omega, by omega⟩ (hP.sub (ws' := []) [] rfl) (hD.sub (ws' := []) [] (by decide +kernel) rfl)
  refine lv_icmp_lt (tgt := 12) hx hb dX7_isLetter_3 (by decide) (fun c35318 => ?_) (fun c35318 => ?_)
  · skip
    have kc35318 : p0.toInt < 97 := lt_ti rfl (by decide) c35318
    refine lv_iload_n hx hb dX7_isLetter_12 rfl (lv_at hl 0 rfl) ?_
    refine lv_bipush (v := 65) hx hb dX7_isLetter_13 (by decide) ?_
    refine lv_icmp_lt (tgt := 28) hx hb dX7_isLetter_15 (by decide) (fun c35326 => ?_) (fun c35326 => ?_)
    · skip
      have kc35326 : p0.toInt < 65 := lt_ti rfl (by decide) c35326
      refine lv_iconst (v := 0) hx hb dX7_isLetter_28 (by decide) ?_
      exact J35325 0 _ _ ls ⟨by decide, by decide⟩ (hP.sub (ws' := []) [] rfl) (hD.sub (ws' := []) [] (by decide +kernel) rfl) hS (lv_sub hl [0] rfl)
    · skip
      have kc35326 : 65 ≤ p0.toInt := nlt_ti rfl (by decide) c35326
      refine lv_iload_n hx hb dX7_isLetter_18 rfl (lv_at hl 0 rfl) ?_
      refine lv_bipush (v := 90) hx hb dX7_isLetter_19 (by decide) ?_
      refine lv_icmp_gt (tgt := 28) hx hb dX7_isLetter_21 (by decide) (fun c35327 => ?_) (fun c35327 => ?_)
      · skip
        have kc35327 : 90 < p0.toInt := lt_ti (by decide) rfl c35327
        refine lv_iconst (v := 0) hx hb dX7_isLetter_28 (by decide) ?_
        exact J35325 0 _ _ ls ⟨by decide, by decide⟩ (hP.sub (ws' := []) [] rfl) (hD.sub (ws' := []) [] (by decide +kernel) rfl) hS (lv_sub hl [0] rfl)
      · skip
        have kc35327 : p0.toInt ≤ 90 := nlt_ti (by decide) rfl c35327
        refine lv_iconst (v := 1) hx hb dX7_isLetter_24 (by decide) ?_
        refine lv_goto (tgt := 29) hx hb dX7_isLetter_25 (by decide) ?_
        exact J35325 1 _ _ ls ⟨by decide, by decide⟩ (hP.sub (ws' := []) [] rfl) (hD.sub (ws' := []) [] (by decide +kernel) rfl) hS (lv_sub hl [0] rfl)
  · skip
    have kc35318 : 97 ≤ p0.toInt := nlt_ti rfl (by decide) c35318
    refine lv_iload_n hx hb dX7_isLetter_6 rfl (lv_at hl 0 rfl) ?_
    refine lv_bipush (v := 122) hx hb dX7_isLetter_7 (by decide) ?_
    refine lv_icmp_le (tgt := 24) hx hb dX7_isLetter_9 (by decide) (fun c35328 => ?_) (fun c35328 => ?_)
    · skip
      have kc35328 : p0.toInt ≤ 122 := le_ti rfl (by decide) c35328
      refine lv_iconst (v := 1) hx hb dX7_isLetter_24 (by decide) ?_
      refine lv_goto (tgt := 29) hx hb dX7_isLetter_25 (by decide) ?_
      exact J35325 1 _ _ ls ⟨by decide, by decide⟩ (hP.sub (ws' := []) [] rfl) (hD.sub (ws' := []) [] (by decide +kernel) rfl) hS (lv_sub hl [0] rfl)
    · skip
      have kc35328 : 122 < p0.toInt := nle_ti rfl (by decide) c35328
      refine lv_iload_n hx hb dX7_isLetter_12 rfl (lv_at hl 0 rfl) ?_
      refine lv_bipush (v := 65) hx hb dX7_isLetter_13 (by decide) ?_
      refine lv_icmp_lt (tgt := 28) hx hb dX7_isLetter_15 (by decide) (fun hc => by have hf : p0.toInt < 65 := lt_ti rfl (by decide) hc; omega) (fun c35329 => ?_)
      have kc35329 : 65 ≤ p0.toInt := nlt_ti rfl (by decide) c35329
      refine lv_iload_n hx hb dX7_isLetter_18 rfl (lv_at hl 0 rfl) ?_
      refine lv_bipush (v := 90) hx hb dX7_isLetter_19 (by decide) ?_
      refine lv_icmp_gt (tgt := 28) hx hb dX7_isLetter_21 (by decide) (fun c35330 => ?_) (fun hc => by have hf : p0.toInt ≤ 90 := nlt_ti (by decide) rfl hc; omega)
      have kc35330 : 90 < p0.toInt := lt_ti (by decide) rfl c35330
      refine lv_iconst (v := 0) hx hb dX7_isLetter_28 (by decide) ?_
      exact J35325 0 _ _ ls ⟨by decide, by decide⟩ (hP.sub (ws' := []) [] rfl) (hD.sub (ws' := []) [] (by decide +kernel) rfl) hS (lv_sub hl [0] rfl)
set_option maxHeartbeats 4000000 in
set_option maxRecDepth 100000 in
theorem g_X7_isDigit_35455 (l : Launch) (D : va_G) (T : Nat → ClassId) (sq sv sz : Nat) (p0 : Int32) : Met l yX7_isDigit (.code yX7_isDigit cX7_isDigit 1 (some .boolean) :: TB) { frames := 0, cells := 0, slots := 0, locals := 0 } (PC2 D T sq sv [.int p0] (([] : va_W)) sz) (Qi (S := Unit) (fun (r : Int32) (_ : Unit) => (0 ≤ r.toInt ∧ r.toInt ≤ 1)) (fun (_ : Unit) => ([] : va_W)) D (va_A (([] : va_W)) sz)) 0 0 (va_A (([] : va_W)) sz) := by
  refine ct_begin2 (Qc := Qi (S := Unit) (fun (r : Int32) (_ : Unit) => (0 ≤ r.toInt ∧ r.toInt ≤ 1)) (fun (_ : Unit) => ([] : va_W)) D) (by decide +kernel) (Nat.le_of_ble_eq_true rfl) ?_
  intro p e s m below meth c A ls C0 hr hlocks hnm hE hStr hA hP hD hl
  generalize ([.int p0] : List Value).toArray = args at C0 ⊢
  have hx := C0.1
  have hb := C0.2.1
  have hml := C0.2.2.1
  have hown := C0.2.2.2.1
  have hT := C0.2.2.2.2
  have hK := hE.1
  generalize hH : s.heap = H at hP ⊢
  have hS : va_S A s.heap H [] := by rw [← hH]; exact va_S.rf
  have hP : va_P D vwCl [] H := hP
  have hD : va_D A [] := hD
  have hl : lv_has ls 1 [(0, .int p0)] := hl
  refine lv_iload_n hx hb dX7_isDigit_0 rfl (lv_at hl 0 rfl) ?_
  refine lv_bipush (v := 48) hx hb dX7_isDigit_1 (by decide) ?_
  have J35459 : ∀ (x35458 : Int32) (H : Heap) (locs : List Loc) (ls : Array Slot), (0 ≤ x35458.toInt ∧ x35458.toInt ≤ 1) → va_P D vwCl [] H → va_D A [] → va_S A s.heap H locs → lv_has ls 1 [(0, .int p0)] → W p l e { frames := 0, cells := 0, slots := 0, locals := 0 } s m args below meth c H locs 0 0 (MQ below ((Qi (S := Unit) (fun (r : Int32) (_ : Unit) => (0 ≤ r.toInt ∧ r.toInt ≤ 1)) (fun (_ : Unit) => ([] : va_W)) D) A) args s 0 0 A) (F0 m 17 ls [.int x35458]) := by
    intro x35458 H locs ls hx35458 hP hD hS hl
    exact r_zret () C0 hr (bool_nar ⟨by omega, by omega⟩) hlocks hS (Nat.le_refl _) (Nat.le_refl _) dX7_isDigit_17 ⟨by omega, by omega⟩ (hP.sub (ws' := []) [] rfl) (hD.sub (ws' := []) [] (by decide +kernel) rfl)
  refine lv_icmp_lt (tgt := 16) hx hb dX7_isDigit_3 (by decide) (fun c35456 => ?_) (fun c35456 => ?_)
  · skip
    have kc35456 : p0.toInt < 48 := lt_ti rfl (by decide) c35456
    refine lv_iconst (v := 0) hx hb dX7_isDigit_16 (by decide) ?_
    exact J35459 0 _ _ ls ⟨by decide, by decide⟩ (hP.sub (ws' := []) [] rfl) (hD.sub (ws' := []) [] (by decide +kernel) rfl) hS (lv_sub hl [0] rfl)
  · skip
    have kc35456 : 48 ≤ p0.toInt := nlt_ti rfl (by decide) c35456
    refine lv_iload_n hx hb dX7_isDigit_6 rfl (lv_at hl 0 rfl) ?_
    refine lv_bipush (v := 57) hx hb dX7_isDigit_7 (by decide) ?_
    refine lv_icmp_gt (tgt := 16) hx hb dX7_isDigit_9 (by decide) (fun c35460 => ?_) (fun c35460 => ?_)
    · skip
      have kc35460 : 57 < p0.toInt := lt_ti (by decide) rfl c35460
      refine lv_iconst (v := 0) hx hb dX7_isDigit_16 (by decide) ?_
      exact J35459 0 _ _ ls ⟨by decide, by decide⟩ (hP.sub (ws' := []) [] rfl) (hD.sub (ws' := []) [] (by decide +kernel) rfl) hS (lv_sub hl [0] rfl)
    · skip
      have kc35460 : p0.toInt ≤ 57 := nlt_ti (by decide) rfl c35460
      refine lv_iconst (v := 1) hx hb dX7_isDigit_12 (by decide) ?_
      refine lv_goto (tgt := 17) hx hb dX7_isDigit_13 (by decide) ?_
      exact J35459 1 _ _ ls ⟨by decide, by decide⟩ (hP.sub (ws' := []) [] rfl) (hD.sub (ws' := []) [] (by decide +kernel) rfl) hS (lv_sub hl [0] rfl)
set_option maxHeartbeats 4000000 in
set_option maxRecDepth 100000 in
theorem g_X7_isBlank_35585 (l : Launch) (D : va_G) (T : Nat → ClassId) (sq sv sz : Nat) (p0 : Int32) : Met l yX7_isBlank (.code yX7_isBlank cX7_isBlank 1 (some .boolean) :: TB) { frames := 0, cells := 0, slots := 0, locals := 0 } (PC2 D T sq sv [.int p0] (([] : va_W)) sz) (Qi (S := Unit) (fun (r : Int32) (_ : Unit) => (0 ≤ r.toInt ∧ r.toInt ≤ 1)) (fun (_ : Unit) => ([] : va_W)) D (va_A (([] : va_W)) sz)) 0 0 (va_A (([] : va_W)) sz) := by
  refine ct_begin2 (Qc := Qi (S := Unit) (fun (r : Int32) (_ : Unit) => (0 ≤ r.toInt ∧ r.toInt ≤ 1)) (fun (_ : Unit) => ([] : va_W)) D) (by decide +kernel) (Nat.le_of_ble_eq_true rfl) ?_
  intro p e s m below meth c A ls C0 hr hlocks hnm hE hStr hA hP hD hl
  generalize ([.int p0] : List Value).toArray = args at C0 ⊢
  have hx := C0.1
  have hb := C0.2.1
  have hml := C0.2.2.1
  have hown := C0.2.2.2.1
  have hT := C0.2.2.2.2
  have hK := hE.1
  generalize hH : s.heap = H at hP ⊢
  have hS : va_S A s.heap H [] := by rw [← hH]; exact va_S.rf
  have hP : va_P D vwCl [] H := hP
  have hD : va_D A [] := hD
  have hl : lv_has ls 1 [(0, .int p0)] := hl
  refine lv_iload_n hx hb dX7_isBlank_0 rfl (lv_at hl 0 rfl) ?_
  refine lv_bipush (v := 10) hx hb dX7_isBlank_1 (by decide) ?_
  have J35589 : ∀ (x35588 : Int32) (H : Heap) (locs : List Loc) (ls : Array Slot), (0 ≤ x35588.toInt ∧ x35588.toInt ≤ 1) → va_P D vwCl [] H → va_D A [] → va_S A s.heap H locs → lv_has ls 1 [(0, .int p0)] → W p l e { frames := 0, cells := 0, slots := 0, locals := 0 } s m args below meth c H locs 0 0 (MQ below ((Qi (S := Unit) (fun (r : Int32) (_ : Unit) => (0 ≤ r.toInt ∧ r.toInt ≤ 1)) (fun (_ : Unit) => ([] : va_W)) D) A) args s 0 0 A) (F0 m 17 ls [.int x35588]) := by
    intro x35588 H locs ls hx35588 hP hD hS hl
    exact r_zret () C0 hr (bool_nar ⟨by omega, by omega⟩) hlocks hS (Nat.le_refl _) (Nat.le_refl _) dX7_isBlank_17 ⟨by omega, by omega⟩ (hP.sub (ws' := []) [] rfl) (hD.sub (ws' := []) [] (by decide +kernel) rfl)
  refine lv_icmp_eq (tgt := 12) hx hb dX7_isBlank_3 (by decide) (fun c35586 => ?_) (fun c35586 => ?_)
  · skip
    have kc35586 : p0.toInt = 10 := eq_ti rfl (by decide) c35586
    refine lv_iconst (v := 1) hx hb dX7_isBlank_12 (by decide) ?_
    refine lv_goto (tgt := 17) hx hb dX7_isBlank_13 (by decide) ?_
    exact J35589 1 _ _ ls ⟨by decide, by decide⟩ (hP.sub (ws' := []) [] rfl) (hD.sub (ws' := []) [] (by decide +kernel) rfl) hS (lv_sub hl [0] rfl)
  · skip
    have kc35586 : p0.toInt ≠ 10 := ne_ti rfl (by decide) c35586
    refine lv_iload_n hx hb dX7_isBlank_6 rfl (lv_at hl 0 rfl) ?_
    refine lv_bipush (v := 32) hx hb dX7_isBlank_7 (by decide) ?_
    refine lv_icmp_ne (tgt := 16) hx hb dX7_isBlank_9 (by decide) (fun c35590 => ?_) (fun c35590 => ?_)
    · skip
      have kc35590 : p0.toInt ≠ 32 := ne_ti rfl (by decide) c35590
      refine lv_iconst (v := 0) hx hb dX7_isBlank_16 (by decide) ?_
      exact J35589 0 _ _ ls ⟨by decide, by decide⟩ (hP.sub (ws' := []) [] rfl) (hD.sub (ws' := []) [] (by decide +kernel) rfl) hS (lv_sub hl [0] rfl)
    · skip
      have kc35590 : p0.toInt = 32 := eq_ti rfl (by decide) c35590
      refine lv_iconst (v := 1) hx hb dX7_isBlank_12 (by decide) ?_
      refine lv_goto (tgt := 17) hx hb dX7_isBlank_13 (by decide) ?_
      exact J35589 1 _ _ ls ⟨by decide, by decide⟩ (hP.sub (ws' := []) [] rfl) (hD.sub (ws' := []) [] (by decide +kernel) rfl) hS (lv_sub hl [0] rfl)
set_option maxHeartbeats 4000000 in
set_option maxRecDepth 100000 in
theorem g_X2_forget_35729 (l : Launch) (D : va_G) (T : Nat → ClassId) (sq sv sz : Nat) (z1 : Nat) (z2 : Nat) (z3 : Nat) (z4 : Nat) (z5 : Nat) (z6 : Nat) (z7 : Nat) (z8 : Nat) (z9 : Nat) (w1 : va_W) (hw1 : B_X2 T z1 z2 z3 z4 z5 z6 z7 z8 z9 w1) : Met l yX2_forget (.code yX2_forget cX2_forget 1 none :: TB) { frames := 1, cells := 0, slots := 0, locals := 23 } (PC2 D T sq sv [.ref z1] (w1) sz) (Qv2 (S := va_W) (fun (u0 : va_W) => B_X2 T z1 z2 z3 z4 z5 z6 z7 z8 z9 u0 ∧ fv u0 9 = fv w1 9 ∧ fv u0 10 = fv w1 10) (fun (u0 : va_W) => u0) D (va_A (w1) sz)) 0 0 (va_A (w1) sz) := by
  obtain ⟨x35740, x35741, x35742, x35743, f35744, f35745, f35746, f35747, f35748, f35749, rfl, hx35740, hx35741, hx35742, hx35743⟩ := hw1
  refine ct_begin2 (Qc := Qv2 (S := va_W) (fun (u0 : va_W) => B_X2 T z1 z2 z3 z4 z5 z6 z7 z8 z9 u0 ∧ fv u0 9 = fv ([(z1, .inr (2, [.ref z2, .ref z3, .ref z4, .ref z5, .ref z6, .ref z7, .ref z8, .ref z9, .int x35740, .int x35741, .int x35742, .int x35743])), (z2, .inl (T 0, 64, .inl f35744)), (z3, .inl (T 0, 64, .inl f35745)), (z4, .inl (T 0, 64, .inl f35746)), (z5, .inl (T 0, 64, .inl f35747)), (z6, .inl (T 0, 64, .inl f35748)), (z7, .inl (T 0, 1200, .inl f35749))] : va_W) 9 ∧ fv u0 10 = fv ([(z1, .inr (2, [.ref z2, .ref z3, .ref z4, .ref z5, .ref z6, .ref z7, .ref z8, .ref z9, .int x35740, .int x35741, .int x35742, .int x35743])), (z2, .inl (T 0, 64, .inl f35744)), (z3, .inl (T 0, 64, .inl f35745)), (z4, .inl (T 0, 64, .inl f35746)), (z5, .inl (T 0, 64, .inl f35747)), (z6, .inl (T 0, 64, .inl f35748)), (z7, .inl (T 0, 1200, .inl f35749))] : va_W) 10) (fun (u0 : va_W) => u0) D) (by decide +kernel) (Nat.le_of_ble_eq_true rfl) ?_
  intro p e s m below meth c A ls C0 hr hlocks hnm hE hStr hA hP hD hl
  generalize ([.ref z1] : List Value).toArray = args at C0 ⊢
  have hx := C0.1
  have hb := C0.2.1
  have hml := C0.2.2.1
  have hown := C0.2.2.2.1
  have hT := C0.2.2.2.2
  have hK := hE.1
  generalize hH : s.heap = H at hP ⊢
  have hS : va_S A s.heap H [] := by rw [← hH]; exact va_S.rf
  have hP : va_P D vwCl [(z1, .inr (2, [.ref z2, .ref z3, .ref z4, .ref z5, .ref z6, .ref z7, .ref z8, .ref z9, .int x35740, .int x35741, .int x35742, .int x35743])), (z2, .inl (T 0, 64, .inl f35744)), (z3, .inl (T 0, 64, .inl f35745)), (z4, .inl (T 0, 64, .inl f35746)), (z5, .inl (T 0, 64, .inl f35747)), (z6, .inl (T 0, 64, .inl f35748)), (z7, .inl (T 0, 1200, .inl f35749))] H := hP
  have hD : va_D A [(z1, .inr (2, [.ref z2, .ref z3, .ref z4, .ref z5, .ref z6, .ref z7, .ref z8, .ref z9, .int x35740, .int x35741, .int x35742, .int x35743])), (z2, .inl (T 0, 64, .inl f35744)), (z3, .inl (T 0, 64, .inl f35745)), (z4, .inl (T 0, 64, .inl f35746)), (z5, .inl (T 0, 64, .inl f35747)), (z6, .inl (T 0, 64, .inl f35748)), (z7, .inl (T 0, 1200, .inl f35749))] := hD
  have hl : lv_has ls 1 [(0, .ref z1)] := hl
  refine lv_aload_n hx hb dX2_forget_0 rfl (lv_at hl 0 rfl) ?_
  refine r_get (v := .ref z2) C0 hE ffX2_0 mw_108 hP 0 rfl rfl dX2_forget_1 ?_
  refine lv_iconst (v := (-1)) hx hb dX2_forget_4 (by decide) ?_
  refine r_callv (wr := [(z1, .inr (2, [.ref z2, .ref z3, .ref z4, .ref z5, .ref z6, .ref z7, .ref z8, .ref z9, .int x35740, .int x35741, .int x35742, .int x35743])), (z3, .inl (T 0, 64, .inl f35745)), (z4, .inl (T 0, 64, .inl f35746)), (z5, .inl (T 0, 64, .inl f35747)), (z6, .inl (T 0, 64, .inl f35748)), (z7, .inl (T 0, 1200, .inl f35749))]) (r_runS2 (As := [.ref z2, .int (-1)]) (rest := []) (wc := [(z2, .inl (T 0, 64, .inl f35744))]) C0 hE hStr hS (va_free (wc := [(z2, .inl (T 0, 64, .inl f35744))]) hD hS hA [1] rfl) (c_fill2 l D T sq sv H.size z2 64 f35744 (-1) (by decide)) mw_248 mw_249 mw_13 mw_250 dn_1820 rfl rfl ⟨Nat.le_of_ble_eq_true rfl, Nat.le_of_ble_eq_true rfl⟩ (hP.sub (ws' := [(z2, .inl (T 0, 64, .inl f35744))]) [1] rfl) (hD.sub (ws' := [(z2, .inl (T 0, 64, .inl f35744))]) [1] (by decide +kernel) rfl) hl.1 rfl (Nat.le_of_ble_eq_true rfl) dX2_forget_5 ⟨Nat.le_of_ble_eq_true rfl, Nat.le_of_ble_eq_true rfl⟩) hP hD hS hA [1] [0, 2, 3, 4, 5, 6] rfl rfl (by decide +kernel) (by decide +kernel) (fun u H locs hP hD hS => ?_)
  generalize fl (-1) 64 f35744 = f35750 at hP hD
  have hP : va_P D vwCl [(z1, .inr (2, [.ref z2, .ref z3, .ref z4, .ref z5, .ref z6, .ref z7, .ref z8, .ref z9, .int x35740, .int x35741, .int x35742, .int x35743])), (z3, .inl (T 0, 64, .inl f35745)), (z4, .inl (T 0, 64, .inl f35746)), (z5, .inl (T 0, 64, .inl f35747)), (z6, .inl (T 0, 64, .inl f35748)), (z7, .inl (T 0, 1200, .inl f35749)), (z2, .inl (T 0, 64, .inl f35750))] H := hP
  have hD : va_D A [(z1, .inr (2, [.ref z2, .ref z3, .ref z4, .ref z5, .ref z6, .ref z7, .ref z8, .ref z9, .int x35740, .int x35741, .int x35742, .int x35743])), (z3, .inl (T 0, 64, .inl f35745)), (z4, .inl (T 0, 64, .inl f35746)), (z5, .inl (T 0, 64, .inl f35747)), (z6, .inl (T 0, 64, .inl f35748)), (z7, .inl (T 0, 1200, .inl f35749)), (z2, .inl (T 0, 64, .inl f35750))] := hD
  refine W.widen (k := 0) (n := 0) (Nat.le_refl _) (Nat.le_refl _) ?_
  refine lv_aload_n hx hb dX2_forget_8 rfl (lv_at hl 0 rfl) ?_
  refine r_get (v := .ref z3) C0 hE ffX2_1 mw_111 hP 0 rfl rfl dX2_forget_9 ?_
  refine lv_iconst (v := 0) hx hb dX2_forget_12 (by decide) ?_
  refine r_callv (wr := [(z1, .inr (2, [.ref z2, .ref z3, .ref z4, .ref z5, .ref z6, .ref z7, .ref z8, .ref z9, .int x35740, .int x35741, .int x35742, .int x35743])), (z4, .inl (T 0, 64, .inl f35746)), (z5, .inl (T 0, 64, .inl f35747)), (z6, .inl (T 0, 64, .inl f35748)), (z7, .inl (T 0, 1200, .inl f35749)), (z2, .inl (T 0, 64, .inl f35750))]) (r_runS2 (As := [.ref z3, .int 0]) (rest := []) (wc := [(z3, .inl (T 0, 64, .inl f35745))]) C0 hE hStr hS (va_free (wc := [(z3, .inl (T 0, 64, .inl f35745))]) hD hS hA [1] rfl) (c_fill2 l D T sq sv H.size z3 64 f35745 0 (by decide)) mw_248 mw_249 mw_13 mw_250 dn_1820 rfl rfl ⟨Nat.le_of_ble_eq_true rfl, Nat.le_of_ble_eq_true rfl⟩ (hP.sub (ws' := [(z3, .inl (T 0, 64, .inl f35745))]) [1] rfl) (hD.sub (ws' := [(z3, .inl (T 0, 64, .inl f35745))]) [1] (by decide +kernel) rfl) hl.1 rfl (Nat.le_of_ble_eq_true rfl) dX2_forget_13 ⟨Nat.le_of_ble_eq_true rfl, Nat.le_of_ble_eq_true rfl⟩) hP hD hS hA [1] [0, 2, 3, 4, 5, 6] rfl rfl (by decide +kernel) (by decide +kernel) (fun u H locs hP hD hS => ?_)
  generalize fl 0 64 f35745 = f35751 at hP hD
  have hP : va_P D vwCl [(z1, .inr (2, [.ref z2, .ref z3, .ref z4, .ref z5, .ref z6, .ref z7, .ref z8, .ref z9, .int x35740, .int x35741, .int x35742, .int x35743])), (z4, .inl (T 0, 64, .inl f35746)), (z5, .inl (T 0, 64, .inl f35747)), (z6, .inl (T 0, 64, .inl f35748)), (z7, .inl (T 0, 1200, .inl f35749)), (z2, .inl (T 0, 64, .inl f35750)), (z3, .inl (T 0, 64, .inl f35751))] H := hP
  have hD : va_D A [(z1, .inr (2, [.ref z2, .ref z3, .ref z4, .ref z5, .ref z6, .ref z7, .ref z8, .ref z9, .int x35740, .int x35741, .int x35742, .int x35743])), (z4, .inl (T 0, 64, .inl f35746)), (z5, .inl (T 0, 64, .inl f35747)), (z6, .inl (T 0, 64, .inl f35748)), (z7, .inl (T 0, 1200, .inl f35749)), (z2, .inl (T 0, 64, .inl f35750)), (z3, .inl (T 0, 64, .inl f35751))] := hD
  refine W.widen (k := 0) (n := 0) (Nat.le_refl _) (Nat.le_refl _) ?_
  refine lv_aload_n hx hb dX2_forget_16 rfl (lv_at hl 0 rfl) ?_
  refine r_get (v := .ref z4) C0 hE ffX2_2 mw_114 hP 0 rfl rfl dX2_forget_17 ?_
  refine lv_iconst (v := 0) hx hb dX2_forget_20 (by decide) ?_
  refine r_callv (wr := [(z1, .inr (2, [.ref z2, .ref z3, .ref z4, .ref z5, .ref z6, .ref z7, .ref z8, .ref z9, .int x35740, .int x35741, .int x35742, .int x35743])), (z5, .inl (T 0, 64, .inl f35747)), (z6, .inl (T 0, 64, .inl f35748)), (z7, .inl (T 0, 1200, .inl f35749)), (z2, .inl (T 0, 64, .inl f35750)), (z3, .inl (T 0, 64, .inl f35751))]) (r_runS2 (As := [.ref z4, .int 0]) (rest := []) (wc := [(z4, .inl (T 0, 64, .inl f35746))]) C0 hE hStr hS (va_free (wc := [(z4, .inl (T 0, 64, .inl f35746))]) hD hS hA [1] rfl) (c_fill2 l D T sq sv H.size z4 64 f35746 0 (by decide)) mw_248 mw_249 mw_13 mw_250 dn_1820 rfl rfl ⟨Nat.le_of_ble_eq_true rfl, Nat.le_of_ble_eq_true rfl⟩ (hP.sub (ws' := [(z4, .inl (T 0, 64, .inl f35746))]) [1] rfl) (hD.sub (ws' := [(z4, .inl (T 0, 64, .inl f35746))]) [1] (by decide +kernel) rfl) hl.1 rfl (Nat.le_of_ble_eq_true rfl) dX2_forget_21 ⟨Nat.le_of_ble_eq_true rfl, Nat.le_of_ble_eq_true rfl⟩) hP hD hS hA [1] [0, 2, 3, 4, 5, 6] rfl rfl (by decide +kernel) (by decide +kernel) (fun u H locs hP hD hS => ?_)
  generalize fl 0 64 f35746 = f35752 at hP hD
  have hP : va_P D vwCl [(z1, .inr (2, [.ref z2, .ref z3, .ref z4, .ref z5, .ref z6, .ref z7, .ref z8, .ref z9, .int x35740, .int x35741, .int x35742, .int x35743])), (z5, .inl (T 0, 64, .inl f35747)), (z6, .inl (T 0, 64, .inl f35748)), (z7, .inl (T 0, 1200, .inl f35749)), (z2, .inl (T 0, 64, .inl f35750)), (z3, .inl (T 0, 64, .inl f35751)), (z4, .inl (T 0, 64, .inl f35752))] H := hP
  have hD : va_D A [(z1, .inr (2, [.ref z2, .ref z3, .ref z4, .ref z5, .ref z6, .ref z7, .ref z8, .ref z9, .int x35740, .int x35741, .int x35742, .int x35743])), (z5, .inl (T 0, 64, .inl f35747)), (z6, .inl (T 0, 64, .inl f35748)), (z7, .inl (T 0, 1200, .inl f35749)), (z2, .inl (T 0, 64, .inl f35750)), (z3, .inl (T 0, 64, .inl f35751)), (z4, .inl (T 0, 64, .inl f35752))] := hD
  refine W.widen (k := 0) (n := 0) (Nat.le_refl _) (Nat.le_refl _) ?_
  refine lv_aload_n hx hb dX2_forget_24 rfl (lv_at hl 0 rfl) ?_
  refine r_get (v := .ref z5) C0 hE ffX2_3 mw_116 hP 0 rfl rfl dX2_forget_25 ?_
  refine lv_iconst (v := 0) hx hb dX2_forget_28 (by decide) ?_
  refine r_callv (wr := [(z1, .inr (2, [.ref z2, .ref z3, .ref z4, .ref z5, .ref z6, .ref z7, .ref z8, .ref z9, .int x35740, .int x35741, .int x35742, .int x35743])), (z6, .inl (T 0, 64, .inl f35748)), (z7, .inl (T 0, 1200, .inl f35749)), (z2, .inl (T 0, 64, .inl f35750)), (z3, .inl (T 0, 64, .inl f35751)), (z4, .inl (T 0, 64, .inl f35752))]) (r_runS2 (As := [.ref z5, .int 0]) (rest := []) (wc := [(z5, .inl (T 0, 64, .inl f35747))]) C0 hE hStr hS (va_free (wc := [(z5, .inl (T 0, 64, .inl f35747))]) hD hS hA [1] rfl) (c_fill2 l D T sq sv H.size z5 64 f35747 0 (by decide)) mw_248 mw_249 mw_13 mw_250 dn_1820 rfl rfl ⟨Nat.le_of_ble_eq_true rfl, Nat.le_of_ble_eq_true rfl⟩ (hP.sub (ws' := [(z5, .inl (T 0, 64, .inl f35747))]) [1] rfl) (hD.sub (ws' := [(z5, .inl (T 0, 64, .inl f35747))]) [1] (by decide +kernel) rfl) hl.1 rfl (Nat.le_of_ble_eq_true rfl) dX2_forget_29 ⟨Nat.le_of_ble_eq_true rfl, Nat.le_of_ble_eq_true rfl⟩) hP hD hS hA [1] [0, 2, 3, 4, 5, 6] rfl rfl (by decide +kernel) (by decide +kernel) (fun u H locs hP hD hS => ?_)
  generalize fl 0 64 f35747 = f35753 at hP hD
  have hP : va_P D vwCl [(z1, .inr (2, [.ref z2, .ref z3, .ref z4, .ref z5, .ref z6, .ref z7, .ref z8, .ref z9, .int x35740, .int x35741, .int x35742, .int x35743])), (z6, .inl (T 0, 64, .inl f35748)), (z7, .inl (T 0, 1200, .inl f35749)), (z2, .inl (T 0, 64, .inl f35750)), (z3, .inl (T 0, 64, .inl f35751)), (z4, .inl (T 0, 64, .inl f35752)), (z5, .inl (T 0, 64, .inl f35753))] H := hP
  have hD : va_D A [(z1, .inr (2, [.ref z2, .ref z3, .ref z4, .ref z5, .ref z6, .ref z7, .ref z8, .ref z9, .int x35740, .int x35741, .int x35742, .int x35743])), (z6, .inl (T 0, 64, .inl f35748)), (z7, .inl (T 0, 1200, .inl f35749)), (z2, .inl (T 0, 64, .inl f35750)), (z3, .inl (T 0, 64, .inl f35751)), (z4, .inl (T 0, 64, .inl f35752)), (z5, .inl (T 0, 64, .inl f35753))] := hD
  refine W.widen (k := 0) (n := 0) (Nat.le_refl _) (Nat.le_refl _) ?_
  refine lv_aload_n hx hb dX2_forget_32 rfl (lv_at hl 0 rfl) ?_
  refine r_get (v := .ref z6) C0 hE ffX2_4 mw_118 hP 0 rfl rfl dX2_forget_33 ?_
  refine lv_iconst (v := 0) hx hb dX2_forget_36 (by decide) ?_
  refine r_callv (wr := [(z1, .inr (2, [.ref z2, .ref z3, .ref z4, .ref z5, .ref z6, .ref z7, .ref z8, .ref z9, .int x35740, .int x35741, .int x35742, .int x35743])), (z7, .inl (T 0, 1200, .inl f35749)), (z2, .inl (T 0, 64, .inl f35750)), (z3, .inl (T 0, 64, .inl f35751)), (z4, .inl (T 0, 64, .inl f35752)), (z5, .inl (T 0, 64, .inl f35753))]) (r_runS2 (As := [.ref z6, .int 0]) (rest := []) (wc := [(z6, .inl (T 0, 64, .inl f35748))]) C0 hE hStr hS (va_free (wc := [(z6, .inl (T 0, 64, .inl f35748))]) hD hS hA [1] rfl) (c_fill2 l D T sq sv H.size z6 64 f35748 0 (by decide)) mw_248 mw_249 mw_13 mw_250 dn_1820 rfl rfl ⟨Nat.le_of_ble_eq_true rfl, Nat.le_of_ble_eq_true rfl⟩ (hP.sub (ws' := [(z6, .inl (T 0, 64, .inl f35748))]) [1] rfl) (hD.sub (ws' := [(z6, .inl (T 0, 64, .inl f35748))]) [1] (by decide +kernel) rfl) hl.1 rfl (Nat.le_of_ble_eq_true rfl) dX2_forget_37 ⟨Nat.le_of_ble_eq_true rfl, Nat.le_of_ble_eq_true rfl⟩) hP hD hS hA [1] [0, 2, 3, 4, 5, 6] rfl rfl (by decide +kernel) (by decide +kernel) (fun u H locs hP hD hS => ?_)
  generalize fl 0 64 f35748 = f35754 at hP hD
  have hP : va_P D vwCl [(z1, .inr (2, [.ref z2, .ref z3, .ref z4, .ref z5, .ref z6, .ref z7, .ref z8, .ref z9, .int x35740, .int x35741, .int x35742, .int x35743])), (z7, .inl (T 0, 1200, .inl f35749)), (z2, .inl (T 0, 64, .inl f35750)), (z3, .inl (T 0, 64, .inl f35751)), (z4, .inl (T 0, 64, .inl f35752)), (z5, .inl (T 0, 64, .inl f35753)), (z6, .inl (T 0, 64, .inl f35754))] H := hP
  have hD : va_D A [(z1, .inr (2, [.ref z2, .ref z3, .ref z4, .ref z5, .ref z6, .ref z7, .ref z8, .ref z9, .int x35740, .int x35741, .int x35742, .int x35743])), (z7, .inl (T 0, 1200, .inl f35749)), (z2, .inl (T 0, 64, .inl f35750)), (z3, .inl (T 0, 64, .inl f35751)), (z4, .inl (T 0, 64, .inl f35752)), (z5, .inl (T 0, 64, .inl f35753)), (z6, .inl (T 0, 64, .inl f35754))] := hD
  refine W.widen (k := 0) (n := 0) (Nat.le_refl _) (Nat.le_refl _) ?_
  refine lv_aload_n hx hb dX2_forget_40 rfl (lv_at hl 0 rfl) ?_
  refine lv_iconst (v := 0) hx hb dX2_forget_41 (by decide) ?_
  refine r_put (v := .int 0) (ty := .int) (fs1 := [.ref z2, .ref z3, .ref z4, .ref z5, .ref z6, .ref z7, .ref z8, .ref z9, .int 0, .int x35741, .int x35742, .int x35743]) (ws1 := [(z1, .inr (2, [.ref z2, .ref z3, .ref z4, .ref z5, .ref z6, .ref z7, .ref z8, .ref z9, .int 0, .int x35741, .int x35742, .int x35743])), (z7, .inl (T 0, 1200, .inl f35749)), (z2, .inl (T 0, 64, .inl f35750)), (z3, .inl (T 0, 64, .inl f35751)), (z4, .inl (T 0, 64, .inl f35752)), (z5, .inl (T 0, 64, .inl f35753)), (z6, .inl (T 0, 64, .inl f35754))]) C0 hE ffX2_8 tyX2 tyX2_ok nmX2 mw_124 pf_1358 hP hD hS 0 rfl rfl rfl (Nat.le_of_ble_eq_true rfl) rfl rfl dX2_forget_42 (fun H locs hP hD hS => ?_)
  refine lv_aload_n hx hb dX2_forget_45 rfl (lv_at hl 0 rfl) ?_
  refine lv_iconst (v := 0) hx hb dX2_forget_46 (by decide) ?_
  refine r_put (v := .int 0) (ty := .int) (fs1 := [.ref z2, .ref z3, .ref z4, .ref z5, .ref z6, .ref z7, .ref z8, .ref z9, .int 0, .int x35741, .int x35742, .int 0]) (ws1 := [(z1, .inr (2, [.ref z2, .ref z3, .ref z4, .ref z5, .ref z6, .ref z7, .ref z8, .ref z9, .int 0, .int x35741, .int x35742, .int 0])), (z7, .inl (T 0, 1200, .inl f35749)), (z2, .inl (T 0, 64, .inl f35750)), (z3, .inl (T 0, 64, .inl f35751)), (z4, .inl (T 0, 64, .inl f35752)), (z5, .inl (T 0, 64, .inl f35753)), (z6, .inl (T 0, 64, .inl f35754))]) C0 hE ffX2_11 tyX2 tyX2_ok nmX2 mw_130 pf_1358 hP hD hS 0 rfl rfl rfl (Nat.le_of_ble_eq_true rfl) rfl rfl dX2_forget_47 (fun H locs hP hD hS => ?_)
  exact r_vret2 ([(z1, .inr (2, [.ref z2, .ref z3, .ref z4, .ref z5, .ref z6, .ref z7, .ref z8, .ref z9, .int 0, .int x35741, .int x35742, .int 0])), (z2, .inl (T 0, 64, .inl f35750)), (z3, .inl (T 0, 64, .inl f35751)), (z4, .inl (T 0, 64, .inl f35752)), (z5, .inl (T 0, 64, .inl f35753)), (z6, .inl (T 0, 64, .inl f35754)), (z7, .inl (T 0, 1200, .inl f35749))] : va_W) C0 hr hlocks hS (Nat.le_refl _) (Nat.le_refl _) dX2_forget_50 ⟨⟨0, x35741, x35742, 0, f35750, f35751, f35752, f35753, f35754, f35749, rfl, ⟨by decide, by decide⟩, ⟨by omega, by omega⟩, ⟨by omega, by omega⟩, ⟨by decide, by decide⟩⟩, rfl, rfl⟩ (hP.sub (ws' := [(z1, .inr (2, [.ref z2, .ref z3, .ref z4, .ref z5, .ref z6, .ref z7, .ref z8, .ref z9, .int 0, .int x35741, .int x35742, .int 0])), (z2, .inl (T 0, 64, .inl f35750)), (z3, .inl (T 0, 64, .inl f35751)), (z4, .inl (T 0, 64, .inl f35752)), (z5, .inl (T 0, 64, .inl f35753)), (z6, .inl (T 0, 64, .inl f35754)), (z7, .inl (T 0, 1200, .inl f35749))]) [0, 2, 3, 4, 5, 6, 1] rfl) (hD.sub (ws' := [(z1, .inr (2, [.ref z2, .ref z3, .ref z4, .ref z5, .ref z6, .ref z7, .ref z8, .ref z9, .int 0, .int x35741, .int x35742, .int 0])), (z2, .inl (T 0, 64, .inl f35750)), (z3, .inl (T 0, 64, .inl f35751)), (z4, .inl (T 0, 64, .inl f35752)), (z5, .inl (T 0, 64, .inl f35753)), (z6, .inl (T 0, 64, .inl f35754)), (z7, .inl (T 0, 1200, .inl f35749))]) [0, 2, 3, 4, 5, 6, 1] (by decide +kernel) rfl)
set_option maxHeartbeats 4000000 in
set_option maxRecDepth 100000 in
theorem g_X2_begin_35928 (l : Launch) (D : va_G) (T : Nat → ClassId) (sq sv sz : Nat) (z1 : Nat) (z2 : Nat) (z3 : Nat) (z4 : Nat) (z5 : Nat) (z6 : Nat) (z7 : Nat) (z8 : Nat) (z9 : Nat) (p1 : Int32) (p2 : Int32) (w1 : va_W) (hw1 : B_X2 T z1 z2 z3 z4 z5 z6 z7 z8 z9 w1) (hp1 : 1 ≤ p1.toInt ∧ p1.toInt ≤ 8) (hp2 : 1 ≤ p2.toInt ∧ p2.toInt ≤ 8) : Met l yX2_begin (.code yX2_begin cX2_begin 3 none :: TB) { frames := 2, cells := 0, slots := 0, locals := 43 } (PC2 D T sq sv [.ref z1, .int p1, .int p2] (w1) sz) (Qv2 (S := va_W) (fun (u0 : va_W) => B_X2 T z1 z2 z3 z4 z5 z6 z7 z8 z9 u0) (fun (u0 : va_W) => u0) D (va_A (w1) sz)) 0 0 (va_A (w1) sz) := by
  obtain ⟨x35939, x35940, x35941, x35942, f35943, f35944, f35945, f35946, f35947, f35948, rfl, hx35939, hx35940, hx35941, hx35942⟩ := hw1
  refine ct_begin2 (Qc := Qv2 (S := va_W) (fun (u0 : va_W) => B_X2 T z1 z2 z3 z4 z5 z6 z7 z8 z9 u0) (fun (u0 : va_W) => u0) D) (by decide +kernel) (Nat.le_of_ble_eq_true rfl) ?_
  intro p e s m below meth c A ls C0 hr hlocks hnm hE hStr hA hP hD hl
  generalize ([.ref z1, .int p1, .int p2] : List Value).toArray = args at C0 ⊢
  have hx := C0.1
  have hb := C0.2.1
  have hml := C0.2.2.1
  have hown := C0.2.2.2.1
  have hT := C0.2.2.2.2
  have hK := hE.1
  generalize hH : s.heap = H at hP ⊢
  have hS : va_S A s.heap H [] := by rw [← hH]; exact va_S.rf
  have hP : va_P D vwCl [(z1, .inr (2, [.ref z2, .ref z3, .ref z4, .ref z5, .ref z6, .ref z7, .ref z8, .ref z9, .int x35939, .int x35940, .int x35941, .int x35942])), (z2, .inl (T 0, 64, .inl f35943)), (z3, .inl (T 0, 64, .inl f35944)), (z4, .inl (T 0, 64, .inl f35945)), (z5, .inl (T 0, 64, .inl f35946)), (z6, .inl (T 0, 64, .inl f35947)), (z7, .inl (T 0, 1200, .inl f35948))] H := hP
  have hD : va_D A [(z1, .inr (2, [.ref z2, .ref z3, .ref z4, .ref z5, .ref z6, .ref z7, .ref z8, .ref z9, .int x35939, .int x35940, .int x35941, .int x35942])), (z2, .inl (T 0, 64, .inl f35943)), (z3, .inl (T 0, 64, .inl f35944)), (z4, .inl (T 0, 64, .inl f35945)), (z5, .inl (T 0, 64, .inl f35946)), (z6, .inl (T 0, 64, .inl f35947)), (z7, .inl (T 0, 1200, .inl f35948))] := hD
  have hl : lv_has ls 3 [(0, .ref z1), (1, .int p1), (2, .int p2)] := hl
  refine lv_aload_n hx hb dX2_begin_0 rfl (lv_at hl 0 rfl) ?_
  refine lv_iconst (v := 1) hx hb dX2_begin_1 (by decide) ?_
  refine lv_iload_n hx hb dX2_begin_2 rfl (lv_at hl 1 rfl) ?_
  refine va_mmax hx hb (by rw [hml]; exact hl.1.symm) hown (hT _ mw_238) (hT _ mw_239) (hT _ mw_12) (hT _ mw_240) (Nat.le_of_ble_eq_true rfl) (Nat.le_of_ble_eq_true rfl) (Nat.le_of_ble_eq_true rfl) (Nat.le_of_ble_eq_true rfl) dX2_begin_3 ?_
  refine lv_topi (fun x35949 ex35949 => ?_)
  have hx35949 := max_ti (a := 1) (b := p1.toInt) ex35949 (by decide) rfl
  refine r_put (v := .int x35949) (ty := .int) (fs1 := [.ref z2, .ref z3, .ref z4, .ref z5, .ref z6, .ref z7, .ref z8, .ref z9, .int x35939, .int x35940, .int x35949, .int x35942]) (ws1 := [(z1, .inr (2, [.ref z2, .ref z3, .ref z4, .ref z5, .ref z6, .ref z7, .ref z8, .ref z9, .int x35939, .int x35940, .int x35949, .int x35942])), (z2, .inl (T 0, 64, .inl f35943)), (z3, .inl (T 0, 64, .inl f35944)), (z4, .inl (T 0, 64, .inl f35945)), (z5, .inl (T 0, 64, .inl f35946)), (z6, .inl (T 0, 64, .inl f35947)), (z7, .inl (T 0, 1200, .inl f35948))]) C0 hE ffX2_10 tyX2 tyX2_ok nmX2 mw_128 pf_1358 hP hD hS 0 rfl rfl rfl (Nat.le_of_ble_eq_true rfl) rfl rfl dX2_begin_6 (fun H locs hP hD hS => ?_)
  refine lv_aload_n hx hb dX2_begin_9 rfl (lv_at hl 0 rfl) ?_
  refine lv_bipush (v := 64) hx hb dX2_begin_10 (by decide) ?_
  refine lv_aload_n hx hb dX2_begin_12 rfl (lv_at hl 0 rfl) ?_
  refine r_get (v := .int x35949) C0 hE ffX2_10 mw_128 hP 0 rfl rfl dX2_begin_13 ?_
  refine lv_iload_n hx hb dX2_begin_16 rfl (lv_at hl 2 rfl) ?_
  refine lv_imul hx hb dX2_begin_17 ?_
  refine lv_topi (fun x35950 ex35950 => ?_)
  have hx35950 : 1 ≤ x35950.toInt ∧ x35950.toInt ≤ 64 := by have hm := mul_bb (a := x35949.toInt) (b := p2.toInt) (u := 1) (v := 1) (p := 8) (q := 8) (L := 1) (U := 64) (by decide) (by decide) (by omega) (by omega) (by omega) (by omega) (by decide) (by decide); rw [ti_mul ex35950 rfl rfl (by omega) (by omega)]; exact hm
  refine va_mmin hx hb (by rw [hml]; exact hl.1.symm) hown (hT _ mw_241) (hT _ mw_242) (hT _ mw_12) (hT _ mw_243) (Nat.le_of_ble_eq_true rfl) (Nat.le_of_ble_eq_true rfl) (Nat.le_of_ble_eq_true rfl) (Nat.le_of_ble_eq_true rfl) dX2_begin_18 ?_
  refine lv_topi (fun x35951 ex35951 => ?_)
  have hx35951 := min_ti (a := 64) (b := x35950.toInt) ex35951 (by decide) rfl
  refine r_put (v := .int x35951) (ty := .int) (fs1 := [.ref z2, .ref z3, .ref z4, .ref z5, .ref z6, .ref z7, .ref z8, .ref z9, .int x35939, .int x35951, .int x35949, .int x35942]) (ws1 := [(z1, .inr (2, [.ref z2, .ref z3, .ref z4, .ref z5, .ref z6, .ref z7, .ref z8, .ref z9, .int x35939, .int x35951, .int x35949, .int x35942])), (z2, .inl (T 0, 64, .inl f35943)), (z3, .inl (T 0, 64, .inl f35944)), (z4, .inl (T 0, 64, .inl f35945)), (z5, .inl (T 0, 64, .inl f35946)), (z6, .inl (T 0, 64, .inl f35947)), (z7, .inl (T 0, 1200, .inl f35948))]) C0 hE ffX2_9 tyX2 tyX2_ok nmX2 mw_126 pf_1358 hP hD hS 0 rfl rfl rfl (Nat.le_of_ble_eq_true rfl) rfl rfl dX2_begin_21 (fun H locs hP hD hS => ?_)
  refine lv_aload_n hx hb dX2_begin_24 rfl (lv_at hl 0 rfl) ?_
  refine r_callv2 (wr := []) (r_runV2 (As := []) (rest := []) (wc := [(z1, .inr (2, [.ref z2, .ref z3, .ref z4, .ref z5, .ref z6, .ref z7, .ref z8, .ref z9, .int x35939, .int x35951, .int x35949, .int x35942])), (z2, .inl (T 0, 64, .inl f35943)), (z3, .inl (T 0, 64, .inl f35944)), (z4, .inl (T 0, 64, .inl f35945)), (z5, .inl (T 0, 64, .inl f35946)), (z6, .inl (T 0, 64, .inl f35947)), (z7, .inl (T 0, 1200, .inl f35948))]) (ci := 2) C0 hE hStr hS (va_free (wc := [(z1, .inr (2, [.ref z2, .ref z3, .ref z4, .ref z5, .ref z6, .ref z7, .ref z8, .ref z9, .int x35939, .int x35951, .int x35949, .int x35942])), (z2, .inl (T 0, 64, .inl f35943)), (z3, .inl (T 0, 64, .inl f35944)), (z4, .inl (T 0, 64, .inl f35945)), (z5, .inl (T 0, 64, .inl f35946)), (z6, .inl (T 0, 64, .inl f35947)), (z7, .inl (T 0, 1200, .inl f35948))]) hD hS hA [0, 1, 2, 3, 4, 5, 6] rfl) (g_X2_forget_35729 l D T sq sv H.size z1 z2 z3 z4 z5 z6 z7 z8 z9 [(z1, .inr (2, [.ref z2, .ref z3, .ref z4, .ref z5, .ref z6, .ref z7, .ref z8, .ref z9, .int x35939, .int x35951, .int x35949, .int x35942])), (z2, .inl (T 0, 64, .inl f35943)), (z3, .inl (T 0, 64, .inl f35944)), (z4, .inl (T 0, 64, .inl f35945)), (z5, .inl (T 0, 64, .inl f35946)), (z6, .inl (T 0, 64, .inl f35947)), (z7, .inl (T 0, 1200, .inl f35948))] (⟨x35939, x35951, x35949, x35942, f35943, f35944, f35945, f35946, f35947, f35948, rfl, ⟨by omega, by omega⟩, ⟨by omega, by omega⟩, ⟨by omega, by omega⟩, ⟨by omega, by omega⟩⟩)) mw_244 mw_245 mw_246 mw_4 mw_247 dn_1581 rfl rfl ⟨Nat.le_of_ble_eq_true rfl, Nat.le_of_ble_eq_true rfl⟩ (hP.sub (ws' := [(z1, .inr (2, [.ref z2, .ref z3, .ref z4, .ref z5, .ref z6, .ref z7, .ref z8, .ref z9, .int x35939, .int x35951, .int x35949, .int x35942])), (z2, .inl (T 0, 64, .inl f35943)), (z3, .inl (T 0, 64, .inl f35944)), (z4, .inl (T 0, 64, .inl f35945)), (z5, .inl (T 0, 64, .inl f35946)), (z6, .inl (T 0, 64, .inl f35947)), (z7, .inl (T 0, 1200, .inl f35948))]) [0, 1, 2, 3, 4, 5, 6] rfl) (hD.sub (ws' := [(z1, .inr (2, [.ref z2, .ref z3, .ref z4, .ref z5, .ref z6, .ref z7, .ref z8, .ref z9, .int x35939, .int x35951, .int x35949, .int x35942])), (z2, .inl (T 0, 64, .inl f35943)), (z3, .inl (T 0, 64, .inl f35944)), (z4, .inl (T 0, 64, .inl f35945)), (z5, .inl (T 0, 64, .inl f35946)), (z6, .inl (T 0, 64, .inl f35947)), (z7, .inl (T 0, 1200, .inl f35948))]) [0, 1, 2, 3, 4, 5, 6] (by decide +kernel) rfl) rfl rfl rfl hl.1 rfl (Nat.le_of_ble_eq_true rfl) dX2_begin_25 ⟨Nat.le_of_ble_eq_true rfl, Nat.le_of_ble_eq_true rfl⟩) hP hD hS hA [0, 1, 2, 3, 4, 5, 6] [] rfl rfl (by decide +kernel) (by decide +kernel) (fun u H locs hq hP hD hS => ?_)
  obtain ⟨u35952, rfl⟩ : ∃ z, z = u := ⟨_, rfl⟩
  obtain ⟨hm35953, hkhm35953_9, hkhm35953_10⟩ := hq
  obtain ⟨x35954, x35955, x35956, x35957, f35958, f35959, f35960, f35961, f35962, f35963, rfl, hx35954, hx35955, hx35956, hx35957⟩ := hm35953
  have hkhm35953_9 : x35951 = x35955 := (fv_inj hkhm35953_9).symm
  subst hkhm35953_9
  have hkhm35953_10 : x35949 = x35956 := (fv_inj hkhm35953_10).symm
  subst hkhm35953_10
  have hP : va_P D vwCl [(z1, .inr (2, [.ref z2, .ref z3, .ref z4, .ref z5, .ref z6, .ref z7, .ref z8, .ref z9, .int x35954, .int x35951, .int x35949, .int x35957])), (z2, .inl (T 0, 64, .inl f35958)), (z3, .inl (T 0, 64, .inl f35959)), (z4, .inl (T 0, 64, .inl f35960)), (z5, .inl (T 0, 64, .inl f35961)), (z6, .inl (T 0, 64, .inl f35962)), (z7, .inl (T 0, 1200, .inl f35963))] H := hP
  have hD : va_D A [(z1, .inr (2, [.ref z2, .ref z3, .ref z4, .ref z5, .ref z6, .ref z7, .ref z8, .ref z9, .int x35954, .int x35951, .int x35949, .int x35957])), (z2, .inl (T 0, 64, .inl f35958)), (z3, .inl (T 0, 64, .inl f35959)), (z4, .inl (T 0, 64, .inl f35960)), (z5, .inl (T 0, 64, .inl f35961)), (z6, .inl (T 0, 64, .inl f35962)), (z7, .inl (T 0, 1200, .inl f35963))] := hD
  refine W.widen (k := 0) (n := 0) (Nat.le_refl _) (Nat.le_refl _) ?_
  exact r_vret2 ([(z1, .inr (2, [.ref z2, .ref z3, .ref z4, .ref z5, .ref z6, .ref z7, .ref z8, .ref z9, .int x35954, .int x35951, .int x35949, .int x35957])), (z2, .inl (T 0, 64, .inl f35958)), (z3, .inl (T 0, 64, .inl f35959)), (z4, .inl (T 0, 64, .inl f35960)), (z5, .inl (T 0, 64, .inl f35961)), (z6, .inl (T 0, 64, .inl f35962)), (z7, .inl (T 0, 1200, .inl f35963))] : va_W) C0 hr hlocks hS (Nat.le_refl _) (Nat.le_refl _) dX2_begin_28 ⟨x35954, x35951, x35949, x35957, f35958, f35959, f35960, f35961, f35962, f35963, rfl, ⟨by omega, by omega⟩, ⟨by omega, by omega⟩, ⟨by omega, by omega⟩, ⟨by omega, by omega⟩⟩ (hP.sub (ws' := [(z1, .inr (2, [.ref z2, .ref z3, .ref z4, .ref z5, .ref z6, .ref z7, .ref z8, .ref z9, .int x35954, .int x35951, .int x35949, .int x35957])), (z2, .inl (T 0, 64, .inl f35958)), (z3, .inl (T 0, 64, .inl f35959)), (z4, .inl (T 0, 64, .inl f35960)), (z5, .inl (T 0, 64, .inl f35961)), (z6, .inl (T 0, 64, .inl f35962)), (z7, .inl (T 0, 1200, .inl f35963))]) [0, 1, 2, 3, 4, 5, 6] rfl) (hD.sub (ws' := [(z1, .inr (2, [.ref z2, .ref z3, .ref z4, .ref z5, .ref z6, .ref z7, .ref z8, .ref z9, .int x35954, .int x35951, .int x35949, .int x35957])), (z2, .inl (T 0, 64, .inl f35958)), (z3, .inl (T 0, 64, .inl f35959)), (z4, .inl (T 0, 64, .inl f35960)), (z5, .inl (T 0, 64, .inl f35961)), (z6, .inl (T 0, 64, .inl f35962)), (z7, .inl (T 0, 1200, .inl f35963))]) [0, 1, 2, 3, 4, 5, 6] (by decide +kernel) rfl)
set_option maxHeartbeats 4000000 in
set_option maxRecDepth 100000 in
theorem g_X2_rinse_36728 (l : Launch) (D : va_G) (T : Nat → ClassId) (sq sv sz : Nat) (z1 : Nat) (z2 : Nat) (z3 : Nat) (z4 : Nat) (z5 : Nat) (z6 : Nat) (z7 : Nat) (z8 : Nat) (z9 : Nat) (w1 : va_W) (hw1 : B_X2 T z1 z2 z3 z4 z5 z6 z7 z8 z9 w1) : Met l yX2_rinse (.code yX2_rinse cX2_rinse 2 none :: TB) { frames := 1, cells := 0, slots := 0, locals := 21 } (PC2 D T sq sv [.ref z1] (w1) sz) (Qv2 (S := va_W) (fun (u0 : va_W) => B_X2 T z1 z2 z3 z4 z5 z6 z7 z8 z9 u0 ∧ fv u0 8 = fv w1 8 ∧ fv u0 9 = fv w1 9 ∧ fv u0 10 = fv w1 10 ∧ fv u0 11 = fv w1 11) (fun (u0 : va_W) => u0) D (va_A (w1) sz)) 0 0 (va_A (w1) sz) := by
  obtain ⟨x36739, x36740, x36741, x36742, f36743, f36744, f36745, f36746, f36747, f36748, rfl, hx36739, hx36740, hx36741, hx36742⟩ := hw1
  refine ct_begin2 (Qc := Qv2 (S := va_W) (fun (u0 : va_W) => B_X2 T z1 z2 z3 z4 z5 z6 z7 z8 z9 u0 ∧ fv u0 8 = fv ([(z1, .inr (2, [.ref z2, .ref z3, .ref z4, .ref z5, .ref z6, .ref z7, .ref z8, .ref z9, .int x36739, .int x36740, .int x36741, .int x36742])), (z2, .inl (T 0, 64, .inl f36743)), (z3, .inl (T 0, 64, .inl f36744)), (z4, .inl (T 0, 64, .inl f36745)), (z5, .inl (T 0, 64, .inl f36746)), (z6, .inl (T 0, 64, .inl f36747)), (z7, .inl (T 0, 1200, .inl f36748))] : va_W) 8 ∧ fv u0 9 = fv ([(z1, .inr (2, [.ref z2, .ref z3, .ref z4, .ref z5, .ref z6, .ref z7, .ref z8, .ref z9, .int x36739, .int x36740, .int x36741, .int x36742])), (z2, .inl (T 0, 64, .inl f36743)), (z3, .inl (T 0, 64, .inl f36744)), (z4, .inl (T 0, 64, .inl f36745)), (z5, .inl (T 0, 64, .inl f36746)), (z6, .inl (T 0, 64, .inl f36747)), (z7, .inl (T 0, 1200, .inl f36748))] : va_W) 9 ∧ fv u0 10 = fv ([(z1, .inr (2, [.ref z2, .ref z3, .ref z4, .ref z5, .ref z6, .ref z7, .ref z8, .ref z9, .int x36739, .int x36740, .int x36741, .int x36742])), (z2, .inl (T 0, 64, .inl f36743)), (z3, .inl (T 0, 64, .inl f36744)), (z4, .inl (T 0, 64, .inl f36745)), (z5, .inl (T 0, 64, .inl f36746)), (z6, .inl (T 0, 64, .inl f36747)), (z7, .inl (T 0, 1200, .inl f36748))] : va_W) 10 ∧ fv u0 11 = fv ([(z1, .inr (2, [.ref z2, .ref z3, .ref z4, .ref z5, .ref z6, .ref z7, .ref z8, .ref z9, .int x36739, .int x36740, .int x36741, .int x36742])), (z2, .inl (T 0, 64, .inl f36743)), (z3, .inl (T 0, 64, .inl f36744)), (z4, .inl (T 0, 64, .inl f36745)), (z5, .inl (T 0, 64, .inl f36746)), (z6, .inl (T 0, 64, .inl f36747)), (z7, .inl (T 0, 1200, .inl f36748))] : va_W) 11) (fun (u0 : va_W) => u0) D) (by decide +kernel) (Nat.le_of_ble_eq_true rfl) ?_
  intro p e s m below meth c A ls C0 hr hlocks hnm hE hStr hA hP hD hl
  generalize ([.ref z1] : List Value).toArray = args at C0 ⊢
  have hx := C0.1
  have hb := C0.2.1
  have hml := C0.2.2.1
  have hown := C0.2.2.2.1
  have hT := C0.2.2.2.2
  have hK := hE.1
  generalize hH : s.heap = H at hP ⊢
  have hS : va_S A s.heap H [] := by rw [← hH]; exact va_S.rf
  have hP : va_P D vwCl [(z1, .inr (2, [.ref z2, .ref z3, .ref z4, .ref z5, .ref z6, .ref z7, .ref z8, .ref z9, .int x36739, .int x36740, .int x36741, .int x36742])), (z2, .inl (T 0, 64, .inl f36743)), (z3, .inl (T 0, 64, .inl f36744)), (z4, .inl (T 0, 64, .inl f36745)), (z5, .inl (T 0, 64, .inl f36746)), (z6, .inl (T 0, 64, .inl f36747)), (z7, .inl (T 0, 1200, .inl f36748))] H := hP
  have hD : va_D A [(z1, .inr (2, [.ref z2, .ref z3, .ref z4, .ref z5, .ref z6, .ref z7, .ref z8, .ref z9, .int x36739, .int x36740, .int x36741, .int x36742])), (z2, .inl (T 0, 64, .inl f36743)), (z3, .inl (T 0, 64, .inl f36744)), (z4, .inl (T 0, 64, .inl f36745)), (z5, .inl (T 0, 64, .inl f36746)), (z6, .inl (T 0, 64, .inl f36747)), (z7, .inl (T 0, 1200, .inl f36748))] := hD
  have hl : lv_has ls 2 [(0, .ref z1)] := hl
  refine lv_iconst (v := 0) hx hb dX2_rinse_0 (by decide) ?_
  refine lv_istore_n (lv' := [(1, .int 0), (0, .ref z1)]) hx hb dX2_rinse_1 rfl hl (by decide) rfl (fun ls hl => ?_)
  have L37057 : ∀ (n : Nat) (x37044 : Int32) (f37045 : Nat → Int32) (f37046 : Nat → Int32) (H : Heap) (locs : List Loc) (ls : Array Slot), (0 ≤ x37044.toInt ∧ x37044.toInt ≤ 64) → (65 - x37044.toInt).toNat < n → va_P D vwCl [(z1, .inr (2, [.ref z2, .ref z3, .ref z4, .ref z5, .ref z6, .ref z7, .ref z8, .ref z9, .int x36739, .int x36740, .int x36741, .int x36742])), (z2, .inl (T 0, 64, .inl f36743)), (z3, .inl (T 0, 64, .inl f36744)), (z4, .inl (T 0, 64, .inl f37045)), (z5, .inl (T 0, 64, .inl f36746)), (z6, .inl (T 0, 64, .inl f37046)), (z7, .inl (T 0, 1200, .inl f36748))] H → va_D A [(z1, .inr (2, [.ref z2, .ref z3, .ref z4, .ref z5, .ref z6, .ref z7, .ref z8, .ref z9, .int x36739, .int x36740, .int x36741, .int x36742])), (z2, .inl (T 0, 64, .inl f36743)), (z3, .inl (T 0, 64, .inl f36744)), (z4, .inl (T 0, 64, .inl f37045)), (z5, .inl (T 0, 64, .inl f36746)), (z6, .inl (T 0, 64, .inl f37046)), (z7, .inl (T 0, 1200, .inl f36748))] → va_S A s.heap H locs → lv_has ls 2 [(1, .int x37044), (0, .ref z1)] → W p l e { frames := 1, cells := 0, slots := 0, locals := 21 } s m args below meth c H locs 0 0 (MQ below ((Qv2 (S := va_W) (fun (u0 : va_W) => B_X2 T z1 z2 z3 z4 z5 z6 z7 z8 z9 u0 ∧ fv u0 8 = fv ([(z1, .inr (2, [.ref z2, .ref z3, .ref z4, .ref z5, .ref z6, .ref z7, .ref z8, .ref z9, .int x36739, .int x36740, .int x36741, .int x36742])), (z2, .inl (T 0, 64, .inl f36743)), (z3, .inl (T 0, 64, .inl f36744)), (z4, .inl (T 0, 64, .inl f36745)), (z5, .inl (T 0, 64, .inl f36746)), (z6, .inl (T 0, 64, .inl f36747)), (z7, .inl (T 0, 1200, .inl f36748))] : va_W) 8 ∧ fv u0 9 = fv ([(z1, .inr (2, [.ref z2, .ref z3, .ref z4, .ref z5, .ref z6, .ref z7, .ref z8, .ref z9, .int x36739, .int x36740, .int x36741, .int x36742])), (z2, .inl (T 0, 64, .inl f36743)), (z3, .inl (T 0, 64, .inl f36744)), (z4, .inl (T 0, 64, .inl f36745)), (z5, .inl (T 0, 64, .inl f36746)), (z6, .inl (T 0, 64, .inl f36747)), (z7, .inl (T 0, 1200, .inl f36748))] : va_W) 9 ∧ fv u0 10 = fv ([(z1, .inr (2, [.ref z2, .ref z3, .ref z4, .ref z5, .ref z6, .ref z7, .ref z8, .ref z9, .int x36739, .int x36740, .int x36741, .int x36742])), (z2, .inl (T 0, 64, .inl f36743)), (z3, .inl (T 0, 64, .inl f36744)), (z4, .inl (T 0, 64, .inl f36745)), (z5, .inl (T 0, 64, .inl f36746)), (z6, .inl (T 0, 64, .inl f36747)), (z7, .inl (T 0, 1200, .inl f36748))] : va_W) 10 ∧ fv u0 11 = fv ([(z1, .inr (2, [.ref z2, .ref z3, .ref z4, .ref z5, .ref z6, .ref z7, .ref z8, .ref z9, .int x36739, .int x36740, .int x36741, .int x36742])), (z2, .inl (T 0, 64, .inl f36743)), (z3, .inl (T 0, 64, .inl f36744)), (z4, .inl (T 0, 64, .inl f36745)), (z5, .inl (T 0, 64, .inl f36746)), (z6, .inl (T 0, 64, .inl f36747)), (z7, .inl (T 0, 1200, .inl f36748))] : va_W) 11) (fun (u0 : va_W) => u0) D) A) args s 0 0 A) (F0 m 2 ls []) := by
    intro n
    induction n with
    | zero =>
      intro x37044 f37045 f37046 H locs ls hx37044 hms hP hD hS hl
      exact absurd hms (Nat.not_lt_zero _)
    | succ n ih =>
      intro x37044 f37045 f37046 H locs ls hx37044 hms hP hD hS hl
      refine lv_iload_n hx hb dX2_rinse_2 rfl (lv_at hl 0 rfl) ?_
      refine lv_aload_n hx hb dX2_rinse_3 rfl (lv_at hl 1 rfl) ?_
      refine r_get (v := .int x36740) C0 hE ffX2_9 mw_126 hP 0 rfl rfl dX2_rinse_4 ?_
      refine lv_icmp_ge (tgt := 52) hx hb dX2_rinse_7 (by decide) (fun c37058 => ?_) (fun c37058 => ?_)
      · skip
        have kc37058 : x36740.toInt ≤ x37044.toInt := le_ti rfl rfl c37058
        exact r_vret2 ([(z1, .inr (2, [.ref z2, .ref z3, .ref z4, .ref z5, .ref z6, .ref z7, .ref z8, .ref z9, .int x36739, .int x36740, .int x36741, .int x36742])), (z2, .inl (T 0, 64, .inl f36743)), (z3, .inl (T 0, 64, .inl f36744)), (z4, .inl (T 0, 64, .inl f37045)), (z5, .inl (T 0, 64, .inl f36746)), (z6, .inl (T 0, 64, .inl f37046)), (z7, .inl (T 0, 1200, .inl f36748))] : va_W) C0 hr hlocks hS (Nat.le_refl _) (Nat.le_refl _) dX2_rinse_52 ⟨⟨x36739, x36740, x36741, x36742, f36743, f36744, f37045, f36746, f37046, f36748, rfl, ⟨by omega, by omega⟩, ⟨by omega, by omega⟩, ⟨by omega, by omega⟩, ⟨by omega, by omega⟩⟩, rfl, rfl, rfl, rfl⟩ (hP.sub (ws' := [(z1, .inr (2, [.ref z2, .ref z3, .ref z4, .ref z5, .ref z6, .ref z7, .ref z8, .ref z9, .int x36739, .int x36740, .int x36741, .int x36742])), (z2, .inl (T 0, 64, .inl f36743)), (z3, .inl (T 0, 64, .inl f36744)), (z4, .inl (T 0, 64, .inl f37045)), (z5, .inl (T 0, 64, .inl f36746)), (z6, .inl (T 0, 64, .inl f37046)), (z7, .inl (T 0, 1200, .inl f36748))]) [0, 1, 2, 3, 4, 5, 6] rfl) (hD.sub (ws' := [(z1, .inr (2, [.ref z2, .ref z3, .ref z4, .ref z5, .ref z6, .ref z7, .ref z8, .ref z9, .int x36739, .int x36740, .int x36741, .int x36742])), (z2, .inl (T 0, 64, .inl f36743)), (z3, .inl (T 0, 64, .inl f36744)), (z4, .inl (T 0, 64, .inl f37045)), (z5, .inl (T 0, 64, .inl f36746)), (z6, .inl (T 0, 64, .inl f37046)), (z7, .inl (T 0, 1200, .inl f36748))]) [0, 1, 2, 3, 4, 5, 6] (by decide +kernel) rfl)
      · skip
        have kc37058 : x37044.toInt < x36740.toInt := nle_ti rfl rfl c37058
        refine lv_aload_n hx hb dX2_rinse_10 rfl (lv_at hl 1 rfl) ?_
        refine r_get (v := .ref z6) C0 hE ffX2_4 mw_118 hP 0 rfl rfl dX2_rinse_11 ?_
        refine lv_iload_n hx hb dX2_rinse_14 rfl (lv_at hl 0 rfl) ?_
        refine lv_iconst (v := 0) hx hb dX2_rinse_15 (by decide) ?_
        refine r_iastO hx hb hK hP hD hS 5 rfl (in_ti rfl (by omega) (by omega)) dX2_rinse_16 (fun f37068 H locs hP hD hS => ?_)
        have hP : va_P D vwCl [(z1, .inr (2, [.ref z2, .ref z3, .ref z4, .ref z5, .ref z6, .ref z7, .ref z8, .ref z9, .int x36739, .int x36740, .int x36741, .int x36742])), (z2, .inl (T 0, 64, .inl f36743)), (z3, .inl (T 0, 64, .inl f36744)), (z4, .inl (T 0, 64, .inl f37045)), (z5, .inl (T 0, 64, .inl f36746)), (z6, .inl (T 0, 64, .inl f37068)), (z7, .inl (T 0, 1200, .inl f36748))] H := hP
        have hD : va_D A [(z1, .inr (2, [.ref z2, .ref z3, .ref z4, .ref z5, .ref z6, .ref z7, .ref z8, .ref z9, .int x36739, .int x36740, .int x36741, .int x36742])), (z2, .inl (T 0, 64, .inl f36743)), (z3, .inl (T 0, 64, .inl f36744)), (z4, .inl (T 0, 64, .inl f37045)), (z5, .inl (T 0, 64, .inl f36746)), (z6, .inl (T 0, 64, .inl f37068)), (z7, .inl (T 0, 1200, .inl f36748))] := hD
        refine lv_aload_n hx hb dX2_rinse_17 rfl (lv_at hl 1 rfl) ?_
        refine lv_iload_n hx hb dX2_rinse_18 rfl (lv_at hl 0 rfl) ?_
        refine r_calli (wr := []) (r_runV2 (As := [.int x37044]) (rest := []) (wc := [(z1, .inr (2, [.ref z2, .ref z3, .ref z4, .ref z5, .ref z6, .ref z7, .ref z8, .ref z9, .int x36739, .int x36740, .int x36741, .int x36742])), (z2, .inl (T 0, 64, .inl f36743)), (z3, .inl (T 0, 64, .inl f36744)), (z4, .inl (T 0, 64, .inl f37045)), (z5, .inl (T 0, 64, .inl f36746)), (z6, .inl (T 0, 64, .inl f37068)), (z7, .inl (T 0, 1200, .inl f36748))]) (ci := 2) C0 hE hStr hS (va_free (wc := [(z1, .inr (2, [.ref z2, .ref z3, .ref z4, .ref z5, .ref z6, .ref z7, .ref z8, .ref z9, .int x36739, .int x36740, .int x36741, .int x36742])), (z2, .inl (T 0, 64, .inl f36743)), (z3, .inl (T 0, 64, .inl f36744)), (z4, .inl (T 0, 64, .inl f37045)), (z5, .inl (T 0, 64, .inl f36746)), (z6, .inl (T 0, 64, .inl f37068)), (z7, .inl (T 0, 1200, .inl f36748))]) hD hS hA [0, 1, 2, 3, 4, 5, 6] rfl) (g_X2_hasHook_2433 l D T sq sv H.size z1 z2 z3 z4 z5 z6 z7 z8 z9 x37044 [(z1, .inr (2, [.ref z2, .ref z3, .ref z4, .ref z5, .ref z6, .ref z7, .ref z8, .ref z9, .int x36739, .int x36740, .int x36741, .int x36742])), (z2, .inl (T 0, 64, .inl f36743)), (z3, .inl (T 0, 64, .inl f36744)), (z4, .inl (T 0, 64, .inl f37045)), (z5, .inl (T 0, 64, .inl f36746)), (z6, .inl (T 0, 64, .inl f37068)), (z7, .inl (T 0, 1200, .inl f36748))] (⟨x36739, x36740, x36741, x36742, f36743, f36744, f37045, f36746, f37068, f36748, rfl, ⟨by omega, by omega⟩, ⟨by omega, by omega⟩, ⟨by omega, by omega⟩, ⟨by omega, by omega⟩⟩) (⟨by omega, by omega⟩)) mw_514 mw_515 mw_516 mw_4 mw_517 dn_1590 rfl rfl ⟨Nat.le_of_ble_eq_true rfl, Nat.le_of_ble_eq_true rfl⟩ (hP.sub (ws' := [(z1, .inr (2, [.ref z2, .ref z3, .ref z4, .ref z5, .ref z6, .ref z7, .ref z8, .ref z9, .int x36739, .int x36740, .int x36741, .int x36742])), (z2, .inl (T 0, 64, .inl f36743)), (z3, .inl (T 0, 64, .inl f36744)), (z4, .inl (T 0, 64, .inl f37045)), (z5, .inl (T 0, 64, .inl f36746)), (z6, .inl (T 0, 64, .inl f37068)), (z7, .inl (T 0, 1200, .inl f36748))]) [0, 1, 2, 3, 4, 5, 6] rfl) (hD.sub (ws' := [(z1, .inr (2, [.ref z2, .ref z3, .ref z4, .ref z5, .ref z6, .ref z7, .ref z8, .ref z9, .int x36739, .int x36740, .int x36741, .int x36742])), (z2, .inl (T 0, 64, .inl f36743)), (z3, .inl (T 0, 64, .inl f36744)), (z4, .inl (T 0, 64, .inl f37045)), (z5, .inl (T 0, 64, .inl f36746)), (z6, .inl (T 0, 64, .inl f37068)), (z7, .inl (T 0, 1200, .inl f36748))]) [0, 1, 2, 3, 4, 5, 6] (by decide +kernel) rfl) rfl rfl rfl hl.1 rfl (Nat.le_of_ble_eq_true rfl) dX2_rinse_19 ⟨Nat.le_of_ble_eq_true rfl, Nat.le_of_ble_eq_true rfl⟩) hP hD hS hA [0, 1, 2, 3, 4, 5, 6] [] rfl rfl (by decide +kernel) (by decide +kernel) (fun x37069 u H locs hq hP hD hS => ?_)
        have hx37069 : 0 ≤ x37069.toInt ∧ x37069.toInt ≤ 1 := hq
        have hP : va_P D vwCl [(z1, .inr (2, [.ref z2, .ref z3, .ref z4, .ref z5, .ref z6, .ref z7, .ref z8, .ref z9, .int x36739, .int x36740, .int x36741, .int x36742])), (z2, .inl (T 0, 64, .inl f36743)), (z3, .inl (T 0, 64, .inl f36744)), (z4, .inl (T 0, 64, .inl f37045)), (z5, .inl (T 0, 64, .inl f36746)), (z6, .inl (T 0, 64, .inl f37068)), (z7, .inl (T 0, 1200, .inl f36748))] H := hP
        have hD : va_D A [(z1, .inr (2, [.ref z2, .ref z3, .ref z4, .ref z5, .ref z6, .ref z7, .ref z8, .ref z9, .int x36739, .int x36740, .int x36741, .int x36742])), (z2, .inl (T 0, 64, .inl f36743)), (z3, .inl (T 0, 64, .inl f36744)), (z4, .inl (T 0, 64, .inl f37045)), (z5, .inl (T 0, 64, .inl f36746)), (z6, .inl (T 0, 64, .inl f37068)), (z7, .inl (T 0, 1200, .inl f36748))] := hD
        refine W.widen (k := 0) (n := 0) (Nat.le_refl _) (Nat.le_refl _) ?_
        have J37076 : ∀ (f37075 : Nat → Int32) (H : Heap) (locs : List Loc) (ls : Array Slot), va_P D vwCl [(z1, .inr (2, [.ref z2, .ref z3, .ref z4, .ref z5, .ref z6, .ref z7, .ref z8, .ref z9, .int x36739, .int x36740, .int x36741, .int x36742])), (z2, .inl (T 0, 64, .inl f36743)), (z3, .inl (T 0, 64, .inl f36744)), (z4, .inl (T 0, 64, .inl f37075)), (z5, .inl (T 0, 64, .inl f36746)), (z6, .inl (T 0, 64, .inl f37068)), (z7, .inl (T 0, 1200, .inl f36748))] H → va_D A [(z1, .inr (2, [.ref z2, .ref z3, .ref z4, .ref z5, .ref z6, .ref z7, .ref z8, .ref z9, .int x36739, .int x36740, .int x36741, .int x36742])), (z2, .inl (T 0, 64, .inl f36743)), (z3, .inl (T 0, 64, .inl f36744)), (z4, .inl (T 0, 64, .inl f37075)), (z5, .inl (T 0, 64, .inl f36746)), (z6, .inl (T 0, 64, .inl f37068)), (z7, .inl (T 0, 1200, .inl f36748))] → va_S A s.heap H locs → lv_has ls 2 [(1, .int x37044), (0, .ref z1)] → W p l e { frames := 1, cells := 0, slots := 0, locals := 21 } s m args below meth c H locs 0 0 (MQ below ((Qv2 (S := va_W) (fun (u0 : va_W) => B_X2 T z1 z2 z3 z4 z5 z6 z7 z8 z9 u0 ∧ fv u0 8 = fv ([(z1, .inr (2, [.ref z2, .ref z3, .ref z4, .ref z5, .ref z6, .ref z7, .ref z8, .ref z9, .int x36739, .int x36740, .int x36741, .int x36742])), (z2, .inl (T 0, 64, .inl f36743)), (z3, .inl (T 0, 64, .inl f36744)), (z4, .inl (T 0, 64, .inl f36745)), (z5, .inl (T 0, 64, .inl f36746)), (z6, .inl (T 0, 64, .inl f36747)), (z7, .inl (T 0, 1200, .inl f36748))] : va_W) 8 ∧ fv u0 9 = fv ([(z1, .inr (2, [.ref z2, .ref z3, .ref z4, .ref z5, .ref z6, .ref z7, .ref z8, .ref z9, .int x36739, .int x36740, .int x36741, .int x36742])), (z2, .inl (T 0, 64, .inl f36743)), (z3, .inl (T 0, 64, .inl f36744)), (z4, .inl (T 0, 64, .inl f36745)), (z5, .inl (T 0, 64, .inl f36746)), (z6, .inl (T 0, 64, .inl f36747)), (z7, .inl (T 0, 1200, .inl f36748))] : va_W) 9 ∧ fv u0 10 = fv ([(z1, .inr (2, [.ref z2, .ref z3, .ref z4, .ref z5, .ref z6, .ref z7, .ref z8, .ref z9, .int x36739, .int x36740, .int x36741, .int x36742])), (z2, .inl (T 0, 64, .inl f36743)), (z3, .inl (T 0, 64, .inl f36744)), (z4, .inl (T 0, 64, .inl f36745)), (z5, .inl (T 0, 64, .inl f36746)), (z6, .inl (T 0, 64, .inl f36747)), (z7, .inl (T 0, 1200, .inl f36748))] : va_W) 10 ∧ fv u0 11 = fv ([(z1, .inr (2, [.ref z2, .ref z3, .ref z4, .ref z5, .ref z6, .ref z7, .ref z8, .ref z9, .int x36739, .int x36740, .int x36741, .int x36742])), (z2, .inl (T 0, 64, .inl f36743)), (z3, .inl (T 0, 64, .inl f36744)), (z4, .inl (T 0, 64, .inl f36745)), (z5, .inl (T 0, 64, .inl f36746)), (z6, .inl (T 0, 64, .inl f36747)), (z7, .inl (T 0, 1200, .inl f36748))] : va_W) 11) (fun (u0 : va_W) => u0) D) A) args s 0 0 A) (F0 m 46 ls []) := by
          intro f37075 H locs ls hP hD hS hl
          obtain ⟨x37077, ex37077⟩ : ∃ y : Int32, y = x37044 + 1 := ⟨_, rfl⟩
          have hx37077 : x37077.toInt = x37044.toInt + 1 := ti_add ex37077 rfl (by decide) (by omega) (by omega)
          refine lv_iinc (v := x37077) (lv' := [(1, .int x37077), (0, .ref z1)]) hx hb dX2_rinse_46 hl (k := 0) rfl (by rw [ex37077]; rfl) (by decide) rfl (fun ls hl => ?_)
          refine lv_goto (tgt := 2) hx hb dX2_rinse_49 (by decide) ?_
          exact ih x37077 f37075 f37068 _ _ ls ⟨by omega, by omega⟩ (by omega) (hP.sub (ws' := [(z1, .inr (2, [.ref z2, .ref z3, .ref z4, .ref z5, .ref z6, .ref z7, .ref z8, .ref z9, .int x36739, .int x36740, .int x36741, .int x36742])), (z2, .inl (T 0, 64, .inl f36743)), (z3, .inl (T 0, 64, .inl f36744)), (z4, .inl (T 0, 64, .inl f37075)), (z5, .inl (T 0, 64, .inl f36746)), (z6, .inl (T 0, 64, .inl f37068)), (z7, .inl (T 0, 1200, .inl f36748))]) [0, 1, 2, 3, 4, 5, 6] rfl) (hD.sub (ws' := [(z1, .inr (2, [.ref z2, .ref z3, .ref z4, .ref z5, .ref z6, .ref z7, .ref z8, .ref z9, .int x36739, .int x36740, .int x36741, .int x36742])), (z2, .inl (T 0, 64, .inl f36743)), (z3, .inl (T 0, 64, .inl f36744)), (z4, .inl (T 0, 64, .inl f37075)), (z5, .inl (T 0, 64, .inl f36746)), (z6, .inl (T 0, 64, .inl f37068)), (z7, .inl (T 0, 1200, .inl f36748))]) [0, 1, 2, 3, 4, 5, 6] (by decide +kernel) rfl) hS (lv_sub hl [0, 1] rfl)
        refine lv_if_eq (tgt := 46) hx hb dX2_rinse_22 (by decide) (fun c37070 => ?_) (fun c37070 => ?_)
        · skip
          have kc37070 : x37069.toInt = 0 := eq_ti rfl (by decide) c37070
          exact J37076 f37045 _ _ ls (hP.sub (ws' := [(z1, .inr (2, [.ref z2, .ref z3, .ref z4, .ref z5, .ref z6, .ref z7, .ref z8, .ref z9, .int x36739, .int x36740, .int x36741, .int x36742])), (z2, .inl (T 0, 64, .inl f36743)), (z3, .inl (T 0, 64, .inl f36744)), (z4, .inl (T 0, 64, .inl f37045)), (z5, .inl (T 0, 64, .inl f36746)), (z6, .inl (T 0, 64, .inl f37068)), (z7, .inl (T 0, 1200, .inl f36748))]) [0, 1, 2, 3, 4, 5, 6] rfl) (hD.sub (ws' := [(z1, .inr (2, [.ref z2, .ref z3, .ref z4, .ref z5, .ref z6, .ref z7, .ref z8, .ref z9, .int x36739, .int x36740, .int x36741, .int x36742])), (z2, .inl (T 0, 64, .inl f36743)), (z3, .inl (T 0, 64, .inl f36744)), (z4, .inl (T 0, 64, .inl f37045)), (z5, .inl (T 0, 64, .inl f36746)), (z6, .inl (T 0, 64, .inl f37068)), (z7, .inl (T 0, 1200, .inl f36748))]) [0, 1, 2, 3, 4, 5, 6] (by decide +kernel) rfl) hS (lv_sub hl [0, 1] rfl)
        · skip
          have kc37070 : x37069.toInt ≠ 0 := ne_ti rfl (by decide) c37070
          have nzx37069 : ¬ x37069 = 0 := c37070
          refine lv_aload_n hx hb dX2_rinse_25 rfl (lv_at hl 1 rfl) ?_
          refine r_get (v := .ref z4) C0 hE ffX2_2 mw_114 hP 0 rfl rfl dX2_rinse_26 ?_
          refine lv_iload_n hx hb dX2_rinse_29 rfl (lv_at hl 0 rfl) ?_
          refine lv_sipush (v := 1000) hx hb dX2_rinse_30 (by decide) ?_
          refine lv_aload_n hx hb dX2_rinse_33 rfl (lv_at hl 1 rfl) ?_
          refine r_get (v := .ref z4) C0 hE ffX2_2 mw_114 hP 0 rfl rfl dX2_rinse_34 ?_
          refine lv_iload_n hx hb dX2_rinse_37 rfl (lv_at hl 0 rfl) ?_
          refine va_iald hx hb hK hP 3 0 rfl rfl (in_ti rfl (by omega) (by omega)) dX2_rinse_38 ?_
          refine lv_topi (fun x37078 ex37078 => ?_)
          refine lv_bipush (v := 10) hx hb dX2_rinse_39 (by decide) ?_
          refine lv_iadd hx hb dX2_rinse_41 ?_
          refine lv_topi (fun x37079 ex37079 => ?_)
          refine va_mmin hx hb (by rw [hml]; exact hl.1.symm) hown (hT _ mw_241) (hT _ mw_242) (hT _ mw_12) (hT _ mw_243) (Nat.le_of_ble_eq_true rfl) (Nat.le_of_ble_eq_true rfl) (Nat.le_of_ble_eq_true rfl) (Nat.le_of_ble_eq_true rfl) dX2_rinse_42 ?_
          refine lv_topi (fun x37080 ex37080 => ?_)
          have hx37080 := min_ti (a := 1000) (b := x37079.toInt) ex37080 (by decide) rfl
          refine r_iastO hx hb hK hP hD hS 3 rfl (in_ti rfl (by omega) (by omega)) dX2_rinse_45 (fun f37081 H locs hP hD hS => ?_)
          have hP : va_P D vwCl [(z1, .inr (2, [.ref z2, .ref z3, .ref z4, .ref z5, .ref z6, .ref z7, .ref z8, .ref z9, .int x36739, .int x36740, .int x36741, .int x36742])), (z2, .inl (T 0, 64, .inl f36743)), (z3, .inl (T 0, 64, .inl f36744)), (z4, .inl (T 0, 64, .inl f37081)), (z5, .inl (T 0, 64, .inl f36746)), (z6, .inl (T 0, 64, .inl f37068)), (z7, .inl (T 0, 1200, .inl f36748))] H := hP
          have hD : va_D A [(z1, .inr (2, [.ref z2, .ref z3, .ref z4, .ref z5, .ref z6, .ref z7, .ref z8, .ref z9, .int x36739, .int x36740, .int x36741, .int x36742])), (z2, .inl (T 0, 64, .inl f36743)), (z3, .inl (T 0, 64, .inl f36744)), (z4, .inl (T 0, 64, .inl f37081)), (z5, .inl (T 0, 64, .inl f36746)), (z6, .inl (T 0, 64, .inl f37068)), (z7, .inl (T 0, 1200, .inl f36748))] := hD
          exact J37076 f37081 _ _ ls (hP.sub (ws' := [(z1, .inr (2, [.ref z2, .ref z3, .ref z4, .ref z5, .ref z6, .ref z7, .ref z8, .ref z9, .int x36739, .int x36740, .int x36741, .int x36742])), (z2, .inl (T 0, 64, .inl f36743)), (z3, .inl (T 0, 64, .inl f36744)), (z4, .inl (T 0, 64, .inl f37081)), (z5, .inl (T 0, 64, .inl f36746)), (z6, .inl (T 0, 64, .inl f37068)), (z7, .inl (T 0, 1200, .inl f36748))]) [0, 1, 2, 3, 4, 5, 6] rfl) (hD.sub (ws' := [(z1, .inr (2, [.ref z2, .ref z3, .ref z4, .ref z5, .ref z6, .ref z7, .ref z8, .ref z9, .int x36739, .int x36740, .int x36741, .int x36742])), (z2, .inl (T 0, 64, .inl f36743)), (z3, .inl (T 0, 64, .inl f36744)), (z4, .inl (T 0, 64, .inl f37081)), (z5, .inl (T 0, 64, .inl f36746)), (z6, .inl (T 0, 64, .inl f37068)), (z7, .inl (T 0, 1200, .inl f36748))]) [0, 1, 2, 3, 4, 5, 6] (by decide +kernel) rfl) hS (lv_sub hl [0, 1] rfl)
  exact L37057 _ 0 f36745 f36747 _ _ ls ⟨by decide, by decide⟩ (Nat.lt_succ_self _) (hP.sub (ws' := [(z1, .inr (2, [.ref z2, .ref z3, .ref z4, .ref z5, .ref z6, .ref z7, .ref z8, .ref z9, .int x36739, .int x36740, .int x36741, .int x36742])), (z2, .inl (T 0, 64, .inl f36743)), (z3, .inl (T 0, 64, .inl f36744)), (z4, .inl (T 0, 64, .inl f36745)), (z5, .inl (T 0, 64, .inl f36746)), (z6, .inl (T 0, 64, .inl f36747)), (z7, .inl (T 0, 1200, .inl f36748))]) [0, 1, 2, 3, 4, 5, 6] rfl) (hD.sub (ws' := [(z1, .inr (2, [.ref z2, .ref z3, .ref z4, .ref z5, .ref z6, .ref z7, .ref z8, .ref z9, .int x36739, .int x36740, .int x36741, .int x36742])), (z2, .inl (T 0, 64, .inl f36743)), (z3, .inl (T 0, 64, .inl f36744)), (z4, .inl (T 0, 64, .inl f36745)), (z5, .inl (T 0, 64, .inl f36746)), (z6, .inl (T 0, 64, .inl f36747)), (z7, .inl (T 0, 1200, .inl f36748))]) [0, 1, 2, 3, 4, 5, 6] (by decide +kernel) rfl) hS (lv_sub hl [0, 1] rfl)
