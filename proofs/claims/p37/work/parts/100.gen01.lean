set_option maxHeartbeats 4000000 in
set_option maxRecDepth 100000 in
theorem g_X0_stands_1527 (l : Launch) (D : va_G) (T : Nat → ClassId) (sq sv sz : Nat) (z1 : Nat) (z2 : Nat) (z3 : Nat) (z4 : Nat) (z5 : Nat) (z6 : Nat) (z7 : Nat) (p1 : Int32) (p2 : Int32) (w1 : va_W) (hw1 : B_X0 T z1 z2 z3 z4 z5 z6 z7 w1) (hp1 : 0 ≤ p1.toInt ∧ p1.toInt ≤ 120) : Met l yX0_stands (.code yX0_stands cX0_stands 3 (some .boolean) :: TB) { frames := 0, cells := 0, slots := 0, locals := 0 } (PC2 D T sq sv [.ref z1, .int p1, .int p2] (w1) sz) (Qi (S := Unit) (fun (r : Int32) (_ : Unit) => (0 ≤ r.toInt ∧ r.toInt ≤ 1)) (fun (_ : Unit) => w1) D (va_A (w1) sz)) 0 0 (va_A (w1) sz) := by
  obtain ⟨x1536, f1537, f1538, f1540, f1541, f1542, f1543, rfl, hx1536, hb1539⟩ := hw1
  refine ct_begin2 (Qc := Qi (S := Unit) (fun (r : Int32) (_ : Unit) => (0 ≤ r.toInt ∧ r.toInt ≤ 1)) (fun (_ : Unit) => ([(z1, .inr (0, [.ref z2, .ref z3, .ref z4, .ref z5, .ref z6, .ref z7, .int x1536])), (z2, .inl (T 0, 121, .inl f1537)), (z3, .inl (T 0, 121, .inl f1538)), (z4, .inl (T 0, 121, .inl f1540)), (z5, .inl (T 0, 121, .inl f1541)), (z6, .inl (T 0, 121, .inl f1542)), (z7, .inl (T 0, 121, .inl f1543))] : va_W)) D) (by decide +kernel) (Nat.le_of_ble_eq_true rfl) ?_
  intro p e s m below meth c A ls C0 hr hlocks hnm hE hStr hA hP hD hl
  generalize ([.ref z1, .int p1, .int p2] : List Value).toArray = args at C0 ⊢
  have hx := C0.1
  have hb := C0.2.1
  have hml := C0.2.2.1
  have hown := C0.2.2.2.1
  have hT := C0.2.2.2.2
  have hK := hE.1
  generalize hH : s.heap = H at hP ⊢
  have hS : va_S A s.heap H [] := by rw [← hH]; exact va_S.rf
  have hP : va_P D vwCl [(z1, .inr (0, [.ref z2, .ref z3, .ref z4, .ref z5, .ref z6, .ref z7, .int x1536])), (z2, .inl (T 0, 121, .inl f1537)), (z3, .inl (T 0, 121, .inl f1538)), (z4, .inl (T 0, 121, .inl f1540)), (z5, .inl (T 0, 121, .inl f1541)), (z6, .inl (T 0, 121, .inl f1542)), (z7, .inl (T 0, 121, .inl f1543))] H := hP
  have hD : va_D A [(z1, .inr (0, [.ref z2, .ref z3, .ref z4, .ref z5, .ref z6, .ref z7, .int x1536])), (z2, .inl (T 0, 121, .inl f1537)), (z3, .inl (T 0, 121, .inl f1538)), (z4, .inl (T 0, 121, .inl f1540)), (z5, .inl (T 0, 121, .inl f1541)), (z6, .inl (T 0, 121, .inl f1542)), (z7, .inl (T 0, 121, .inl f1543))] := hD
  have hl : lv_has ls 3 [(0, .ref z1), (1, .int p1), (2, .int p2)] := hl
  refine lv_aload_n hx hb dX0_stands_0 rfl (lv_at hl 0 rfl) ?_
  refine r_get (v := .ref z7) C0 hE ffX0_5 mw_55 hP 0 rfl rfl dX0_stands_1 ?_
  refine lv_iload_n hx hb dX0_stands_4 rfl (lv_at hl 1 rfl) ?_
  refine va_iald hx hb hK hP 6 0 rfl rfl (in_ti rfl (by omega) (by omega)) dX0_stands_5 ?_
  refine lv_topi (fun x1544 ex1544 => ?_)
  have J1549 : ∀ (x1548 : Int32) (H : Heap) (locs : List Loc) (ls : Array Slot), (0 ≤ x1548.toInt ∧ x1548.toInt ≤ 1) → va_P D vwCl [(z1, .inr (0, [.ref z2, .ref z3, .ref z4, .ref z5, .ref z6, .ref z7, .int x1536])), (z2, .inl (T 0, 121, .inl f1537)), (z3, .inl (T 0, 121, .inl f1538)), (z4, .inl (T 0, 121, .inl f1540)), (z5, .inl (T 0, 121, .inl f1541)), (z6, .inl (T 0, 121, .inl f1542)), (z7, .inl (T 0, 121, .inl f1543))] H → va_D A [(z1, .inr (0, [.ref z2, .ref z3, .ref z4, .ref z5, .ref z6, .ref z7, .int x1536])), (z2, .inl (T 0, 121, .inl f1537)), (z3, .inl (T 0, 121, .inl f1538)), (z4, .inl (T 0, 121, .inl f1540)), (z5, .inl (T 0, 121, .inl f1541)), (z6, .inl (T 0, 121, .inl f1542)), (z7, .inl (T 0, 121, .inl f1543))] → va_S A s.heap H locs → lv_has ls 3 [(0, .ref z1), (1, .int p1), (2, .int p2)] → W p l e { frames := 0, cells := 0, slots := 0, locals := 0 } s m args below meth c H locs 0 0 (MQ below ((Qi (S := Unit) (fun (r : Int32) (_ : Unit) => (0 ≤ r.toInt ∧ r.toInt ≤ 1)) (fun (_ : Unit) => ([(z1, .inr (0, [.ref z2, .ref z3, .ref z4, .ref z5, .ref z6, .ref z7, .int x1536])), (z2, .inl (T 0, 121, .inl f1537)), (z3, .inl (T 0, 121, .inl f1538)), (z4, .inl (T 0, 121, .inl f1540)), (z5, .inl (T 0, 121, .inl f1541)), (z6, .inl (T 0, 121, .inl f1542)), (z7, .inl (T 0, 121, .inl f1543))] : va_W)) D) A) args s 0 0 A) (F0 m 24 ls [.int x1548]) := by
    intro x1548 H locs ls hx1548 hP hD hS hl
    exact r_zret () C0 hr (bool_nar ⟨by omega, by omega⟩) hlocks hS (Nat.le_refl _) (Nat.le_refl _) dX0_stands_24 ⟨by omega, by omega⟩ (hP.sub (ws' := [(z1, .inr (0, [.ref z2, .ref z3, .ref z4, .ref z5, .ref z6, .ref z7, .int x1536])), (z2, .inl (T 0, 121, .inl f1537)), (z3, .inl (T 0, 121, .inl f1538)), (z4, .inl (T 0, 121, .inl f1540)), (z5, .inl (T 0, 121, .inl f1541)), (z6, .inl (T 0, 121, .inl f1542)), (z7, .inl (T 0, 121, .inl f1543))]) [0, 1, 2, 3, 4, 5, 6] rfl) (hD.sub (ws' := [(z1, .inr (0, [.ref z2, .ref z3, .ref z4, .ref z5, .ref z6, .ref z7, .int x1536])), (z2, .inl (T 0, 121, .inl f1537)), (z3, .inl (T 0, 121, .inl f1538)), (z4, .inl (T 0, 121, .inl f1540)), (z5, .inl (T 0, 121, .inl f1541)), (z6, .inl (T 0, 121, .inl f1542)), (z7, .inl (T 0, 121, .inl f1543))]) [0, 1, 2, 3, 4, 5, 6] (by decide +kernel) rfl)
  refine lv_if_eq (tgt := 19) hx hb dX0_stands_6 (by decide) (fun c1545 => ?_) (fun c1545 => ?_)
  · skip
    have kc1545 : x1544.toInt = 0 := eq_ti rfl (by decide) c1545
    refine lv_iconst (v := 1) hx hb dX0_stands_19 (by decide) ?_
    refine lv_goto (tgt := 24) hx hb dX0_stands_20 (by decide) ?_
    exact J1549 1 _ _ ls ⟨by decide, by decide⟩ (hP.sub (ws' := [(z1, .inr (0, [.ref z2, .ref z3, .ref z4, .ref z5, .ref z6, .ref z7, .int x1536])), (z2, .inl (T 0, 121, .inl f1537)), (z3, .inl (T 0, 121, .inl f1538)), (z4, .inl (T 0, 121, .inl f1540)), (z5, .inl (T 0, 121, .inl f1541)), (z6, .inl (T 0, 121, .inl f1542)), (z7, .inl (T 0, 121, .inl f1543))]) [0, 1, 2, 3, 4, 5, 6] rfl) (hD.sub (ws' := [(z1, .inr (0, [.ref z2, .ref z3, .ref z4, .ref z5, .ref z6, .ref z7, .int x1536])), (z2, .inl (T 0, 121, .inl f1537)), (z3, .inl (T 0, 121, .inl f1538)), (z4, .inl (T 0, 121, .inl f1540)), (z5, .inl (T 0, 121, .inl f1541)), (z6, .inl (T 0, 121, .inl f1542)), (z7, .inl (T 0, 121, .inl f1543))]) [0, 1, 2, 3, 4, 5, 6] (by decide +kernel) rfl) hS (lv_sub hl [0, 1, 2] rfl)
  · skip
    have kc1545 : x1544.toInt ≠ 0 := ne_ti rfl (by decide) c1545
    have nzx1544 : ¬ x1544 = 0 := c1545
    refine lv_aload_n hx hb dX0_stands_9 rfl (lv_at hl 0 rfl) ?_
    refine r_get (v := .ref z7) C0 hE ffX0_5 mw_55 hP 0 rfl rfl dX0_stands_10 ?_
    refine lv_iload_n hx hb dX0_stands_13 rfl (lv_at hl 1 rfl) ?_
    refine va_iald hx hb hK hP 6 0 rfl rfl (in_ti rfl (by omega) (by omega)) dX0_stands_14 ?_
    refine lv_topi (fun x1550 ex1550 => ?_)
    refine lv_iload_n hx hb dX0_stands_15 rfl (lv_at hl 2 rfl) ?_
    refine lv_icmp_le (tgt := 23) hx hb dX0_stands_16 (by decide) (fun c1551 => ?_) (fun c1551 => ?_)
    · skip
      have kc1551 : x1550.toInt ≤ p2.toInt := le_ti rfl rfl c1551
      refine lv_iconst (v := 0) hx hb dX0_stands_23 (by decide) ?_
      exact J1549 0 _ _ ls ⟨by decide, by decide⟩ (hP.sub (ws' := [(z1, .inr (0, [.ref z2, .ref z3, .ref z4, .ref z5, .ref z6, .ref z7, .int x1536])), (z2, .inl (T 0, 121, .inl f1537)), (z3, .inl (T 0, 121, .inl f1538)), (z4, .inl (T 0, 121, .inl f1540)), (z5, .inl (T 0, 121, .inl f1541)), (z6, .inl (T 0, 121, .inl f1542)), (z7, .inl (T 0, 121, .inl f1543))]) [0, 1, 2, 3, 4, 5, 6] rfl) (hD.sub (ws' := [(z1, .inr (0, [.ref z2, .ref z3, .ref z4, .ref z5, .ref z6, .ref z7, .int x1536])), (z2, .inl (T 0, 121, .inl f1537)), (z3, .inl (T 0, 121, .inl f1538)), (z4, .inl (T 0, 121, .inl f1540)), (z5, .inl (T 0, 121, .inl f1541)), (z6, .inl (T 0, 121, .inl f1542)), (z7, .inl (T 0, 121, .inl f1543))]) [0, 1, 2, 3, 4, 5, 6] (by decide +kernel) rfl) hS (lv_sub hl [0, 1, 2] rfl)
    · skip
      have kc1551 : p2.toInt < x1550.toInt := nle_ti rfl rfl c1551
      refine lv_iconst (v := 1) hx hb dX0_stands_19 (by decide) ?_
      refine lv_goto (tgt := 24) hx hb dX0_stands_20 (by decide) ?_
      exact J1549 1 _ _ ls ⟨by decide, by decide⟩ (hP.sub (ws' := [(z1, .inr (0, [.ref z2, .ref z3, .ref z4, .ref z5, .ref z6, .ref z7, .int x1536])), (z2, .inl (T 0, 121, .inl f1537)), (z3, .inl (T 0, 121, .inl f1538)), (z4, .inl (T 0, 121, .inl f1540)), (z5, .inl (T 0, 121, .inl f1541)), (z6, .inl (T 0, 121, .inl f1542)), (z7, .inl (T 0, 121, .inl f1543))]) [0, 1, 2, 3, 4, 5, 6] rfl) (hD.sub (ws' := [(z1, .inr (0, [.ref z2, .ref z3, .ref z4, .ref z5, .ref z6, .ref z7, .int x1536])), (z2, .inl (T 0, 121, .inl f1537)), (z3, .inl (T 0, 121, .inl f1538)), (z4, .inl (T 0, 121, .inl f1540)), (z5, .inl (T 0, 121, .inl f1541)), (z6, .inl (T 0, 121, .inl f1542)), (z7, .inl (T 0, 121, .inl f1543))]) [0, 1, 2, 3, 4, 5, 6] (by decide +kernel) rfl) hS (lv_sub hl [0, 1, 2] rfl)
set_option maxHeartbeats 4000000 in
set_option maxRecDepth 100000 in
theorem g_X0_roundsOf_1686 (l : Launch) (D : va_G) (T : Nat → ClassId) (sq sv sz : Nat) (z1 : Nat) (z2 : Nat) (z3 : Nat) (z4 : Nat) (z5 : Nat) (z6 : Nat) (z7 : Nat) (p1 : Int32) (w1 : va_W) (hw1 : B_X0 T z1 z2 z3 z4 z5 z6 z7 w1) (hp1 : 0 ≤ p1.toInt ∧ p1.toInt ≤ 120) : Met l yX0_roundsOf (.code yX0_roundsOf cX0_roundsOf 2 (some .int) :: TB) { frames := 0, cells := 0, slots := 0, locals := 0 } (PC2 D T sq sv [.ref z1, .int p1] (w1) sz) (Qi (S := Unit) (fun (r : Int32) (_ : Unit) => (0 ≤ r.toInt ∧ r.toInt ≤ 120)) (fun (_ : Unit) => w1) D (va_A (w1) sz)) 0 0 (va_A (w1) sz) := by
  obtain ⟨x1695, f1696, f1697, f1699, f1700, f1701, f1702, rfl, hx1695, hb1698⟩ := hw1
  refine ct_begin2 (Qc := Qi (S := Unit) (fun (r : Int32) (_ : Unit) => (0 ≤ r.toInt ∧ r.toInt ≤ 120)) (fun (_ : Unit) => ([(z1, .inr (0, [.ref z2, .ref z3, .ref z4, .ref z5, .ref z6, .ref z7, .int x1695])), (z2, .inl (T 0, 121, .inl f1696)), (z3, .inl (T 0, 121, .inl f1697)), (z4, .inl (T 0, 121, .inl f1699)), (z5, .inl (T 0, 121, .inl f1700)), (z6, .inl (T 0, 121, .inl f1701)), (z7, .inl (T 0, 121, .inl f1702))] : va_W)) D) (by decide +kernel) (Nat.le_of_ble_eq_true rfl) ?_
  intro p e s m below meth c A ls C0 hr hlocks hnm hE hStr hA hP hD hl
  generalize ([.ref z1, .int p1] : List Value).toArray = args at C0 ⊢
  have hx := C0.1
  have hb := C0.2.1
  have hml := C0.2.2.1
  have hown := C0.2.2.2.1
  have hT := C0.2.2.2.2
  have hK := hE.1
  generalize hH : s.heap = H at hP ⊢
  have hS : va_S A s.heap H [] := by rw [← hH]; exact va_S.rf
  have hP : va_P D vwCl [(z1, .inr (0, [.ref z2, .ref z3, .ref z4, .ref z5, .ref z6, .ref z7, .int x1695])), (z2, .inl (T 0, 121, .inl f1696)), (z3, .inl (T 0, 121, .inl f1697)), (z4, .inl (T 0, 121, .inl f1699)), (z5, .inl (T 0, 121, .inl f1700)), (z6, .inl (T 0, 121, .inl f1701)), (z7, .inl (T 0, 121, .inl f1702))] H := hP
  have hD : va_D A [(z1, .inr (0, [.ref z2, .ref z3, .ref z4, .ref z5, .ref z6, .ref z7, .int x1695])), (z2, .inl (T 0, 121, .inl f1696)), (z3, .inl (T 0, 121, .inl f1697)), (z4, .inl (T 0, 121, .inl f1699)), (z5, .inl (T 0, 121, .inl f1700)), (z6, .inl (T 0, 121, .inl f1701)), (z7, .inl (T 0, 121, .inl f1702))] := hD
  have hl : lv_has ls 2 [(0, .ref z1), (1, .int p1)] := hl
  refine lv_aload_n hx hb dX0_roundsOf_0 rfl (lv_at hl 0 rfl) ?_
  refine r_get (v := .ref z2) C0 hE ffX0_0 mw_43 hP 0 rfl rfl dX0_roundsOf_1 ?_
  refine lv_iload_n hx hb dX0_roundsOf_4 rfl (lv_at hl 1 rfl) ?_
  refine va_iald hx hb hK hP 1 0 rfl rfl (in_ti rfl (by omega) (by omega)) dX0_roundsOf_5 ?_
  refine lv_topi (fun x1703 ex1703 => ?_)
  refine lv_iconst (v := 2) hx hb dX0_roundsOf_6 (by decide) ?_
  have J1707 : ∀ (x1706 : Int32) (H : Heap) (locs : List Loc) (ls : Array Slot), (0 ≤ x1706.toInt ∧ x1706.toInt ≤ 120) → va_P D vwCl [(z1, .inr (0, [.ref z2, .ref z3, .ref z4, .ref z5, .ref z6, .ref z7, .int x1695])), (z2, .inl (T 0, 121, .inl f1696)), (z3, .inl (T 0, 121, .inl f1697)), (z4, .inl (T 0, 121, .inl f1699)), (z5, .inl (T 0, 121, .inl f1700)), (z6, .inl (T 0, 121, .inl f1701)), (z7, .inl (T 0, 121, .inl f1702))] H → va_D A [(z1, .inr (0, [.ref z2, .ref z3, .ref z4, .ref z5, .ref z6, .ref z7, .int x1695])), (z2, .inl (T 0, 121, .inl f1696)), (z3, .inl (T 0, 121, .inl f1697)), (z4, .inl (T 0, 121, .inl f1699)), (z5, .inl (T 0, 121, .inl f1700)), (z6, .inl (T 0, 121, .inl f1701)), (z7, .inl (T 0, 121, .inl f1702))] → va_S A s.heap H locs → lv_has ls 2 [(0, .ref z1), (1, .int p1)] → W p l e { frames := 0, cells := 0, slots := 0, locals := 0 } s m args below meth c H locs 0 0 (MQ below ((Qi (S := Unit) (fun (r : Int32) (_ : Unit) => (0 ≤ r.toInt ∧ r.toInt ≤ 120)) (fun (_ : Unit) => ([(z1, .inr (0, [.ref z2, .ref z3, .ref z4, .ref z5, .ref z6, .ref z7, .int x1695])), (z2, .inl (T 0, 121, .inl f1696)), (z3, .inl (T 0, 121, .inl f1697)), (z4, .inl (T 0, 121, .inl f1699)), (z5, .inl (T 0, 121, .inl f1700)), (z6, .inl (T 0, 121, .inl f1701)), (z7, .inl (T 0, 121, .inl f1702))] : va_W)) D) A) args s 0 0 A) (F0 m 20 ls [.int x1706]) := by
    intro x1706 H locs ls hx1706 hP hD hS hl
    exact r_iret () C0 hr hlocks hS (Nat.le_refl _) (Nat.le_refl _) dX0_roundsOf_20 ⟨by omega, by omega⟩ (hP.sub (ws' := [(z1, .inr (0, [.ref z2, .ref z3, .ref z4, .ref z5, .ref z6, .ref z7, .int x1695])), (z2, .inl (T 0, 121, .inl f1696)), (z3, .inl (T 0, 121, .inl f1697)), (z4, .inl (T 0, 121, .inl f1699)), (z5, .inl (T 0, 121, .inl f1700)), (z6, .inl (T 0, 121, .inl f1701)), (z7, .inl (T 0, 121, .inl f1702))]) [0, 1, 2, 3, 4, 5, 6] rfl) (hD.sub (ws' := [(z1, .inr (0, [.ref z2, .ref z3, .ref z4, .ref z5, .ref z6, .ref z7, .int x1695])), (z2, .inl (T 0, 121, .inl f1696)), (z3, .inl (T 0, 121, .inl f1697)), (z4, .inl (T 0, 121, .inl f1699)), (z5, .inl (T 0, 121, .inl f1700)), (z6, .inl (T 0, 121, .inl f1701)), (z7, .inl (T 0, 121, .inl f1702))]) [0, 1, 2, 3, 4, 5, 6] (by decide +kernel) rfl)
  refine lv_icmp_ne (tgt := 19) hx hb dX0_roundsOf_7 (by decide) (fun c1704 => ?_) (fun c1704 => ?_)
  · skip
    have kc1704 : x1703.toInt ≠ 2 := ne_ti rfl (by decide) c1704
    refine lv_iconst (v := 0) hx hb dX0_roundsOf_19 (by decide) ?_
    exact J1707 0 _ _ ls ⟨by decide, by decide⟩ (hP.sub (ws' := [(z1, .inr (0, [.ref z2, .ref z3, .ref z4, .ref z5, .ref z6, .ref z7, .int x1695])), (z2, .inl (T 0, 121, .inl f1696)), (z3, .inl (T 0, 121, .inl f1697)), (z4, .inl (T 0, 121, .inl f1699)), (z5, .inl (T 0, 121, .inl f1700)), (z6, .inl (T 0, 121, .inl f1701)), (z7, .inl (T 0, 121, .inl f1702))]) [0, 1, 2, 3, 4, 5, 6] rfl) (hD.sub (ws' := [(z1, .inr (0, [.ref z2, .ref z3, .ref z4, .ref z5, .ref z6, .ref z7, .int x1695])), (z2, .inl (T 0, 121, .inl f1696)), (z3, .inl (T 0, 121, .inl f1697)), (z4, .inl (T 0, 121, .inl f1699)), (z5, .inl (T 0, 121, .inl f1700)), (z6, .inl (T 0, 121, .inl f1701)), (z7, .inl (T 0, 121, .inl f1702))]) [0, 1, 2, 3, 4, 5, 6] (by decide +kernel) rfl) hS (lv_sub hl [0, 1] rfl)
  · skip
    have kc1704 : x1703.toInt = 2 := eq_ti rfl (by decide) c1704
    refine lv_aload_n hx hb dX0_roundsOf_10 rfl (lv_at hl 0 rfl) ?_
    refine r_get (v := .ref z3) C0 hE ffX0_1 mw_45 hP 0 rfl rfl dX0_roundsOf_11 ?_
    refine lv_iload_n hx hb dX0_roundsOf_14 rfl (lv_at hl 1 rfl) ?_
    refine va_iald hx hb hK hP 2 0 rfl rfl (in_ti rfl (by omega) (by omega)) dX0_roundsOf_15 ?_
    refine lv_topi (fun x1708 ex1708 => ?_)
    have hx1708 : 0 ≤ x1708.toInt ∧ x1708.toInt ≤ 120 := by rw [ex1708]; exact hb1698 _
    refine lv_goto (tgt := 20) hx hb dX0_roundsOf_16 (by decide) ?_
    exact J1707 x1708 _ _ ls ⟨by omega, by omega⟩ (hP.sub (ws' := [(z1, .inr (0, [.ref z2, .ref z3, .ref z4, .ref z5, .ref z6, .ref z7, .int x1695])), (z2, .inl (T 0, 121, .inl f1696)), (z3, .inl (T 0, 121, .inl f1697)), (z4, .inl (T 0, 121, .inl f1699)), (z5, .inl (T 0, 121, .inl f1700)), (z6, .inl (T 0, 121, .inl f1701)), (z7, .inl (T 0, 121, .inl f1702))]) [0, 1, 2, 3, 4, 5, 6] rfl) (hD.sub (ws' := [(z1, .inr (0, [.ref z2, .ref z3, .ref z4, .ref z5, .ref z6, .ref z7, .int x1695])), (z2, .inl (T 0, 121, .inl f1696)), (z3, .inl (T 0, 121, .inl f1697)), (z4, .inl (T 0, 121, .inl f1699)), (z5, .inl (T 0, 121, .inl f1700)), (z6, .inl (T 0, 121, .inl f1701)), (z7, .inl (T 0, 121, .inl f1702))]) [0, 1, 2, 3, 4, 5, 6] (by decide +kernel) rfl) hS (lv_sub hl [0, 1] rfl)
set_option maxHeartbeats 4000000 in
set_option maxRecDepth 100000 in
theorem g_X0_canVoid_1847 (l : Launch) (D : va_G) (T : Nat → ClassId) (sq sv sz : Nat) (z1 : Nat) (z2 : Nat) (z3 : Nat) (z4 : Nat) (z5 : Nat) (z6 : Nat) (z7 : Nat) (p1 : Int32) (w1 : va_W) (hw1 : B_X0 T z1 z2 z3 z4 z5 z6 z7 w1) : Met l yX0_canVoid (.code yX0_canVoid cX0_canVoid 2 (some .boolean) :: TB) { frames := 0, cells := 0, slots := 0, locals := 0 } (PC2 D T sq sv [.ref z1, .int p1] (w1) sz) (Qi (S := Unit) (fun (r : Int32) (_ : Unit) => (∀ v1 : Int32, fv w1 6 = some (.int v1) → r.toInt = 0 ∨ (1 ≤ p1.toInt ∧ p1.toInt ≤ v1.toInt)) ∧ (0 ≤ r.toInt ∧ r.toInt ≤ 1)) (fun (_ : Unit) => w1) D (va_A (w1) sz)) 0 0 (va_A (w1) sz) := by
  obtain ⟨x1856, f1857, f1858, f1860, f1861, f1862, f1863, rfl, hx1856, hb1859⟩ := hw1
  refine ct_begin2 (Qc := Qi (S := Unit) (fun (r : Int32) (_ : Unit) => (∀ v1 : Int32, fv ([(z1, .inr (0, [.ref z2, .ref z3, .ref z4, .ref z5, .ref z6, .ref z7, .int x1856])), (z2, .inl (T 0, 121, .inl f1857)), (z3, .inl (T 0, 121, .inl f1858)), (z4, .inl (T 0, 121, .inl f1860)), (z5, .inl (T 0, 121, .inl f1861)), (z6, .inl (T 0, 121, .inl f1862)), (z7, .inl (T 0, 121, .inl f1863))] : va_W) 6 = some (.int v1) → r.toInt = 0 ∨ (1 ≤ p1.toInt ∧ p1.toInt ≤ v1.toInt)) ∧ (0 ≤ r.toInt ∧ r.toInt ≤ 1)) (fun (_ : Unit) => ([(z1, .inr (0, [.ref z2, .ref z3, .ref z4, .ref z5, .ref z6, .ref z7, .int x1856])), (z2, .inl (T 0, 121, .inl f1857)), (z3, .inl (T 0, 121, .inl f1858)), (z4, .inl (T 0, 121, .inl f1860)), (z5, .inl (T 0, 121, .inl f1861)), (z6, .inl (T 0, 121, .inl f1862)), (z7, .inl (T 0, 121, .inl f1863))] : va_W)) D) (by decide +kernel) (Nat.le_of_ble_eq_true rfl) ?_
  intro p e s m below meth c A ls C0 hr hlocks hnm hE hStr hA hP hD hl
  generalize ([.ref z1, .int p1] : List Value).toArray = args at C0 ⊢
  have hx := C0.1
  have hb := C0.2.1
  have hml := C0.2.2.1
  have hown := C0.2.2.2.1
  have hT := C0.2.2.2.2
  have hK := hE.1
  generalize hH : s.heap = H at hP ⊢
  have hS : va_S A s.heap H [] := by rw [← hH]; exact va_S.rf
  have hP : va_P D vwCl [(z1, .inr (0, [.ref z2, .ref z3, .ref z4, .ref z5, .ref z6, .ref z7, .int x1856])), (z2, .inl (T 0, 121, .inl f1857)), (z3, .inl (T 0, 121, .inl f1858)), (z4, .inl (T 0, 121, .inl f1860)), (z5, .inl (T 0, 121, .inl f1861)), (z6, .inl (T 0, 121, .inl f1862)), (z7, .inl (T 0, 121, .inl f1863))] H := hP
  have hD : va_D A [(z1, .inr (0, [.ref z2, .ref z3, .ref z4, .ref z5, .ref z6, .ref z7, .int x1856])), (z2, .inl (T 0, 121, .inl f1857)), (z3, .inl (T 0, 121, .inl f1858)), (z4, .inl (T 0, 121, .inl f1860)), (z5, .inl (T 0, 121, .inl f1861)), (z6, .inl (T 0, 121, .inl f1862)), (z7, .inl (T 0, 121, .inl f1863))] := hD
  have hl : lv_has ls 2 [(0, .ref z1), (1, .int p1)] := hl
  refine lv_iload_n hx hb dX0_canVoid_0 rfl (lv_at hl 1 rfl) ?_
  refine lv_iconst (v := 1) hx hb dX0_canVoid_1 (by decide) ?_
  refine lv_icmp_lt (tgt := 36) hx hb dX0_canVoid_2 (by decide) (fun c1864 => ?_) (fun c1864 => ?_)
  · skip
    have kc1864 : p1.toInt < 1 := lt_ti rfl (by decide) c1864
    refine lv_iconst (v := 0) hx hb dX0_canVoid_36 (by decide) ?_
    exact r_zret () C0 hr (by decide +kernel) hlocks hS (Nat.le_refl _) (Nat.le_refl _) dX0_canVoid_37 ⟨(fun v1 hv1 => by have e1 := fv_inj hv1; subst e1; first | omega | exact Or.inl (by decide) | exact Or.inr (by omega)), ⟨by decide, by decide⟩⟩ (hP.sub (ws' := [(z1, .inr (0, [.ref z2, .ref z3, .ref z4, .ref z5, .ref z6, .ref z7, .int x1856])), (z2, .inl (T 0, 121, .inl f1857)), (z3, .inl (T 0, 121, .inl f1858)), (z4, .inl (T 0, 121, .inl f1860)), (z5, .inl (T 0, 121, .inl f1861)), (z6, .inl (T 0, 121, .inl f1862)), (z7, .inl (T 0, 121, .inl f1863))]) [0, 1, 2, 3, 4, 5, 6] rfl) (hD.sub (ws' := [(z1, .inr (0, [.ref z2, .ref z3, .ref z4, .ref z5, .ref z6, .ref z7, .int x1856])), (z2, .inl (T 0, 121, .inl f1857)), (z3, .inl (T 0, 121, .inl f1858)), (z4, .inl (T 0, 121, .inl f1860)), (z5, .inl (T 0, 121, .inl f1861)), (z6, .inl (T 0, 121, .inl f1862)), (z7, .inl (T 0, 121, .inl f1863))]) [0, 1, 2, 3, 4, 5, 6] (by decide +kernel) rfl)
  · skip
    have kc1864 : 1 ≤ p1.toInt := nlt_ti rfl (by decide) c1864
    refine lv_iload_n hx hb dX0_canVoid_5 rfl (lv_at hl 1 rfl) ?_
    refine lv_aload_n hx hb dX0_canVoid_6 rfl (lv_at hl 0 rfl) ?_
    refine r_get (v := .int x1856) C0 hE ffX0_6 mw_56 hP 0 rfl rfl dX0_canVoid_7 ?_
    refine lv_icmp_gt (tgt := 36) hx hb dX0_canVoid_10 (by decide) (fun c1865 => ?_) (fun c1865 => ?_)
    · skip
      have kc1865 : x1856.toInt < p1.toInt := lt_ti rfl rfl c1865
      refine lv_iconst (v := 0) hx hb dX0_canVoid_36 (by decide) ?_
      exact r_zret () C0 hr (by decide +kernel) hlocks hS (Nat.le_refl _) (Nat.le_refl _) dX0_canVoid_37 ⟨(fun v1 hv1 => by have e1 := fv_inj hv1; subst e1; first | omega | exact Or.inl (by decide) | exact Or.inr (by omega)), ⟨by decide, by decide⟩⟩ (hP.sub (ws' := [(z1, .inr (0, [.ref z2, .ref z3, .ref z4, .ref z5, .ref z6, .ref z7, .int x1856])), (z2, .inl (T 0, 121, .inl f1857)), (z3, .inl (T 0, 121, .inl f1858)), (z4, .inl (T 0, 121, .inl f1860)), (z5, .inl (T 0, 121, .inl f1861)), (z6, .inl (T 0, 121, .inl f1862)), (z7, .inl (T 0, 121, .inl f1863))]) [0, 1, 2, 3, 4, 5, 6] rfl) (hD.sub (ws' := [(z1, .inr (0, [.ref z2, .ref z3, .ref z4, .ref z5, .ref z6, .ref z7, .int x1856])), (z2, .inl (T 0, 121, .inl f1857)), (z3, .inl (T 0, 121, .inl f1858)), (z4, .inl (T 0, 121, .inl f1860)), (z5, .inl (T 0, 121, .inl f1861)), (z6, .inl (T 0, 121, .inl f1862)), (z7, .inl (T 0, 121, .inl f1863))]) [0, 1, 2, 3, 4, 5, 6] (by decide +kernel) rfl)
    · skip
      have kc1865 : p1.toInt ≤ x1856.toInt := nlt_ti rfl rfl c1865
      refine lv_aload_n hx hb dX0_canVoid_13 rfl (lv_at hl 0 rfl) ?_
      refine r_get (v := .ref z2) C0 hE ffX0_0 mw_43 hP 0 rfl rfl dX0_canVoid_14 ?_
      refine lv_iload_n hx hb dX0_canVoid_17 rfl (lv_at hl 1 rfl) ?_
      refine va_iald hx hb hK hP 1 0 rfl rfl (in_ti rfl (by omega) (by omega)) dX0_canVoid_18 ?_
      refine lv_topi (fun x1866 ex1866 => ?_)
      refine lv_iconst (v := 4) hx hb dX0_canVoid_19 (by decide) ?_
      refine lv_icmp_eq (tgt := 36) hx hb dX0_canVoid_20 (by decide) (fun c1867 => ?_) (fun c1867 => ?_)
      · skip
        have kc1867 : x1866.toInt = 4 := eq_ti rfl (by decide) c1867
        refine lv_iconst (v := 0) hx hb dX0_canVoid_36 (by decide) ?_
        exact r_zret () C0 hr (by decide +kernel) hlocks hS (Nat.le_refl _) (Nat.le_refl _) dX0_canVoid_37 ⟨(fun v1 hv1 => by have e1 := fv_inj hv1; subst e1; first | omega | exact Or.inl (by decide) | exact Or.inr (by omega)), ⟨by decide, by decide⟩⟩ (hP.sub (ws' := [(z1, .inr (0, [.ref z2, .ref z3, .ref z4, .ref z5, .ref z6, .ref z7, .int x1856])), (z2, .inl (T 0, 121, .inl f1857)), (z3, .inl (T 0, 121, .inl f1858)), (z4, .inl (T 0, 121, .inl f1860)), (z5, .inl (T 0, 121, .inl f1861)), (z6, .inl (T 0, 121, .inl f1862)), (z7, .inl (T 0, 121, .inl f1863))]) [0, 1, 2, 3, 4, 5, 6] rfl) (hD.sub (ws' := [(z1, .inr (0, [.ref z2, .ref z3, .ref z4, .ref z5, .ref z6, .ref z7, .int x1856])), (z2, .inl (T 0, 121, .inl f1857)), (z3, .inl (T 0, 121, .inl f1858)), (z4, .inl (T 0, 121, .inl f1860)), (z5, .inl (T 0, 121, .inl f1861)), (z6, .inl (T 0, 121, .inl f1862)), (z7, .inl (T 0, 121, .inl f1863))]) [0, 1, 2, 3, 4, 5, 6] (by decide +kernel) rfl)
      · skip
        have kc1867 : x1866.toInt ≠ 4 := ne_ti rfl (by decide) c1867
        refine lv_aload_n hx hb dX0_canVoid_23 rfl (lv_at hl 0 rfl) ?_
        refine r_get (v := .ref z7) C0 hE ffX0_5 mw_55 hP 0 rfl rfl dX0_canVoid_24 ?_
        refine lv_iload_n hx hb dX0_canVoid_27 rfl (lv_at hl 1 rfl) ?_
        refine va_iald hx hb hK hP 6 0 rfl rfl (in_ti rfl (by omega) (by omega)) dX0_canVoid_28 ?_
        refine lv_topi (fun x1868 ex1868 => ?_)
        refine lv_if_ne (tgt := 36) hx hb dX0_canVoid_29 (by decide) (fun c1869 => ?_) (fun c1869 => ?_)
        · skip
          have kc1869 : x1868.toInt ≠ 0 := ne_ti rfl (by decide) c1869
          have nzx1868 : ¬ x1868 = 0 := c1869
          refine lv_iconst (v := 0) hx hb dX0_canVoid_36 (by decide) ?_
          exact r_zret () C0 hr (by decide +kernel) hlocks hS (Nat.le_refl _) (Nat.le_refl _) dX0_canVoid_37 ⟨(fun v1 hv1 => by have e1 := fv_inj hv1; subst e1; first | omega | exact Or.inl (by decide) | exact Or.inr (by omega)), ⟨by decide, by decide⟩⟩ (hP.sub (ws' := [(z1, .inr (0, [.ref z2, .ref z3, .ref z4, .ref z5, .ref z6, .ref z7, .int x1856])), (z2, .inl (T 0, 121, .inl f1857)), (z3, .inl (T 0, 121, .inl f1858)), (z4, .inl (T 0, 121, .inl f1860)), (z5, .inl (T 0, 121, .inl f1861)), (z6, .inl (T 0, 121, .inl f1862)), (z7, .inl (T 0, 121, .inl f1863))]) [0, 1, 2, 3, 4, 5, 6] rfl) (hD.sub (ws' := [(z1, .inr (0, [.ref z2, .ref z3, .ref z4, .ref z5, .ref z6, .ref z7, .int x1856])), (z2, .inl (T 0, 121, .inl f1857)), (z3, .inl (T 0, 121, .inl f1858)), (z4, .inl (T 0, 121, .inl f1860)), (z5, .inl (T 0, 121, .inl f1861)), (z6, .inl (T 0, 121, .inl f1862)), (z7, .inl (T 0, 121, .inl f1863))]) [0, 1, 2, 3, 4, 5, 6] (by decide +kernel) rfl)
        · skip
          have kc1869 : x1868.toInt = 0 := eq_ti rfl (by decide) c1869
          refine lv_iconst (v := 1) hx hb dX0_canVoid_32 (by decide) ?_
          refine lv_goto (tgt := 37) hx hb dX0_canVoid_33 (by decide) ?_
          exact r_zret () C0 hr (by decide +kernel) hlocks hS (Nat.le_refl _) (Nat.le_refl _) dX0_canVoid_37 ⟨(fun v1 hv1 => by have e1 := fv_inj hv1; subst e1; first | omega | exact Or.inl (by decide) | exact Or.inr (by omega)), ⟨by decide, by decide⟩⟩ (hP.sub (ws' := [(z1, .inr (0, [.ref z2, .ref z3, .ref z4, .ref z5, .ref z6, .ref z7, .int x1856])), (z2, .inl (T 0, 121, .inl f1857)), (z3, .inl (T 0, 121, .inl f1858)), (z4, .inl (T 0, 121, .inl f1860)), (z5, .inl (T 0, 121, .inl f1861)), (z6, .inl (T 0, 121, .inl f1862)), (z7, .inl (T 0, 121, .inl f1863))]) [0, 1, 2, 3, 4, 5, 6] rfl) (hD.sub (ws' := [(z1, .inr (0, [.ref z2, .ref z3, .ref z4, .ref z5, .ref z6, .ref z7, .int x1856])), (z2, .inl (T 0, 121, .inl f1857)), (z3, .inl (T 0, 121, .inl f1858)), (z4, .inl (T 0, 121, .inl f1860)), (z5, .inl (T 0, 121, .inl f1861)), (z6, .inl (T 0, 121, .inl f1862)), (z7, .inl (T 0, 121, .inl f1863))]) [0, 1, 2, 3, 4, 5, 6] (by decide +kernel) rfl)
set_option maxHeartbeats 4000000 in
set_option maxRecDepth 100000 in
theorem g_X0_goesOn_2050 (l : Launch) (D : va_G) (T : Nat → ClassId) (sq sv sz : Nat) (z1 : Nat) (z2 : Nat) (z3 : Nat) (z4 : Nat) (z5 : Nat) (z6 : Nat) (z7 : Nat) (p1 : Int32) (p2 : Int32) (w1 : va_W) (hw1 : B_X0 T z1 z2 z3 z4 z5 z6 z7 w1) (hp1 : 0 ≤ p1.toInt ∧ p1.toInt ≤ 120) : Met l yX0_goesOn (.code yX0_goesOn cX0_goesOn 4 (some .boolean) :: TB) { frames := 0, cells := 0, slots := 0, locals := 0 } (PC2 D T sq sv [.ref z1, .int p1, .int p2] (w1) sz) (Qi (S := Unit) (fun (r : Int32) (_ : Unit) => (0 ≤ r.toInt ∧ r.toInt ≤ 1)) (fun (_ : Unit) => w1) D (va_A (w1) sz)) 0 0 (va_A (w1) sz) := by
  obtain ⟨x2059, f2060, f2061, f2063, f2064, f2065, f2066, rfl, hx2059, hb2062⟩ := hw1
  refine ct_begin2 (Qc := Qi (S := Unit) (fun (r : Int32) (_ : Unit) => (0 ≤ r.toInt ∧ r.toInt ≤ 1)) (fun (_ : Unit) => ([(z1, .inr (0, [.ref z2, .ref z3, .ref z4, .ref z5, .ref z6, .ref z7, .int x2059])), (z2, .inl (T 0, 121, .inl f2060)), (z3, .inl (T 0, 121, .inl f2061)), (z4, .inl (T 0, 121, .inl f2063)), (z5, .inl (T 0, 121, .inl f2064)), (z6, .inl (T 0, 121, .inl f2065)), (z7, .inl (T 0, 121, .inl f2066))] : va_W)) D) (by decide +kernel) (Nat.le_of_ble_eq_true rfl) ?_
  intro p e s m below meth c A ls C0 hr hlocks hnm hE hStr hA hP hD hl
  generalize ([.ref z1, .int p1, .int p2] : List Value).toArray = args at C0 ⊢
  have hx := C0.1
  have hb := C0.2.1
  have hml := C0.2.2.1
  have hown := C0.2.2.2.1
  have hT := C0.2.2.2.2
  have hK := hE.1
  generalize hH : s.heap = H at hP ⊢
  have hS : va_S A s.heap H [] := by rw [← hH]; exact va_S.rf
  have hP : va_P D vwCl [(z1, .inr (0, [.ref z2, .ref z3, .ref z4, .ref z5, .ref z6, .ref z7, .int x2059])), (z2, .inl (T 0, 121, .inl f2060)), (z3, .inl (T 0, 121, .inl f2061)), (z4, .inl (T 0, 121, .inl f2063)), (z5, .inl (T 0, 121, .inl f2064)), (z6, .inl (T 0, 121, .inl f2065)), (z7, .inl (T 0, 121, .inl f2066))] H := hP
  have hD : va_D A [(z1, .inr (0, [.ref z2, .ref z3, .ref z4, .ref z5, .ref z6, .ref z7, .int x2059])), (z2, .inl (T 0, 121, .inl f2060)), (z3, .inl (T 0, 121, .inl f2061)), (z4, .inl (T 0, 121, .inl f2063)), (z5, .inl (T 0, 121, .inl f2064)), (z6, .inl (T 0, 121, .inl f2065)), (z7, .inl (T 0, 121, .inl f2066))] := hD
  have hl : lv_has ls 4 [(0, .ref z1), (1, .int p1), (2, .int p2)] := hl
  refine lv_iload_n hx hb dX0_goesOn_0 rfl (lv_at hl 1 rfl) ?_
  refine lv_iload_n hx hb dX0_goesOn_1 rfl (lv_at hl 2 rfl) ?_
  refine lv_icmp_le (tgt := 7) hx hb dX0_goesOn_2 (by decide) (fun c2067 => ?_) (fun c2067 => ?_)
  · skip
    have kc2067 : p1.toInt ≤ p2.toInt := le_ti rfl rfl c2067
    refine lv_iload_n hx hb dX0_goesOn_7 rfl (lv_at hl 1 rfl) ?_
    refine lv_iconst (v := 1) hx hb dX0_goesOn_8 (by decide) ?_
    refine lv_iadd hx hb dX0_goesOn_9 ?_
    refine lv_topi (fun x2068 ex2068 => ?_)
    have hx2068 : x2068.toInt = p1.toInt + 1 := ti_add ex2068 rfl (by decide) (by omega) (by omega)
    refine lv_istore_n (lv' := [(3, .int x2068), (0, .ref z1), (1, .int p1), (2, .int p2)]) hx hb dX0_goesOn_10 rfl hl (by decide) rfl (fun ls hl => ?_)
    have L2086 : ∀ (n : Nat) (x2077 : Int32) (H : Heap) (locs : List Loc) (ls : Array Slot), (1 ≤ x2077.toInt ∧ x2077.toInt ≤ 121) → (122 - x2077.toInt).toNat < n → va_P D vwCl [(z1, .inr (0, [.ref z2, .ref z3, .ref z4, .ref z5, .ref z6, .ref z7, .int x2059])), (z2, .inl (T 0, 121, .inl f2060)), (z3, .inl (T 0, 121, .inl f2061)), (z4, .inl (T 0, 121, .inl f2063)), (z5, .inl (T 0, 121, .inl f2064)), (z6, .inl (T 0, 121, .inl f2065)), (z7, .inl (T 0, 121, .inl f2066))] H → va_D A [(z1, .inr (0, [.ref z2, .ref z3, .ref z4, .ref z5, .ref z6, .ref z7, .int x2059])), (z2, .inl (T 0, 121, .inl f2060)), (z3, .inl (T 0, 121, .inl f2061)), (z4, .inl (T 0, 121, .inl f2063)), (z5, .inl (T 0, 121, .inl f2064)), (z6, .inl (T 0, 121, .inl f2065)), (z7, .inl (T 0, 121, .inl f2066))] → va_S A s.heap H locs → lv_has ls 4 [(3, .int x2077), (0, .ref z1), (1, .int p1), (2, .int p2)] → W p l e { frames := 0, cells := 0, slots := 0, locals := 0 } s m args below meth c H locs 0 0 (MQ below ((Qi (S := Unit) (fun (r : Int32) (_ : Unit) => (0 ≤ r.toInt ∧ r.toInt ≤ 1)) (fun (_ : Unit) => ([(z1, .inr (0, [.ref z2, .ref z3, .ref z4, .ref z5, .ref z6, .ref z7, .int x2059])), (z2, .inl (T 0, 121, .inl f2060)), (z3, .inl (T 0, 121, .inl f2061)), (z4, .inl (T 0, 121, .inl f2063)), (z5, .inl (T 0, 121, .inl f2064)), (z6, .inl (T 0, 121, .inl f2065)), (z7, .inl (T 0, 121, .inl f2066))] : va_W)) D) A) args s 0 0 A) (F0 m 11 ls []) := by
      intro n
      induction n with
      | zero =>
        intro x2077 H locs ls hx2077 hms hP hD hS hl
        exact absurd hms (Nat.not_lt_zero _)
      | succ n ih =>
        intro x2077 H locs ls hx2077 hms hP hD hS hl
        refine lv_iload_n hx hb dX0_goesOn_11 rfl (lv_at hl 0 rfl) ?_
        refine lv_iload_n hx hb dX0_goesOn_12 rfl (lv_at hl 3 rfl) ?_
        refine lv_icmp_gt (tgt := 52) hx hb dX0_goesOn_13 (by decide) (fun c2087 => ?_) (fun c2087 => ?_)
        · skip
          have kc2087 : p2.toInt < x2077.toInt := lt_ti rfl rfl c2087
          refine lv_iconst (v := 1) hx hb dX0_goesOn_52 (by decide) ?_
          exact r_zret () C0 hr (by decide +kernel) hlocks hS (Nat.le_refl _) (Nat.le_refl _) dX0_goesOn_53 ⟨by decide, by decide⟩ (hP.sub (ws' := [(z1, .inr (0, [.ref z2, .ref z3, .ref z4, .ref z5, .ref z6, .ref z7, .int x2059])), (z2, .inl (T 0, 121, .inl f2060)), (z3, .inl (T 0, 121, .inl f2061)), (z4, .inl (T 0, 121, .inl f2063)), (z5, .inl (T 0, 121, .inl f2064)), (z6, .inl (T 0, 121, .inl f2065)), (z7, .inl (T 0, 121, .inl f2066))]) [0, 1, 2, 3, 4, 5, 6] rfl) (hD.sub (ws' := [(z1, .inr (0, [.ref z2, .ref z3, .ref z4, .ref z5, .ref z6, .ref z7, .int x2059])), (z2, .inl (T 0, 121, .inl f2060)), (z3, .inl (T 0, 121, .inl f2061)), (z4, .inl (T 0, 121, .inl f2063)), (z5, .inl (T 0, 121, .inl f2064)), (z6, .inl (T 0, 121, .inl f2065)), (z7, .inl (T 0, 121, .inl f2066))]) [0, 1, 2, 3, 4, 5, 6] (by decide +kernel) rfl)
        · skip
          have kc2087 : x2077.toInt ≤ p2.toInt := nlt_ti rfl rfl c2087
          refine lv_iload_n hx hb dX0_goesOn_16 rfl (lv_at hl 0 rfl) ?_
          refine lv_aload_n hx hb dX0_goesOn_17 rfl (lv_at hl 1 rfl) ?_
          refine r_get (v := .int x2059) C0 hE ffX0_6 mw_56 hP 0 rfl rfl dX0_goesOn_18 ?_
          refine lv_icmp_gt (tgt := 52) hx hb dX0_goesOn_21 (by decide) (fun c2088 => ?_) (fun c2088 => ?_)
          · skip
            have kc2088 : x2059.toInt < x2077.toInt := lt_ti rfl rfl c2088
            refine lv_iconst (v := 1) hx hb dX0_goesOn_52 (by decide) ?_
            exact r_zret () C0 hr (by decide +kernel) hlocks hS (Nat.le_refl _) (Nat.le_refl _) dX0_goesOn_53 ⟨by decide, by decide⟩ (hP.sub (ws' := [(z1, .inr (0, [.ref z2, .ref z3, .ref z4, .ref z5, .ref z6, .ref z7, .int x2059])), (z2, .inl (T 0, 121, .inl f2060)), (z3, .inl (T 0, 121, .inl f2061)), (z4, .inl (T 0, 121, .inl f2063)), (z5, .inl (T 0, 121, .inl f2064)), (z6, .inl (T 0, 121, .inl f2065)), (z7, .inl (T 0, 121, .inl f2066))]) [0, 1, 2, 3, 4, 5, 6] rfl) (hD.sub (ws' := [(z1, .inr (0, [.ref z2, .ref z3, .ref z4, .ref z5, .ref z6, .ref z7, .int x2059])), (z2, .inl (T 0, 121, .inl f2060)), (z3, .inl (T 0, 121, .inl f2061)), (z4, .inl (T 0, 121, .inl f2063)), (z5, .inl (T 0, 121, .inl f2064)), (z6, .inl (T 0, 121, .inl f2065)), (z7, .inl (T 0, 121, .inl f2066))]) [0, 1, 2, 3, 4, 5, 6] (by decide +kernel) rfl)
          · skip
            have kc2088 : x2077.toInt ≤ x2059.toInt := nlt_ti rfl rfl c2088
            refine lv_aload_n hx hb dX0_goesOn_24 rfl (lv_at hl 1 rfl) ?_
            refine r_get (v := .ref z2) C0 hE ffX0_0 mw_43 hP 0 rfl rfl dX0_goesOn_25 ?_
            refine lv_iload_n hx hb dX0_goesOn_28 rfl (lv_at hl 0 rfl) ?_
            refine va_iald hx hb hK hP 1 0 rfl rfl (in_ti rfl (by omega) (by omega)) dX0_goesOn_29 ?_
            refine lv_topi (fun x2089 ex2089 => ?_)
            refine lv_iconst (v := 4) hx hb dX0_goesOn_30 (by decide) ?_
            refine lv_icmp_ne (tgt := 46) hx hb dX0_goesOn_31 (by decide) (fun c2090 => ?_) (fun c2090 => ?_)
            · skip
              have kc2090 : x2089.toInt ≠ 4 := ne_ti rfl (by decide) c2090
              obtain ⟨x2091, ex2091⟩ : ∃ y : Int32, y = x2077 + 1 := ⟨_, rfl⟩
              have hx2091 : x2091.toInt = x2077.toInt + 1 := ti_add ex2091 rfl (by decide) (by omega) (by omega)
              refine lv_iinc (v := x2091) (lv' := [(3, .int x2091), (0, .ref z1), (1, .int p1), (2, .int p2)]) hx hb dX0_goesOn_46 hl (k := 0) rfl (by rw [ex2091]; rfl) (by decide) rfl (fun ls hl => ?_)
              refine lv_goto (tgt := 11) hx hb dX0_goesOn_49 (by decide) ?_
              exact ih x2091 _ _ ls ⟨by omega, by omega⟩ (by omega) (hP.sub (ws' := [(z1, .inr (0, [.ref z2, .ref z3, .ref z4, .ref z5, .ref z6, .ref z7, .int x2059])), (z2, .inl (T 0, 121, .inl f2060)), (z3, .inl (T 0, 121, .inl f2061)), (z4, .inl (T 0, 121, .inl f2063)), (z5, .inl (T 0, 121, .inl f2064)), (z6, .inl (T 0, 121, .inl f2065)), (z7, .inl (T 0, 121, .inl f2066))]) [0, 1, 2, 3, 4, 5, 6] rfl) (hD.sub (ws' := [(z1, .inr (0, [.ref z2, .ref z3, .ref z4, .ref z5, .ref z6, .ref z7, .int x2059])), (z2, .inl (T 0, 121, .inl f2060)), (z3, .inl (T 0, 121, .inl f2061)), (z4, .inl (T 0, 121, .inl f2063)), (z5, .inl (T 0, 121, .inl f2064)), (z6, .inl (T 0, 121, .inl f2065)), (z7, .inl (T 0, 121, .inl f2066))]) [0, 1, 2, 3, 4, 5, 6] (by decide +kernel) rfl) hS (lv_sub hl [0, 1, 2, 3] rfl)
            · skip
              have kc2090 : x2089.toInt = 4 := eq_ti rfl (by decide) c2090
              refine lv_aload_n hx hb dX0_goesOn_34 rfl (lv_at hl 1 rfl) ?_
              refine r_get (v := .ref z3) C0 hE ffX0_1 mw_45 hP 0 rfl rfl dX0_goesOn_35 ?_
              refine lv_iload_n hx hb dX0_goesOn_38 rfl (lv_at hl 0 rfl) ?_
              refine va_iald hx hb hK hP 2 0 rfl rfl (in_ti rfl (by omega) (by omega)) dX0_goesOn_39 ?_
              refine lv_topi (fun x2092 ex2092 => ?_)
              have hx2092 : 0 ≤ x2092.toInt ∧ x2092.toInt ≤ 120 := by rw [ex2092]; exact hb2062 _
              refine lv_iload_n hx hb dX0_goesOn_40 rfl (lv_at hl 2 rfl) ?_
              refine lv_icmp_gt (tgt := 46) hx hb dX0_goesOn_41 (by decide) (fun c2093 => ?_) (fun c2093 => ?_)
              · skip
                have kc2093 : p1.toInt < x2092.toInt := lt_ti rfl rfl c2093
                obtain ⟨x2094, ex2094⟩ : ∃ y : Int32, y = x2077 + 1 := ⟨_, rfl⟩
                have hx2094 : x2094.toInt = x2077.toInt + 1 := ti_add ex2094 rfl (by decide) (by omega) (by omega)
                refine lv_iinc (v := x2094) (lv' := [(3, .int x2094), (0, .ref z1), (1, .int p1), (2, .int p2)]) hx hb dX0_goesOn_46 hl (k := 0) rfl (by rw [ex2094]; rfl) (by decide) rfl (fun ls hl => ?_)
                refine lv_goto (tgt := 11) hx hb dX0_goesOn_49 (by decide) ?_
                exact ih x2094 _ _ ls ⟨by omega, by omega⟩ (by omega) (hP.sub (ws' := [(z1, .inr (0, [.ref z2, .ref z3, .ref z4, .ref z5, .ref z6, .ref z7, .int x2059])), (z2, .inl (T 0, 121, .inl f2060)), (z3, .inl (T 0, 121, .inl f2061)), (z4, .inl (T 0, 121, .inl f2063)), (z5, .inl (T 0, 121, .inl f2064)), (z6, .inl (T 0, 121, .inl f2065)), (z7, .inl (T 0, 121, .inl f2066))]) [0, 1, 2, 3, 4, 5, 6] rfl) (hD.sub (ws' := [(z1, .inr (0, [.ref z2, .ref z3, .ref z4, .ref z5, .ref z6, .ref z7, .int x2059])), (z2, .inl (T 0, 121, .inl f2060)), (z3, .inl (T 0, 121, .inl f2061)), (z4, .inl (T 0, 121, .inl f2063)), (z5, .inl (T 0, 121, .inl f2064)), (z6, .inl (T 0, 121, .inl f2065)), (z7, .inl (T 0, 121, .inl f2066))]) [0, 1, 2, 3, 4, 5, 6] (by decide +kernel) rfl) hS (lv_sub hl [0, 1, 2, 3] rfl)
              · skip
                have kc2093 : x2092.toInt ≤ p1.toInt := nlt_ti rfl rfl c2093
                refine lv_iconst (v := 0) hx hb dX0_goesOn_44 (by decide) ?_
                exact r_zret () C0 hr (by decide +kernel) hlocks hS (Nat.le_refl _) (Nat.le_refl _) dX0_goesOn_45 ⟨by decide, by decide⟩ (hP.sub (ws' := [(z1, .inr (0, [.ref z2, .ref z3, .ref z4, .ref z5, .ref z6, .ref z7, .int x2059])), (z2, .inl (T 0, 121, .inl f2060)), (z3, .inl (T 0, 121, .inl f2061)), (z4, .inl (T 0, 121, .inl f2063)), (z5, .inl (T 0, 121, .inl f2064)), (z6, .inl (T 0, 121, .inl f2065)), (z7, .inl (T 0, 121, .inl f2066))]) [0, 1, 2, 3, 4, 5, 6] rfl) (hD.sub (ws' := [(z1, .inr (0, [.ref z2, .ref z3, .ref z4, .ref z5, .ref z6, .ref z7, .int x2059])), (z2, .inl (T 0, 121, .inl f2060)), (z3, .inl (T 0, 121, .inl f2061)), (z4, .inl (T 0, 121, .inl f2063)), (z5, .inl (T 0, 121, .inl f2064)), (z6, .inl (T 0, 121, .inl f2065)), (z7, .inl (T 0, 121, .inl f2066))]) [0, 1, 2, 3, 4, 5, 6] (by decide +kernel) rfl)
    exact L2086 _ x2068 _ _ ls ⟨by omega, by omega⟩ (Nat.lt_succ_self _) (hP.sub (ws' := [(z1, .inr (0, [.ref z2, .ref z3, .ref z4, .ref z5, .ref z6, .ref z7, .int x2059])), (z2, .inl (T 0, 121, .inl f2060)), (z3, .inl (T 0, 121, .inl f2061)), (z4, .inl (T 0, 121, .inl f2063)), (z5, .inl (T 0, 121, .inl f2064)), (z6, .inl (T 0, 121, .inl f2065)), (z7, .inl (T 0, 121, .inl f2066))]) [0, 1, 2, 3, 4, 5, 6] rfl) (hD.sub (ws' := [(z1, .inr (0, [.ref z2, .ref z3, .ref z4, .ref z5, .ref z6, .ref z7, .int x2059])), (z2, .inl (T 0, 121, .inl f2060)), (z3, .inl (T 0, 121, .inl f2061)), (z4, .inl (T 0, 121, .inl f2063)), (z5, .inl (T 0, 121, .inl f2064)), (z6, .inl (T 0, 121, .inl f2065)), (z7, .inl (T 0, 121, .inl f2066))]) [0, 1, 2, 3, 4, 5, 6] (by decide +kernel) rfl) hS (lv_sub hl [0, 1, 2, 3] rfl)
  · skip
    have kc2067 : p2.toInt < p1.toInt := nle_ti rfl rfl c2067
    refine lv_iconst (v := 0) hx hb dX0_goesOn_5 (by decide) ?_
    exact r_zret () C0 hr (by decide +kernel) hlocks hS (Nat.le_refl _) (Nat.le_refl _) dX0_goesOn_6 ⟨by decide, by decide⟩ (hP.sub (ws' := [(z1, .inr (0, [.ref z2, .ref z3, .ref z4, .ref z5, .ref z6, .ref z7, .int x2059])), (z2, .inl (T 0, 121, .inl f2060)), (z3, .inl (T 0, 121, .inl f2061)), (z4, .inl (T 0, 121, .inl f2063)), (z5, .inl (T 0, 121, .inl f2064)), (z6, .inl (T 0, 121, .inl f2065)), (z7, .inl (T 0, 121, .inl f2066))]) [0, 1, 2, 3, 4, 5, 6] rfl) (hD.sub (ws' := [(z1, .inr (0, [.ref z2, .ref z3, .ref z4, .ref z5, .ref z6, .ref z7, .int x2059])), (z2, .inl (T 0, 121, .inl f2060)), (z3, .inl (T 0, 121, .inl f2061)), (z4, .inl (T 0, 121, .inl f2063)), (z5, .inl (T 0, 121, .inl f2064)), (z6, .inl (T 0, 121, .inl f2065)), (z7, .inl (T 0, 121, .inl f2066))]) [0, 1, 2, 3, 4, 5, 6] (by decide +kernel) rfl)
set_option maxHeartbeats 4000000 in
set_option maxRecDepth 100000 in
theorem g_X0_addVoid_2266 (l : Launch) (D : va_G) (T : Nat → ClassId) (sq sv sz : Nat) (z1 : Nat) (z2 : Nat) (z3 : Nat) (z4 : Nat) (z5 : Nat) (z6 : Nat) (z7 : Nat) (p1 : Int32) (w1 : va_W) (hw1 : B_X0 T z1 z2 z3 z4 z5 z6 z7 w1) (hp1 : 0 ≤ p1.toInt ∧ p1.toInt ≤ 120) : Met l yX0_addVoid (.code yX0_addVoid cX0_addVoid 3 (some .int) :: TB) { frames := 1, cells := 0, slots := 0, locals := 25 } (PC2 D T sq sv [.ref z1, .int p1] (w1) sz) (Qi (S := va_W) (fun (r : Int32) (u0 : va_W) => B_X0 T z1 z2 z3 z4 z5 z6 z7 u0 ∧ (-1 ≤ r.toInt ∧ r.toInt ≤ 120)) (fun (u0 : va_W) => u0) D (va_A (w1) sz)) 0 0 (va_A (w1) sz) := by
  obtain ⟨x2275, f2276, f2277, f2279, f2280, f2281, f2282, rfl, hx2275, hb2278⟩ := hw1
  refine ct_begin2 (Qc := Qi (S := va_W) (fun (r : Int32) (u0 : va_W) => B_X0 T z1 z2 z3 z4 z5 z6 z7 u0 ∧ (-1 ≤ r.toInt ∧ r.toInt ≤ 120)) (fun (u0 : va_W) => u0) D) (by decide +kernel) (Nat.le_of_ble_eq_true rfl) ?_
  intro p e s m below meth c A ls C0 hr hlocks hnm hE hStr hA hP hD hl
  generalize ([.ref z1, .int p1] : List Value).toArray = args at C0 ⊢
  have hx := C0.1
  have hb := C0.2.1
  have hml := C0.2.2.1
  have hown := C0.2.2.2.1
  have hT := C0.2.2.2.2
  have hK := hE.1
  generalize hH : s.heap = H at hP ⊢
  have hS : va_S A s.heap H [] := by rw [← hH]; exact va_S.rf
  have hP : va_P D vwCl [(z1, .inr (0, [.ref z2, .ref z3, .ref z4, .ref z5, .ref z6, .ref z7, .int x2275])), (z2, .inl (T 0, 121, .inl f2276)), (z3, .inl (T 0, 121, .inl f2277)), (z4, .inl (T 0, 121, .inl f2279)), (z5, .inl (T 0, 121, .inl f2280)), (z6, .inl (T 0, 121, .inl f2281)), (z7, .inl (T 0, 121, .inl f2282))] H := hP
  have hD : va_D A [(z1, .inr (0, [.ref z2, .ref z3, .ref z4, .ref z5, .ref z6, .ref z7, .int x2275])), (z2, .inl (T 0, 121, .inl f2276)), (z3, .inl (T 0, 121, .inl f2277)), (z4, .inl (T 0, 121, .inl f2279)), (z5, .inl (T 0, 121, .inl f2280)), (z6, .inl (T 0, 121, .inl f2281)), (z7, .inl (T 0, 121, .inl f2282))] := hD
  have hl : lv_has ls 3 [(0, .ref z1), (1, .int p1)] := hl
  refine lv_aload_n hx hb dX0_addVoid_0 rfl (lv_at hl 0 rfl) ?_
  refine lv_iconst (v := 4) hx hb dX0_addVoid_1 (by decide) ?_
  refine lv_iload_n hx hb dX0_addVoid_2 rfl (lv_at hl 1 rfl) ?_
  refine lv_iconst (v := 0) hx hb dX0_addVoid_3 (by decide) ?_
  refine lv_iconst (v := 0) hx hb dX0_addVoid_4 (by decide) ?_
  refine lv_iconst (v := 0) hx hb dX0_addVoid_5 (by decide) ?_
  refine r_calli (wr := []) (r_runV2 (As := [.int 4, .int p1, .int 0, .int 0, .int 0]) (rest := []) (wc := [(z1, .inr (0, [.ref z2, .ref z3, .ref z4, .ref z5, .ref z6, .ref z7, .int x2275])), (z2, .inl (T 0, 121, .inl f2276)), (z3, .inl (T 0, 121, .inl f2277)), (z4, .inl (T 0, 121, .inl f2279)), (z5, .inl (T 0, 121, .inl f2280)), (z6, .inl (T 0, 121, .inl f2281)), (z7, .inl (T 0, 121, .inl f2282))]) (ci := 0) C0 hE hStr hS (va_free (wc := [(z1, .inr (0, [.ref z2, .ref z3, .ref z4, .ref z5, .ref z6, .ref z7, .int x2275])), (z2, .inl (T 0, 121, .inl f2276)), (z3, .inl (T 0, 121, .inl f2277)), (z4, .inl (T 0, 121, .inl f2279)), (z5, .inl (T 0, 121, .inl f2280)), (z6, .inl (T 0, 121, .inl f2281)), (z7, .inl (T 0, 121, .inl f2282))]) hD hS hA [0, 1, 2, 3, 4, 5, 6] rfl) (g_X0_add_1365 l D T sq sv H.size z1 z2 z3 z4 z5 z6 z7 4 p1 0 0 0 [(z1, .inr (0, [.ref z2, .ref z3, .ref z4, .ref z5, .ref z6, .ref z7, .int x2275])), (z2, .inl (T 0, 121, .inl f2276)), (z3, .inl (T 0, 121, .inl f2277)), (z4, .inl (T 0, 121, .inl f2279)), (z5, .inl (T 0, 121, .inl f2280)), (z6, .inl (T 0, 121, .inl f2281)), (z7, .inl (T 0, 121, .inl f2282))] (⟨x2275, f2276, f2277, f2279, f2280, f2281, f2282, rfl, ⟨by omega, by omega⟩, hb2278⟩) (⟨by omega, by omega⟩)) mw_483 mw_453 mw_454 mw_3 mw_455 dn_1571 rfl rfl ⟨Nat.le_of_ble_eq_true rfl, Nat.le_of_ble_eq_true rfl⟩ (hP.sub (ws' := [(z1, .inr (0, [.ref z2, .ref z3, .ref z4, .ref z5, .ref z6, .ref z7, .int x2275])), (z2, .inl (T 0, 121, .inl f2276)), (z3, .inl (T 0, 121, .inl f2277)), (z4, .inl (T 0, 121, .inl f2279)), (z5, .inl (T 0, 121, .inl f2280)), (z6, .inl (T 0, 121, .inl f2281)), (z7, .inl (T 0, 121, .inl f2282))]) [0, 1, 2, 3, 4, 5, 6] rfl) (hD.sub (ws' := [(z1, .inr (0, [.ref z2, .ref z3, .ref z4, .ref z5, .ref z6, .ref z7, .int x2275])), (z2, .inl (T 0, 121, .inl f2276)), (z3, .inl (T 0, 121, .inl f2277)), (z4, .inl (T 0, 121, .inl f2279)), (z5, .inl (T 0, 121, .inl f2280)), (z6, .inl (T 0, 121, .inl f2281)), (z7, .inl (T 0, 121, .inl f2282))]) [0, 1, 2, 3, 4, 5, 6] (by decide +kernel) rfl) rfl rfl rfl hl.1 rfl (Nat.le_of_ble_eq_true rfl) dX0_addVoid_6 ⟨Nat.le_of_ble_eq_true rfl, Nat.le_of_ble_eq_true rfl⟩) hP hD hS hA [0, 1, 2, 3, 4, 5, 6] [] rfl rfl (by decide +kernel) (by decide +kernel) (fun x2283 u H locs hq hP hD hS => ?_)
  obtain ⟨u2284, rfl⟩ : ∃ z, z = u := ⟨_, rfl⟩
  obtain ⟨hm2285, hx2283⟩ := hq
  obtain ⟨x2286, f2287, f2288, f2290, f2291, f2292, f2293, rfl, hx2286, hb2289⟩ := hm2285
  have hP : va_P D vwCl [(z1, .inr (0, [.ref z2, .ref z3, .ref z4, .ref z5, .ref z6, .ref z7, .int x2286])), (z2, .inl (T 0, 121, .inl f2287)), (z3, .inl (T 0, 121, .inl f2288)), (z4, .inl (T 0, 121, .inl f2290)), (z5, .inl (T 0, 121, .inl f2291)), (z6, .inl (T 0, 121, .inl f2292)), (z7, .inl (T 0, 121, .inl f2293))] H := hP
  have hD : va_D A [(z1, .inr (0, [.ref z2, .ref z3, .ref z4, .ref z5, .ref z6, .ref z7, .int x2286])), (z2, .inl (T 0, 121, .inl f2287)), (z3, .inl (T 0, 121, .inl f2288)), (z4, .inl (T 0, 121, .inl f2290)), (z5, .inl (T 0, 121, .inl f2291)), (z6, .inl (T 0, 121, .inl f2292)), (z7, .inl (T 0, 121, .inl f2293))] := hD
  refine W.widen (k := 0) (n := 0) (Nat.le_refl _) (Nat.le_refl _) ?_
  refine lv_istore_n (lv' := [(2, .int x2283), (0, .ref z1), (1, .int p1)]) hx hb dX0_addVoid_9 rfl hl (by decide) rfl (fun ls hl => ?_)
  refine lv_iload_n hx hb dX0_addVoid_10 rfl (lv_at hl 0 rfl) ?_
  refine lv_iconst (v := (-1)) hx hb dX0_addVoid_11 (by decide) ?_
  have J2297 : ∀ (f2296 : Nat → Int32) (H : Heap) (locs : List Loc) (ls : Array Slot), va_P D vwCl [(z1, .inr (0, [.ref z2, .ref z3, .ref z4, .ref z5, .ref z6, .ref z7, .int x2286])), (z2, .inl (T 0, 121, .inl f2287)), (z3, .inl (T 0, 121, .inl f2288)), (z4, .inl (T 0, 121, .inl f2290)), (z5, .inl (T 0, 121, .inl f2291)), (z6, .inl (T 0, 121, .inl f2292)), (z7, .inl (T 0, 121, .inl f2296))] H → va_D A [(z1, .inr (0, [.ref z2, .ref z3, .ref z4, .ref z5, .ref z6, .ref z7, .int x2286])), (z2, .inl (T 0, 121, .inl f2287)), (z3, .inl (T 0, 121, .inl f2288)), (z4, .inl (T 0, 121, .inl f2290)), (z5, .inl (T 0, 121, .inl f2291)), (z6, .inl (T 0, 121, .inl f2292)), (z7, .inl (T 0, 121, .inl f2296))] → va_S A s.heap H locs → lv_has ls 3 [(2, .int x2283), (0, .ref z1), (1, .int p1)] → W p l e { frames := 1, cells := 0, slots := 0, locals := 25 } s m args below meth c H locs 0 0 (MQ below ((Qi (S := va_W) (fun (r : Int32) (u0 : va_W) => B_X0 T z1 z2 z3 z4 z5 z6 z7 u0 ∧ (-1 ≤ r.toInt ∧ r.toInt ≤ 120)) (fun (u0 : va_W) => u0) D) A) args s 0 0 A) (F0 m 22 ls []) := by
    intro f2296 H locs ls hP hD hS hl
    refine lv_iload_n hx hb dX0_addVoid_22 rfl (lv_at hl 0 rfl) ?_
    exact r_iret ([(z1, .inr (0, [.ref z2, .ref z3, .ref z4, .ref z5, .ref z6, .ref z7, .int x2286])), (z2, .inl (T 0, 121, .inl f2287)), (z3, .inl (T 0, 121, .inl f2288)), (z4, .inl (T 0, 121, .inl f2290)), (z5, .inl (T 0, 121, .inl f2291)), (z6, .inl (T 0, 121, .inl f2292)), (z7, .inl (T 0, 121, .inl f2296))] : va_W) C0 hr hlocks hS (Nat.le_refl _) (Nat.le_refl _) dX0_addVoid_23 ⟨⟨x2286, f2287, f2288, f2290, f2291, f2292, f2296, rfl, ⟨by omega, by omega⟩, hb2289⟩, ⟨by omega, by omega⟩⟩ (hP.sub (ws' := [(z1, .inr (0, [.ref z2, .ref z3, .ref z4, .ref z5, .ref z6, .ref z7, .int x2286])), (z2, .inl (T 0, 121, .inl f2287)), (z3, .inl (T 0, 121, .inl f2288)), (z4, .inl (T 0, 121, .inl f2290)), (z5, .inl (T 0, 121, .inl f2291)), (z6, .inl (T 0, 121, .inl f2292)), (z7, .inl (T 0, 121, .inl f2296))]) [0, 1, 2, 3, 4, 5, 6] rfl) (hD.sub (ws' := [(z1, .inr (0, [.ref z2, .ref z3, .ref z4, .ref z5, .ref z6, .ref z7, .int x2286])), (z2, .inl (T 0, 121, .inl f2287)), (z3, .inl (T 0, 121, .inl f2288)), (z4, .inl (T 0, 121, .inl f2290)), (z5, .inl (T 0, 121, .inl f2291)), (z6, .inl (T 0, 121, .inl f2292)), (z7, .inl (T 0, 121, .inl f2296))]) [0, 1, 2, 3, 4, 5, 6] (by decide +kernel) rfl)
  refine lv_icmp_eq (tgt := 22) hx hb dX0_addVoid_12 (by decide) (fun c2294 => ?_) (fun c2294 => ?_)
  · skip
    have kc2294 : x2283.toInt = (-1) := eq_ti rfl (by decide) c2294
    exact J2297 f2293 _ _ ls (hP.sub (ws' := [(z1, .inr (0, [.ref z2, .ref z3, .ref z4, .ref z5, .ref z6, .ref z7, .int x2286])), (z2, .inl (T 0, 121, .inl f2287)), (z3, .inl (T 0, 121, .inl f2288)), (z4, .inl (T 0, 121, .inl f2290)), (z5, .inl (T 0, 121, .inl f2291)), (z6, .inl (T 0, 121, .inl f2292)), (z7, .inl (T 0, 121, .inl f2293))]) [0, 1, 2, 3, 4, 5, 6] rfl) (hD.sub (ws' := [(z1, .inr (0, [.ref z2, .ref z3, .ref z4, .ref z5, .ref z6, .ref z7, .int x2286])), (z2, .inl (T 0, 121, .inl f2287)), (z3, .inl (T 0, 121, .inl f2288)), (z4, .inl (T 0, 121, .inl f2290)), (z5, .inl (T 0, 121, .inl f2291)), (z6, .inl (T 0, 121, .inl f2292)), (z7, .inl (T 0, 121, .inl f2293))]) [0, 1, 2, 3, 4, 5, 6] (by decide +kernel) rfl) hS (lv_sub hl [0, 1, 2] rfl)
  · skip
    have kc2294 : x2283.toInt ≠ (-1) := ne_ti rfl (by decide) c2294
    refine lv_aload_n hx hb dX0_addVoid_15 rfl (lv_at hl 1 rfl) ?_
    refine r_get (v := .ref z7) C0 hE ffX0_5 mw_55 hP 0 rfl rfl dX0_addVoid_16 ?_
    refine lv_iload_n hx hb dX0_addVoid_19 rfl (lv_at hl 2 rfl) ?_
    refine lv_iload_n hx hb dX0_addVoid_20 rfl (lv_at hl 0 rfl) ?_
    refine r_iastO hx hb hK hP hD hS 6 rfl (in_ti rfl (by omega) (by omega)) dX0_addVoid_21 (fun f2298 H locs hP hD hS => ?_)
    have hP : va_P D vwCl [(z1, .inr (0, [.ref z2, .ref z3, .ref z4, .ref z5, .ref z6, .ref z7, .int x2286])), (z2, .inl (T 0, 121, .inl f2287)), (z3, .inl (T 0, 121, .inl f2288)), (z4, .inl (T 0, 121, .inl f2290)), (z5, .inl (T 0, 121, .inl f2291)), (z6, .inl (T 0, 121, .inl f2292)), (z7, .inl (T 0, 121, .inl f2298))] H := hP
    have hD : va_D A [(z1, .inr (0, [.ref z2, .ref z3, .ref z4, .ref z5, .ref z6, .ref z7, .int x2286])), (z2, .inl (T 0, 121, .inl f2287)), (z3, .inl (T 0, 121, .inl f2288)), (z4, .inl (T 0, 121, .inl f2290)), (z5, .inl (T 0, 121, .inl f2291)), (z6, .inl (T 0, 121, .inl f2292)), (z7, .inl (T 0, 121, .inl f2298))] := hD
    exact J2297 f2298 _ _ ls (hP.sub (ws' := [(z1, .inr (0, [.ref z2, .ref z3, .ref z4, .ref z5, .ref z6, .ref z7, .int x2286])), (z2, .inl (T 0, 121, .inl f2287)), (z3, .inl (T 0, 121, .inl f2288)), (z4, .inl (T 0, 121, .inl f2290)), (z5, .inl (T 0, 121, .inl f2291)), (z6, .inl (T 0, 121, .inl f2292)), (z7, .inl (T 0, 121, .inl f2298))]) [0, 1, 2, 3, 4, 5, 6] rfl) (hD.sub (ws' := [(z1, .inr (0, [.ref z2, .ref z3, .ref z4, .ref z5, .ref z6, .ref z7, .int x2286])), (z2, .inl (T 0, 121, .inl f2287)), (z3, .inl (T 0, 121, .inl f2288)), (z4, .inl (T 0, 121, .inl f2290)), (z5, .inl (T 0, 121, .inl f2291)), (z6, .inl (T 0, 121, .inl f2292)), (z7, .inl (T 0, 121, .inl f2298))]) [0, 1, 2, 3, 4, 5, 6] (by decide +kernel) rfl) hS (lv_sub hl [0, 1, 2] rfl)
def B_X2 (T : Nat → ClassId) (a r0 r1 r2 r3 r4 r5 r6 r7 : Nat) (w : va_W) : Prop := ∃ (v8 : Int32), ∃ (v9 : Int32), ∃ (v10 : Int32), ∃ (v11 : Int32), ∃ (g0 : Nat → Int32), ∃ (g1 : Nat → Int32), ∃ (g2 : Nat → Int32), ∃ (g3 : Nat → Int32), ∃ (g4 : Nat → Int32), ∃ (g5 : Nat → Int32), w = [(a, .inr (2, [.ref r0, .ref r1, .ref r2, .ref r3, .ref r4, .ref r5, .ref r6, .ref r7, .int v8, .int v9, .int v10, .int v11])), (r0, .inl (T 0, 64, .inl g0)), (r1, .inl (T 0, 64, .inl g1)), (r2, .inl (T 0, 64, .inl g2)), (r3, .inl (T 0, 64, .inl g3)), (r4, .inl (T 0, 64, .inl g4)), (r5, .inl (T 0, 1200, .inl g5))] ∧ (0 ≤ v8.toInt ∧ v8.toInt ≤ 1200) ∧ (1 ≤ v9.toInt ∧ v9.toInt ≤ 64) ∧ (1 ≤ v10.toInt ∧ v10.toInt ≤ 8) ∧ (0 ≤ v11.toInt ∧ v11.toInt ≤ 120)
set_option maxHeartbeats 4000000 in
set_option maxRecDepth 100000 in
theorem g_X2_hasHook_2433 (l : Launch) (D : va_G) (T : Nat → ClassId) (sq sv sz : Nat) (z1 : Nat) (z2 : Nat) (z3 : Nat) (z4 : Nat) (z5 : Nat) (z6 : Nat) (z7 : Nat) (z8 : Nat) (z9 : Nat) (p1 : Int32) (w1 : va_W) (hw1 : B_X2 T z1 z2 z3 z4 z5 z6 z7 z8 z9 w1) (hp1 : 0 ≤ p1.toInt ∧ p1.toInt ≤ 63) : Met l yX2_hasHook (.code yX2_hasHook cX2_hasHook 2 (some .boolean) :: TB) { frames := 0, cells := 0, slots := 0, locals := 0 } (PC2 D T sq sv [.ref z1, .int p1] (w1) sz) (Qi (S := Unit) (fun (r : Int32) (_ : Unit) => (0 ≤ r.toInt ∧ r.toInt ≤ 1)) (fun (_ : Unit) => w1) D (va_A (w1) sz)) 0 0 (va_A (w1) sz) := by
  obtain ⟨x2444, x2445, x2446, x2447, f2448, f2449, f2450, f2451, f2452, f2453, rfl, hx2444, hx2445, hx2446, hx2447⟩ := hw1
  refine ct_begin2 (Qc := Qi (S := Unit) (fun (r : Int32) (_ : Unit) => (0 ≤ r.toInt ∧ r.toInt ≤ 1)) (fun (_ : Unit) => ([(z1, .inr (2, [.ref z2, .ref z3, .ref z4, .ref z5, .ref z6, .ref z7, .ref z8, .ref z9, .int x2444, .int x2445, .int x2446, .int x2447])), (z2, .inl (T 0, 64, .inl f2448)), (z3, .inl (T 0, 64, .inl f2449)), (z4, .inl (T 0, 64, .inl f2450)), (z5, .inl (T 0, 64, .inl f2451)), (z6, .inl (T 0, 64, .inl f2452)), (z7, .inl (T 0, 1200, .inl f2453))] : va_W)) D) (by decide +kernel) (Nat.le_of_ble_eq_true rfl) ?_
  intro p e s m below meth c A ls C0 hr hlocks hnm hE hStr hA hP hD hl
  generalize ([.ref z1, .int p1] : List Value).toArray = args at C0 ⊢
  have hx := C0.1
  have hb := C0.2.1
  have hml := C0.2.2.1
  have hown := C0.2.2.2.1
  have hT := C0.2.2.2.2
  have hK := hE.1
  generalize hH : s.heap = H at hP ⊢
  have hS : va_S A s.heap H [] := by rw [← hH]; exact va_S.rf
  have hP : va_P D vwCl [(z1, .inr (2, [.ref z2, .ref z3, .ref z4, .ref z5, .ref z6, .ref z7, .ref z8, .ref z9, .int x2444, .int x2445, .int x2446, .int x2447])), (z2, .inl (T 0, 64, .inl f2448)), (z3, .inl (T 0, 64, .inl f2449)), (z4, .inl (T 0, 64, .inl f2450)), (z5, .inl (T 0, 64, .inl f2451)), (z6, .inl (T 0, 64, .inl f2452)), (z7, .inl (T 0, 1200, .inl f2453))] H := hP
  have hD : va_D A [(z1, .inr (2, [.ref z2, .ref z3, .ref z4, .ref z5, .ref z6, .ref z7, .ref z8, .ref z9, .int x2444, .int x2445, .int x2446, .int x2447])), (z2, .inl (T 0, 64, .inl f2448)), (z3, .inl (T 0, 64, .inl f2449)), (z4, .inl (T 0, 64, .inl f2450)), (z5, .inl (T 0, 64, .inl f2451)), (z6, .inl (T 0, 64, .inl f2452)), (z7, .inl (T 0, 1200, .inl f2453))] := hD
  have hl : lv_has ls 2 [(0, .ref z1), (1, .int p1)] := hl
  refine lv_aload_n hx hb dX2_hasHook_0 rfl (lv_at hl 0 rfl) ?_
  refine r_get (v := .ref z2) C0 hE ffX2_0 mw_108 hP 0 rfl rfl dX2_hasHook_1 ?_
  refine lv_iload_n hx hb dX2_hasHook_4 rfl (lv_at hl 1 rfl) ?_
  refine va_iald hx hb hK hP 1 0 rfl rfl (in_ti rfl (by omega) (by omega)) dX2_hasHook_5 ?_
  refine lv_topi (fun x2454 ex2454 => ?_)
  refine lv_iconst (v := (-1)) hx hb dX2_hasHook_6 (by decide) ?_
  have J2457 : ∀ (x2456 : Int32) (H : Heap) (locs : List Loc) (ls : Array Slot), (0 ≤ x2456.toInt ∧ x2456.toInt ≤ 1) → va_P D vwCl [(z1, .inr (2, [.ref z2, .ref z3, .ref z4, .ref z5, .ref z6, .ref z7, .ref z8, .ref z9, .int x2444, .int x2445, .int x2446, .int x2447])), (z2, .inl (T 0, 64, .inl f2448)), (z3, .inl (T 0, 64, .inl f2449)), (z4, .inl (T 0, 64, .inl f2450)), (z5, .inl (T 0, 64, .inl f2451)), (z6, .inl (T 0, 64, .inl f2452)), (z7, .inl (T 0, 1200, .inl f2453))] H → va_D A [(z1, .inr (2, [.ref z2, .ref z3, .ref z4, .ref z5, .ref z6, .ref z7, .ref z8, .ref z9, .int x2444, .int x2445, .int x2446, .int x2447])), (z2, .inl (T 0, 64, .inl f2448)), (z3, .inl (T 0, 64, .inl f2449)), (z4, .inl (T 0, 64, .inl f2450)), (z5, .inl (T 0, 64, .inl f2451)), (z6, .inl (T 0, 64, .inl f2452)), (z7, .inl (T 0, 1200, .inl f2453))] → va_S A s.heap H locs → lv_has ls 2 [(0, .ref z1), (1, .int p1)] → W p l e { frames := 0, cells := 0, slots := 0, locals := 0 } s m args below meth c H locs 0 0 (MQ below ((Qi (S := Unit) (fun (r : Int32) (_ : Unit) => (0 ≤ r.toInt ∧ r.toInt ≤ 1)) (fun (_ : Unit) => ([(z1, .inr (2, [.ref z2, .ref z3, .ref z4, .ref z5, .ref z6, .ref z7, .ref z8, .ref z9, .int x2444, .int x2445, .int x2446, .int x2447])), (z2, .inl (T 0, 64, .inl f2448)), (z3, .inl (T 0, 64, .inl f2449)), (z4, .inl (T 0, 64, .inl f2450)), (z5, .inl (T 0, 64, .inl f2451)), (z6, .inl (T 0, 64, .inl f2452)), (z7, .inl (T 0, 1200, .inl f2453))] : va_W)) D) A) args s 0 0 A) (F0 m 15 ls [.int x2456]) := by
    intro x2456 H locs ls hx2456 hP hD hS hl
    exact r_zret () C0 hr (bool_nar ⟨by omega, by omega⟩) hlocks hS (Nat.le_refl _) (Nat.le_refl _) dX2_hasHook_15 ⟨by omega, by omega⟩ (hP.sub (ws' := [(z1, .inr (2, [.ref z2, .ref z3, .ref z4, .ref z5, .ref z6, .ref z7, .ref z8, .ref z9, .int x2444, .int x2445, .int x2446, .int x2447])), (z2, .inl (T 0, 64, .inl f2448)), (z3, .inl (T 0, 64, .inl f2449)), (z4, .inl (T 0, 64, .inl f2450)), (z5, .inl (T 0, 64, .inl f2451)), (z6, .inl (T 0, 64, .inl f2452)), (z7, .inl (T 0, 1200, .inl f2453))]) [0, 1, 2, 3, 4, 5, 6] rfl) (hD.sub (ws' := [(z1, .inr (2, [.ref z2, .ref z3, .ref z4, .ref z5, .ref z6, .ref z7, .ref z8, .ref z9, .int x2444, .int x2445, .int x2446, .int x2447])), (z2, .inl (T 0, 64, .inl f2448)), (z3, .inl (T 0, 64, .inl f2449)), (z4, .inl (T 0, 64, .inl f2450)), (z5, .inl (T 0, 64, .inl f2451)), (z6, .inl (T 0, 64, .inl f2452)), (z7, .inl (T 0, 1200, .inl f2453))]) [0, 1, 2, 3, 4, 5, 6] (by decide +kernel) rfl)
  refine lv_icmp_eq (tgt := 14) hx hb dX2_hasHook_7 (by decide) (fun c2455 => ?_) (fun c2455 => ?_)
  · skip
    have kc2455 : x2454.toInt = (-1) := eq_ti rfl (by decide) c2455
    refine lv_iconst (v := 0) hx hb dX2_hasHook_14 (by decide) ?_
    exact J2457 0 _ _ ls ⟨by decide, by decide⟩ (hP.sub (ws' := [(z1, .inr (2, [.ref z2, .ref z3, .ref z4, .ref z5, .ref z6, .ref z7, .ref z8, .ref z9, .int x2444, .int x2445, .int x2446, .int x2447])), (z2, .inl (T 0, 64, .inl f2448)), (z3, .inl (T 0, 64, .inl f2449)), (z4, .inl (T 0, 64, .inl f2450)), (z5, .inl (T 0, 64, .inl f2451)), (z6, .inl (T 0, 64, .inl f2452)), (z7, .inl (T 0, 1200, .inl f2453))]) [0, 1, 2, 3, 4, 5, 6] rfl) (hD.sub (ws' := [(z1, .inr (2, [.ref z2, .ref z3, .ref z4, .ref z5, .ref z6, .ref z7, .ref z8, .ref z9, .int x2444, .int x2445, .int x2446, .int x2447])), (z2, .inl (T 0, 64, .inl f2448)), (z3, .inl (T 0, 64, .inl f2449)), (z4, .inl (T 0, 64, .inl f2450)), (z5, .inl (T 0, 64, .inl f2451)), (z6, .inl (T 0, 64, .inl f2452)), (z7, .inl (T 0, 1200, .inl f2453))]) [0, 1, 2, 3, 4, 5, 6] (by decide +kernel) rfl) hS (lv_sub hl [0, 1] rfl)
  · skip
    have kc2455 : x2454.toInt ≠ (-1) := ne_ti rfl (by decide) c2455
    refine lv_iconst (v := 1) hx hb dX2_hasHook_10 (by decide) ?_
    refine lv_goto (tgt := 15) hx hb dX2_hasHook_11 (by decide) ?_
    exact J2457 1 _ _ ls ⟨by decide, by decide⟩ (hP.sub (ws' := [(z1, .inr (2, [.ref z2, .ref z3, .ref z4, .ref z5, .ref z6, .ref z7, .ref z8, .ref z9, .int x2444, .int x2445, .int x2446, .int x2447])), (z2, .inl (T 0, 64, .inl f2448)), (z3, .inl (T 0, 64, .inl f2449)), (z4, .inl (T 0, 64, .inl f2450)), (z5, .inl (T 0, 64, .inl f2451)), (z6, .inl (T 0, 64, .inl f2452)), (z7, .inl (T 0, 1200, .inl f2453))]) [0, 1, 2, 3, 4, 5, 6] rfl) (hD.sub (ws' := [(z1, .inr (2, [.ref z2, .ref z3, .ref z4, .ref z5, .ref z6, .ref z7, .ref z8, .ref z9, .int x2444, .int x2445, .int x2446, .int x2447])), (z2, .inl (T 0, 64, .inl f2448)), (z3, .inl (T 0, 64, .inl f2449)), (z4, .inl (T 0, 64, .inl f2450)), (z5, .inl (T 0, 64, .inl f2451)), (z6, .inl (T 0, 64, .inl f2452)), (z7, .inl (T 0, 1200, .inl f2453))]) [0, 1, 2, 3, 4, 5, 6] (by decide +kernel) rfl) hS (lv_sub hl [0, 1] rfl)
set_option maxHeartbeats 4000000 in
set_option maxRecDepth 100000 in
theorem g_X2_countHooks_3515 (l : Launch) (D : va_G) (T : Nat → ClassId) (sq sv sz : Nat) (z1 : Nat) (z2 : Nat) (z3 : Nat) (z4 : Nat) (z5 : Nat) (z6 : Nat) (z7 : Nat) (z8 : Nat) (z9 : Nat) (w1 : va_W) (hw1 : B_X2 T z1 z2 z3 z4 z5 z6 z7 z8 z9 w1) : Met l yX2_countHooks (.code yX2_countHooks cX2_countHooks 3 (some .int) :: TB) { frames := 1, cells := 0, slots := 0, locals := 21 } (PC2 D T sq sv [.ref z1] (w1) sz) (Qi (S := Unit) (fun (r : Int32) (_ : Unit) => True) (fun (_ : Unit) => w1) D (va_A (w1) sz)) 0 0 (va_A (w1) sz) := by
  obtain ⟨x3526, x3527, x3528, x3529, f3530, f3531, f3532, f3533, f3534, f3535, rfl, hx3526, hx3527, hx3528, hx3529⟩ := hw1
  refine ct_begin2 (Qc := Qi (S := Unit) (fun (r : Int32) (_ : Unit) => True) (fun (_ : Unit) => ([(z1, .inr (2, [.ref z2, .ref z3, .ref z4, .ref z5, .ref z6, .ref z7, .ref z8, .ref z9, .int x3526, .int x3527, .int x3528, .int x3529])), (z2, .inl (T 0, 64, .inl f3530)), (z3, .inl (T 0, 64, .inl f3531)), (z4, .inl (T 0, 64, .inl f3532)), (z5, .inl (T 0, 64, .inl f3533)), (z6, .inl (T 0, 64, .inl f3534)), (z7, .inl (T 0, 1200, .inl f3535))] : va_W)) D) (by decide +kernel) (Nat.le_of_ble_eq_true rfl) ?_
  intro p e s m below meth c A ls C0 hr hlocks hnm hE hStr hA hP hD hl
  generalize ([.ref z1] : List Value).toArray = args at C0 ⊢
  have hx := C0.1
  have hb := C0.2.1
  have hml := C0.2.2.1
  have hown := C0.2.2.2.1
  have hT := C0.2.2.2.2
  have hK := hE.1
  generalize hH : s.heap = H at hP ⊢
  have hS : va_S A s.heap H [] := by rw [← hH]; exact va_S.rf
  have hP : va_P D vwCl [(z1, .inr (2, [.ref z2, .ref z3, .ref z4, .ref z5, .ref z6, .ref z7, .ref z8, .ref z9, .int x3526, .int x3527, .int x3528, .int x3529])), (z2, .inl (T 0, 64, .inl f3530)), (z3, .inl (T 0, 64, .inl f3531)), (z4, .inl (T 0, 64, .inl f3532)), (z5, .inl (T 0, 64, .inl f3533)), (z6, .inl (T 0, 64, .inl f3534)), (z7, .inl (T 0, 1200, .inl f3535))] H := hP
  have hD : va_D A [(z1, .inr (2, [.ref z2, .ref z3, .ref z4, .ref z5, .ref z6, .ref z7, .ref z8, .ref z9, .int x3526, .int x3527, .int x3528, .int x3529])), (z2, .inl (T 0, 64, .inl f3530)), (z3, .inl (T 0, 64, .inl f3531)), (z4, .inl (T 0, 64, .inl f3532)), (z5, .inl (T 0, 64, .inl f3533)), (z6, .inl (T 0, 64, .inl f3534)), (z7, .inl (T 0, 1200, .inl f3535))] := hD
  have hl : lv_has ls 3 [(0, .ref z1)] := hl
  refine lv_iconst (v := 0) hx hb dX2_countHooks_0 (by decide) ?_
  refine lv_istore_n (lv' := [(1, .int 0), (0, .ref z1)]) hx hb dX2_countHooks_1 rfl hl (by decide) rfl (fun ls hl => ?_)
  refine lv_iconst (v := 0) hx hb dX2_countHooks_2 (by decide) ?_
  refine lv_istore_n (lv' := [(2, .int 0), (1, .int 0), (0, .ref z1)]) hx hb dX2_countHooks_3 rfl hl (by decide) rfl (fun ls hl => ?_)
  have L3988 : ∀ (n : Nat) (x3980 : Int32) (x3981 : Int32) (H : Heap) (locs : List Loc) (ls : Array Slot), (0 ≤ x3980.toInt ∧ x3980.toInt ≤ 64) → (65 - x3980.toInt).toNat < n → va_P D vwCl [(z1, .inr (2, [.ref z2, .ref z3, .ref z4, .ref z5, .ref z6, .ref z7, .ref z8, .ref z9, .int x3526, .int x3527, .int x3528, .int x3529])), (z2, .inl (T 0, 64, .inl f3530)), (z3, .inl (T 0, 64, .inl f3531)), (z4, .inl (T 0, 64, .inl f3532)), (z5, .inl (T 0, 64, .inl f3533)), (z6, .inl (T 0, 64, .inl f3534)), (z7, .inl (T 0, 1200, .inl f3535))] H → va_D A [(z1, .inr (2, [.ref z2, .ref z3, .ref z4, .ref z5, .ref z6, .ref z7, .ref z8, .ref z9, .int x3526, .int x3527, .int x3528, .int x3529])), (z2, .inl (T 0, 64, .inl f3530)), (z3, .inl (T 0, 64, .inl f3531)), (z4, .inl (T 0, 64, .inl f3532)), (z5, .inl (T 0, 64, .inl f3533)), (z6, .inl (T 0, 64, .inl f3534)), (z7, .inl (T 0, 1200, .inl f3535))] → va_S A s.heap H locs → lv_has ls 3 [(2, .int x3980), (1, .int x3981), (0, .ref z1)] → W p l e { frames := 1, cells := 0, slots := 0, locals := 21 } s m args below meth c H locs 0 0 (MQ below ((Qi (S := Unit) (fun (r : Int32) (_ : Unit) => True) (fun (_ : Unit) => ([(z1, .inr (2, [.ref z2, .ref z3, .ref z4, .ref z5, .ref z6, .ref z7, .ref z8, .ref z9, .int x3526, .int x3527, .int x3528, .int x3529])), (z2, .inl (T 0, 64, .inl f3530)), (z3, .inl (T 0, 64, .inl f3531)), (z4, .inl (T 0, 64, .inl f3532)), (z5, .inl (T 0, 64, .inl f3533)), (z6, .inl (T 0, 64, .inl f3534)), (z7, .inl (T 0, 1200, .inl f3535))] : va_W)) D) A) args s 0 0 A) (F0 m 4 ls []) := by
    intro n
    induction n with
    | zero =>
      intro x3980 x3981 H locs ls hx3980 hms hP hD hS hl
      exact absurd hms (Nat.not_lt_zero _)
    | succ n ih =>
      intro x3980 x3981 H locs ls hx3980 hms hP hD hS hl
      refine lv_iload_n hx hb dX2_countHooks_4 rfl (lv_at hl 0 rfl) ?_
      refine lv_aload_n hx hb dX2_countHooks_5 rfl (lv_at hl 2 rfl) ?_
      refine r_get (v := .int x3527) C0 hE ffX2_9 mw_126 hP 0 rfl rfl dX2_countHooks_6 ?_
      refine lv_icmp_ge (tgt := 29) hx hb dX2_countHooks_9 (by decide) (fun c3989 => ?_) (fun c3989 => ?_)
      · skip
        have kc3989 : x3527.toInt ≤ x3980.toInt := le_ti rfl rfl c3989
        refine lv_iload_n hx hb dX2_countHooks_29 rfl (lv_at hl 1 rfl) ?_
        exact r_iret () C0 hr hlocks hS (Nat.le_refl _) (Nat.le_refl _) dX2_countHooks_30 trivial (hP.sub (ws' := [(z1, .inr (2, [.ref z2, .ref z3, .ref z4, .ref z5, .ref z6, .ref z7, .ref z8, .ref z9, .int x3526, .int x3527, .int x3528, .int x3529])), (z2, .inl (T 0, 64, .inl f3530)), (z3, .inl (T 0, 64, .inl f3531)), (z4, .inl (T 0, 64, .inl f3532)), (z5, .inl (T 0, 64, .inl f3533)), (z6, .inl (T 0, 64, .inl f3534)), (z7, .inl (T 0, 1200, .inl f3535))]) [0, 1, 2, 3, 4, 5, 6] rfl) (hD.sub (ws' := [(z1, .inr (2, [.ref z2, .ref z3, .ref z4, .ref z5, .ref z6, .ref z7, .ref z8, .ref z9, .int x3526, .int x3527, .int x3528, .int x3529])), (z2, .inl (T 0, 64, .inl f3530)), (z3, .inl (T 0, 64, .inl f3531)), (z4, .inl (T 0, 64, .inl f3532)), (z5, .inl (T 0, 64, .inl f3533)), (z6, .inl (T 0, 64, .inl f3534)), (z7, .inl (T 0, 1200, .inl f3535))]) [0, 1, 2, 3, 4, 5, 6] (by decide +kernel) rfl)
      · skip
        have kc3989 : x3980.toInt < x3527.toInt := nle_ti rfl rfl c3989
        refine lv_aload_n hx hb dX2_countHooks_12 rfl (lv_at hl 2 rfl) ?_
        refine lv_iload_n hx hb dX2_countHooks_13 rfl (lv_at hl 0 rfl) ?_
        refine r_calli (wr := []) (r_runV2 (As := [.int x3980]) (rest := []) (wc := [(z1, .inr (2, [.ref z2, .ref z3, .ref z4, .ref z5, .ref z6, .ref z7, .ref z8, .ref z9, .int x3526, .int x3527, .int x3528, .int x3529])), (z2, .inl (T 0, 64, .inl f3530)), (z3, .inl (T 0, 64, .inl f3531)), (z4, .inl (T 0, 64, .inl f3532)), (z5, .inl (T 0, 64, .inl f3533)), (z6, .inl (T 0, 64, .inl f3534)), (z7, .inl (T 0, 1200, .inl f3535))]) (ci := 2) C0 hE hStr hS (va_free (wc := [(z1, .inr (2, [.ref z2, .ref z3, .ref z4, .ref z5, .ref z6, .ref z7, .ref z8, .ref z9, .int x3526, .int x3527, .int x3528, .int x3529])), (z2, .inl (T 0, 64, .inl f3530)), (z3, .inl (T 0, 64, .inl f3531)), (z4, .inl (T 0, 64, .inl f3532)), (z5, .inl (T 0, 64, .inl f3533)), (z6, .inl (T 0, 64, .inl f3534)), (z7, .inl (T 0, 1200, .inl f3535))]) hD hS hA [0, 1, 2, 3, 4, 5, 6] rfl) (g_X2_hasHook_2433 l D T sq sv H.size z1 z2 z3 z4 z5 z6 z7 z8 z9 x3980 [(z1, .inr (2, [.ref z2, .ref z3, .ref z4, .ref z5, .ref z6, .ref z7, .ref z8, .ref z9, .int x3526, .int x3527, .int x3528, .int x3529])), (z2, .inl (T 0, 64, .inl f3530)), (z3, .inl (T 0, 64, .inl f3531)), (z4, .inl (T 0, 64, .inl f3532)), (z5, .inl (T 0, 64, .inl f3533)), (z6, .inl (T 0, 64, .inl f3534)), (z7, .inl (T 0, 1200, .inl f3535))] (⟨x3526, x3527, x3528, x3529, f3530, f3531, f3532, f3533, f3534, f3535, rfl, ⟨by omega, by omega⟩, ⟨by omega, by omega⟩, ⟨by omega, by omega⟩, ⟨by omega, by omega⟩⟩) (⟨by omega, by omega⟩)) mw_514 mw_515 mw_516 mw_4 mw_517 dn_1590 rfl rfl ⟨Nat.le_of_ble_eq_true rfl, Nat.le_of_ble_eq_true rfl⟩ (hP.sub (ws' := [(z1, .inr (2, [.ref z2, .ref z3, .ref z4, .ref z5, .ref z6, .ref z7, .ref z8, .ref z9, .int x3526, .int x3527, .int x3528, .int x3529])), (z2, .inl (T 0, 64, .inl f3530)), (z3, .inl (T 0, 64, .inl f3531)), (z4, .inl (T 0, 64, .inl f3532)), (z5, .inl (T 0, 64, .inl f3533)), (z6, .inl (T 0, 64, .inl f3534)), (z7, .inl (T 0, 1200, .inl f3535))]) [0, 1, 2, 3, 4, 5, 6] rfl) (hD.sub (ws' := [(z1, .inr (2, [.ref z2, .ref z3, .ref z4, .ref z5, .ref z6, .ref z7, .ref z8, .ref z9, .int x3526, .int x3527, .int x3528, .int x3529])), (z2, .inl (T 0, 64, .inl f3530)), (z3, .inl (T 0, 64, .inl f3531)), (z4, .inl (T 0, 64, .inl f3532)), (z5, .inl (T 0, 64, .inl f3533)), (z6, .inl (T 0, 64, .inl f3534)), (z7, .inl (T 0, 1200, .inl f3535))]) [0, 1, 2, 3, 4, 5, 6] (by decide +kernel) rfl) rfl rfl rfl hl.1 rfl (Nat.le_of_ble_eq_true rfl) dX2_countHooks_14 ⟨Nat.le_of_ble_eq_true rfl, Nat.le_of_ble_eq_true rfl⟩) hP hD hS hA [0, 1, 2, 3, 4, 5, 6] [] rfl rfl (by decide +kernel) (by decide +kernel) (fun x3995 u H locs hq hP hD hS => ?_)
        have hx3995 : 0 ≤ x3995.toInt ∧ x3995.toInt ≤ 1 := hq
        have hP : va_P D vwCl [(z1, .inr (2, [.ref z2, .ref z3, .ref z4, .ref z5, .ref z6, .ref z7, .ref z8, .ref z9, .int x3526, .int x3527, .int x3528, .int x3529])), (z2, .inl (T 0, 64, .inl f3530)), (z3, .inl (T 0, 64, .inl f3531)), (z4, .inl (T 0, 64, .inl f3532)), (z5, .inl (T 0, 64, .inl f3533)), (z6, .inl (T 0, 64, .inl f3534)), (z7, .inl (T 0, 1200, .inl f3535))] H := hP
        have hD : va_D A [(z1, .inr (2, [.ref z2, .ref z3, .ref z4, .ref z5, .ref z6, .ref z7, .ref z8, .ref z9, .int x3526, .int x3527, .int x3528, .int x3529])), (z2, .inl (T 0, 64, .inl f3530)), (z3, .inl (T 0, 64, .inl f3531)), (z4, .inl (T 0, 64, .inl f3532)), (z5, .inl (T 0, 64, .inl f3533)), (z6, .inl (T 0, 64, .inl f3534)), (z7, .inl (T 0, 1200, .inl f3535))] := hD
        refine W.widen (k := 0) (n := 0) (Nat.le_refl _) (Nat.le_refl _) ?_
        have J3999 : ∀ (x3998 : Int32) (H : Heap) (locs : List Loc) (ls : Array Slot), va_P D vwCl [(z1, .inr (2, [.ref z2, .ref z3, .ref z4, .ref z5, .ref z6, .ref z7, .ref z8, .ref z9, .int x3526, .int x3527, .int x3528, .int x3529])), (z2, .inl (T 0, 64, .inl f3530)), (z3, .inl (T 0, 64, .inl f3531)), (z4, .inl (T 0, 64, .inl f3532)), (z5, .inl (T 0, 64, .inl f3533)), (z6, .inl (T 0, 64, .inl f3534)), (z7, .inl (T 0, 1200, .inl f3535))] H → va_D A [(z1, .inr (2, [.ref z2, .ref z3, .ref z4, .ref z5, .ref z6, .ref z7, .ref z8, .ref z9, .int x3526, .int x3527, .int x3528, .int x3529])), (z2, .inl (T 0, 64, .inl f3530)), (z3, .inl (T 0, 64, .inl f3531)), (z4, .inl (T 0, 64, .inl f3532)), (z5, .inl (T 0, 64, .inl f3533)), (z6, .inl (T 0, 64, .inl f3534)), (z7, .inl (T 0, 1200, .inl f3535))] → va_S A s.heap H locs → lv_has ls 3 [(2, .int x3980), (1, .int x3998), (0, .ref z1)] → W p l e { frames := 1, cells := 0, slots := 0, locals := 21 } s m args below meth c H locs 0 0 (MQ below ((Qi (S := Unit) (fun (r : Int32) (_ : Unit) => True) (fun (_ : Unit) => ([(z1, .inr (2, [.ref z2, .ref z3, .ref z4, .ref z5, .ref z6, .ref z7, .ref z8, .ref z9, .int x3526, .int x3527, .int x3528, .int x3529])), (z2, .inl (T 0, 64, .inl f3530)), (z3, .inl (T 0, 64, .inl f3531)), (z4, .inl (T 0, 64, .inl f3532)), (z5, .inl (T 0, 64, .inl f3533)), (z6, .inl (T 0, 64, .inl f3534)), (z7, .inl (T 0, 1200, .inl f3535))] : va_W)) D) A) args s 0 0 A) (F0 m 23 ls []) := by
          intro x3998 H locs ls hP hD hS hl
          obtain ⟨x4000, ex4000⟩ : ∃ y : Int32, y = x3980 + 1 := ⟨_, rfl⟩
          have hx4000 : x4000.toInt = x3980.toInt + 1 := ti_add ex4000 rfl (by decide) (by omega) (by omega)
          refine lv_iinc (v := x4000) (lv' := [(2, .int x4000), (1, .int x3998), (0, .ref z1)]) hx hb dX2_countHooks_23 hl (k := 0) rfl (by rw [ex4000]; rfl) (by decide) rfl (fun ls hl => ?_)
          refine lv_goto (tgt := 4) hx hb dX2_countHooks_26 (by decide) ?_
          exact ih x4000 x3998 _ _ ls ⟨by omega, by omega⟩ (by omega) (hP.sub (ws' := [(z1, .inr (2, [.ref z2, .ref z3, .ref z4, .ref z5, .ref z6, .ref z7, .ref z8, .ref z9, .int x3526, .int x3527, .int x3528, .int x3529])), (z2, .inl (T 0, 64, .inl f3530)), (z3, .inl (T 0, 64, .inl f3531)), (z4, .inl (T 0, 64, .inl f3532)), (z5, .inl (T 0, 64, .inl f3533)), (z6, .inl (T 0, 64, .inl f3534)), (z7, .inl (T 0, 1200, .inl f3535))]) [0, 1, 2, 3, 4, 5, 6] rfl) (hD.sub (ws' := [(z1, .inr (2, [.ref z2, .ref z3, .ref z4, .ref z5, .ref z6, .ref z7, .ref z8, .ref z9, .int x3526, .int x3527, .int x3528, .int x3529])), (z2, .inl (T 0, 64, .inl f3530)), (z3, .inl (T 0, 64, .inl f3531)), (z4, .inl (T 0, 64, .inl f3532)), (z5, .inl (T 0, 64, .inl f3533)), (z6, .inl (T 0, 64, .inl f3534)), (z7, .inl (T 0, 1200, .inl f3535))]) [0, 1, 2, 3, 4, 5, 6] (by decide +kernel) rfl) hS (lv_sub hl [0, 1, 2] rfl)
        refine lv_if_eq (tgt := 23) hx hb dX2_countHooks_17 (by decide) (fun c3996 => ?_) (fun c3996 => ?_)
        · skip
          have kc3996 : x3995.toInt = 0 := eq_ti rfl (by decide) c3996
          exact J3999 x3981 _ _ ls (hP.sub (ws' := [(z1, .inr (2, [.ref z2, .ref z3, .ref z4, .ref z5, .ref z6, .ref z7, .ref z8, .ref z9, .int x3526, .int x3527, .int x3528, .int x3529])), (z2, .inl (T 0, 64, .inl f3530)), (z3, .inl (T 0, 64, .inl f3531)), (z4, .inl (T 0, 64, .inl f3532)), (z5, .inl (T 0, 64, .inl f3533)), (z6, .inl (T 0, 64, .inl f3534)), (z7, .inl (T 0, 1200, .inl f3535))]) [0, 1, 2, 3, 4, 5, 6] rfl) (hD.sub (ws' := [(z1, .inr (2, [.ref z2, .ref z3, .ref z4, .ref z5, .ref z6, .ref z7, .ref z8, .ref z9, .int x3526, .int x3527, .int x3528, .int x3529])), (z2, .inl (T 0, 64, .inl f3530)), (z3, .inl (T 0, 64, .inl f3531)), (z4, .inl (T 0, 64, .inl f3532)), (z5, .inl (T 0, 64, .inl f3533)), (z6, .inl (T 0, 64, .inl f3534)), (z7, .inl (T 0, 1200, .inl f3535))]) [0, 1, 2, 3, 4, 5, 6] (by decide +kernel) rfl) hS (lv_sub hl [0, 1, 2] rfl)
        · skip
          have kc3996 : x3995.toInt ≠ 0 := ne_ti rfl (by decide) c3996
          have nzx3995 : ¬ x3995 = 0 := c3996
          obtain ⟨x4001, ex4001⟩ : ∃ y : Int32, y = x3981 + 1 := ⟨_, rfl⟩
          refine lv_iinc (v := x4001) (lv' := [(1, .int x4001), (2, .int x3980), (0, .ref z1)]) hx hb dX2_countHooks_20 hl (k := 1) rfl (by rw [ex4001]; rfl) (by decide) rfl (fun ls hl => ?_)
          exact J3999 x4001 _ _ ls (hP.sub (ws' := [(z1, .inr (2, [.ref z2, .ref z3, .ref z4, .ref z5, .ref z6, .ref z7, .ref z8, .ref z9, .int x3526, .int x3527, .int x3528, .int x3529])), (z2, .inl (T 0, 64, .inl f3530)), (z3, .inl (T 0, 64, .inl f3531)), (z4, .inl (T 0, 64, .inl f3532)), (z5, .inl (T 0, 64, .inl f3533)), (z6, .inl (T 0, 64, .inl f3534)), (z7, .inl (T 0, 1200, .inl f3535))]) [0, 1, 2, 3, 4, 5, 6] rfl) (hD.sub (ws' := [(z1, .inr (2, [.ref z2, .ref z3, .ref z4, .ref z5, .ref z6, .ref z7, .ref z8, .ref z9, .int x3526, .int x3527, .int x3528, .int x3529])), (z2, .inl (T 0, 64, .inl f3530)), (z3, .inl (T 0, 64, .inl f3531)), (z4, .inl (T 0, 64, .inl f3532)), (z5, .inl (T 0, 64, .inl f3533)), (z6, .inl (T 0, 64, .inl f3534)), (z7, .inl (T 0, 1200, .inl f3535))]) [0, 1, 2, 3, 4, 5, 6] (by decide +kernel) rfl) hS (lv_sub hl [1, 0, 2] rfl)
  exact L3988 _ 0 0 _ _ ls ⟨by decide, by decide⟩ (Nat.lt_succ_self _) (hP.sub (ws' := [(z1, .inr (2, [.ref z2, .ref z3, .ref z4, .ref z5, .ref z6, .ref z7, .ref z8, .ref z9, .int x3526, .int x3527, .int x3528, .int x3529])), (z2, .inl (T 0, 64, .inl f3530)), (z3, .inl (T 0, 64, .inl f3531)), (z4, .inl (T 0, 64, .inl f3532)), (z5, .inl (T 0, 64, .inl f3533)), (z6, .inl (T 0, 64, .inl f3534)), (z7, .inl (T 0, 1200, .inl f3535))]) [0, 1, 2, 3, 4, 5, 6] rfl) (hD.sub (ws' := [(z1, .inr (2, [.ref z2, .ref z3, .ref z4, .ref z5, .ref z6, .ref z7, .ref z8, .ref z9, .int x3526, .int x3527, .int x3528, .int x3529])), (z2, .inl (T 0, 64, .inl f3530)), (z3, .inl (T 0, 64, .inl f3531)), (z4, .inl (T 0, 64, .inl f3532)), (z5, .inl (T 0, 64, .inl f3533)), (z6, .inl (T 0, 64, .inl f3534)), (z7, .inl (T 0, 1200, .inl f3535))]) [0, 1, 2, 3, 4, 5, 6] (by decide +kernel) rfl) hS (lv_sub hl [0, 1, 2] rfl)
