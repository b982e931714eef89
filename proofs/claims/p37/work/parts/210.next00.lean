set_option maxHeartbeats 4000000 in
set_option maxRecDepth 100000 in
theorem g_X7_ownWord_1002531 (l : Launch) (D : va_G) (T : Nat → ClassId) (sq sv sz : Nat) (z1 : Nat) (z2 : Nat) (z3 : Nat) (z4 : Nat) (w1 : va_W) (w2 : va_W) (hw1 : B_X7 T z1 z2 z3 w1) (hw2 : B_X9 T z2 z4 w2) : Met l yX7_ownWord (.code yX7_ownWord cX7_ownWord 6 (some .int) :: TB) { frames := 4, cells := 0, slots := 0, locals := 101 } (PC2 D T sq sv [.ref z1] (w1 ++ (w2)) sz) (Qi (S := Unit) (fun (r : Int32) (_ : Unit) => True) (fun (_ : Unit) => w1 ++ (w2)) D (va_A (w1 ++ (w2)) sz)) 0 0 (va_A (w1 ++ (w2)) sz) := by
  obtain ⟨x1002540, x1002541, x1002542, x1002543, x1002544, x1002545, rfl, hx1002541, hx1002542⟩ := hw1
  obtain ⟨x1002546, f1002547, rfl, hx1002546⟩ := hw2
  refine ct_begin2 (Qc := Qi (S := Unit) (fun (r : Int32) (_ : Unit) => True) (fun (_ : Unit) => ([(z1, .inr (7, [.ref z2, .ref z3, .int x1002540, .int x1002541, .int x1002542, .int x1002543, .int x1002544, .int x1002545]))] : va_W) ++ (([(z2, .inr (9, [.ref z4, .int x1002546])), (z4, .inl (T 2, 700, .inl f1002547))] : va_W))) D) (by decide +kernel) (Nat.le_of_ble_eq_true rfl) ?_
  intro p e s m below meth c A ls C0 hr hlocks hnm hE hStr hA hP hD hl
  generalize ([.ref z1] : List Value).toArray = args at C0 ⊢
  have hx := C0.1
  have hb := C0.2.1
  have hml := C0.2.2.1
  have hown := C0.2.2.2.1
  have hT := C0.2.2.2.2
  have hK := hE.1
  generalize hH : s.heap = H at hP ⊢
  have hS : va_S A s.heap H [] := by rw [← hH]; exact va_S.rf
  have hP : va_P D vwCl [(z1, .inr (7, [.ref z2, .ref z3, .int x1002540, .int x1002541, .int x1002542, .int x1002543, .int x1002544, .int x1002545])), (z2, .inr (9, [.ref z4, .int x1002546])), (z4, .inl (T 2, 700, .inl f1002547))] H := hP
  have hD : va_D A [(z1, .inr (7, [.ref z2, .ref z3, .int x1002540, .int x1002541, .int x1002542, .int x1002543, .int x1002544, .int x1002545])), (z2, .inr (9, [.ref z4, .int x1002546])), (z4, .inl (T 2, 700, .inl f1002547))] := hD
  have hl : lv_has ls 6 [(0, .ref z1)] := hl
  refine lv_iconst (v := 0) hx hb dX7_ownWord_0 (by decide) ?_
  refine lv_istore_n (lv' := [(1, .int 0), (0, .ref z1)]) hx hb dX7_ownWord_1 rfl hl (by decide) rfl (fun ls hl => ?_)
  refine lv_aload_n hx hb dX7_ownWord_2 rfl (lv_at hl 1 rfl) ?_
  refine r_get (v := .int x1002541) C0 hE ffX7_3 mw_227 hP 0 rfl rfl dX7_ownWord_3 ?_
  refine lv_istore_n (lv' := [(2, .int x1002541), (1, .int 0), (0, .ref z1)]) hx hb dX7_ownWord_6 rfl hl (by decide) rfl (fun ls hl => ?_)
  refine lv_iconst (v := 1) hx hb dX7_ownWord_7 (by decide) ?_
  refine lv_istore_n (lv' := [(3, .int 1), (2, .int x1002541), (1, .int 0), (0, .ref z1)]) hx hb dX7_ownWord_8 rfl hl (by decide) rfl (fun ls hl => ?_)
  refine lv_iconst (v := 0) hx hb dX7_ownWord_9 (by decide) ?_
  refine lv_istore (lv' := [(4, .int 0), (3, .int 1), (2, .int x1002541), (1, .int 0), (0, .ref z1)]) hx hb dX7_ownWord_10 hl (by decide) rfl (fun ls hl => ?_)
  have L1003733 : ∀ (n : Nat) (x1003712 : Int32) (x1003713 : Int32) (x1003714 : Int32) (x1003715 : Int32) (H : Heap) (locs : List Loc) (ls : Array Slot), (0 ≤ x1003712.toInt ∧ x1003712.toInt ≤ 105) → (0 ≤ x1003713.toInt ∧ x1003713.toInt ≤ 1) → (0 ≤ x1003714.toInt ∧ x1003714.toInt ≤ 805) → (x1003714.toInt ≤ x1002541.toInt + x1003712.toInt) → (106 - x1003712.toInt).toNat < n → va_P D vwCl [(z1, .inr (7, [.ref z2, .ref z3, .int x1002540, .int x1002541, .int x1002542, .int x1002543, .int x1002544, .int x1002545])), (z2, .inr (9, [.ref z4, .int x1002546])), (z4, .inl (T 2, 700, .inl f1002547))] H → va_D A [(z1, .inr (7, [.ref z2, .ref z3, .int x1002540, .int x1002541, .int x1002542, .int x1002543, .int x1002544, .int x1002545])), (z2, .inr (9, [.ref z4, .int x1002546])), (z4, .inl (T 2, 700, .inl f1002547))] → va_S A s.heap H locs → lv_has ls 6 [(4, .int x1003712), (3, .int x1003713), (2, .int x1003714), (1, .int x1003715), (0, .ref z1)] → W p l e { frames := 4, cells := 0, slots := 0, locals := 101 } s m args below meth c H locs 0 0 (MQ below ((Qi (S := Unit) (fun (r : Int32) (_ : Unit) => True) (fun (_ : Unit) => ([(z1, .inr (7, [.ref z2, .ref z3, .int x1002540, .int x1002541, .int x1002542, .int x1002543, .int x1002544, .int x1002545]))] : va_W) ++ (([(z2, .inr (9, [.ref z4, .int x1002546])), (z4, .inl (T 2, 700, .inl f1002547))] : va_W))) D) A) args s 0 0 A) (F0 m 12 ls []) := by
    intro n
    induction n with
    | zero =>
      intro x1003712 x1003713 x1003714 x1003715 H locs ls hx1003712 hx1003713 hx1003714 hr1003734 hms hP hD hS hl
      exact absurd hms (Nat.not_lt_zero _)
    | succ n ih =>
      intro x1003712 x1003713 x1003714 x1003715 H locs ls hx1003712 hx1003713 hx1003714 hr1003734 hms hP hD hS hl
      refine lv_iload hx hb dX7_ownWord_12 (lv_at hl 0 rfl) ?_
      refine r_ldcS C0 hStr dX7_ownWord_14 ?_
      refine r_calli (wr := [(z1, .inr (7, [.ref z2, .ref z3, .int x1002540, .int x1002541, .int x1002542, .int x1002543, .int x1002544, .int x1002545])), (z2, .inr (9, [.ref z4, .int x1002546])), (z4, .inl (T 2, 700, .inl f1002547))]) (r_runO2 (As := []) (rest := [.int x1003712]) C0 hE hStr hS hA rfl (c_strLength l D T sq sv H.size) mw_309 mw_310 mw_311 mw_15 mw_312 dn_1810 rfl rfl ⟨Nat.le_of_ble_eq_true rfl, Nat.le_of_ble_eq_true rfl⟩ hl.1 rfl (Nat.le_of_ble_eq_true rfl) dX7_ownWord_16 ⟨Nat.le_of_ble_eq_true rfl, Nat.le_of_ble_eq_true rfl⟩) hP hD hS hA [] [0, 1, 2] rfl rfl (by decide +kernel) (by decide +kernel) (fun x1003735 u H locs hq hP hD hS => ?_)
      have hP : va_P D vwCl [(z1, .inr (7, [.ref z2, .ref z3, .int x1002540, .int x1002541, .int x1002542, .int x1002543, .int x1002544, .int x1002545])), (z2, .inr (9, [.ref z4, .int x1002546])), (z4, .inl (T 2, 700, .inl f1002547))] H := hP
      have hD : va_D A [(z1, .inr (7, [.ref z2, .ref z3, .int x1002540, .int x1002541, .int x1002542, .int x1002543, .int x1002544, .int x1002545])), (z2, .inr (9, [.ref z4, .int x1002546])), (z4, .inl (T 2, 700, .inl f1002547))] := hD
      have hq : x1003735 = 105 := hq
      subst hq
      refine W.widen (k := 0) (n := 0) (Nat.le_refl _) (Nat.le_refl _) ?_
      refine lv_icmp_ge (tgt := 106) hx hb dX7_ownWord_19 (by decide) (fun c1003736 => ?_) (fun c1003736 => ?_)
      · skip
        have kc1003736 : 105 ≤ x1003712.toInt := le_ti (by decide) rfl c1003736
        refine lv_iconst (v := (-1)) hx hb dX7_ownWord_106 (by decide) ?_
        exact r_iret () C0 hr hlocks hS (Nat.le_refl _) (Nat.le_refl _) dX7_ownWord_107 trivial (hP.sub (ws' := [(z1, .inr (7, [.ref z2, .ref z3, .int x1002540, .int x1002541, .int x1002542, .int x1002543, .int x1002544, .int x1002545])), (z2, .inr (9, [.ref z4, .int x1002546])), (z4, .inl (T 2, 700, .inl f1002547))]) [0, 1, 2] rfl) (hD.sub (ws' := [(z1, .inr (7, [.ref z2, .ref z3, .int x1002540, .int x1002541, .int x1002542, .int x1002543, .int x1002544, .int x1002545])), (z2, .inr (9, [.ref z4, .int x1002546])), (z4, .inl (T 2, 700, .inl f1002547))]) [0, 1, 2] (by decide +kernel) rfl)
      · skip
        have kc1003736 : x1003712.toInt < 105 := nle_ti (by decide) rfl c1003736
        refine r_ldcS C0 hStr dX7_ownWord_22 ?_
        refine lv_iload hx hb dX7_ownWord_24 (lv_at hl 0 rfl) ?_
        refine r_calli (wr := [(z1, .inr (7, [.ref z2, .ref z3, .int x1002540, .int x1002541, .int x1002542, .int x1002543, .int x1002544, .int x1002545])), (z2, .inr (9, [.ref z4, .int x1002546])), (z4, .inl (T 2, 700, .inl f1002547))]) (r_runO2 (As := [.int x1003712]) (rest := []) C0 hE hStr hS hA rfl (c_strCharAt l D T sq sv H.size x1003712 (in_ti rfl (by omega) (by omega))) mw_318 mw_319 mw_320 mw_15 mw_321 dn_1811 rfl rfl ⟨Nat.le_of_ble_eq_true rfl, Nat.le_of_ble_eq_true rfl⟩ hl.1 rfl (Nat.le_of_ble_eq_true rfl) dX7_ownWord_26 ⟨Nat.le_of_ble_eq_true rfl, Nat.le_of_ble_eq_true rfl⟩) hP hD hS hA [] [0, 1, 2] rfl rfl (by decide +kernel) (by decide +kernel) (fun x1003737 u H locs hq hP hD hS => ?_)
        have hP : va_P D vwCl [(z1, .inr (7, [.ref z2, .ref z3, .int x1002540, .int x1002541, .int x1002542, .int x1002543, .int x1002544, .int x1002545])), (z2, .inr (9, [.ref z4, .int x1002546])), (z4, .inl (T 2, 700, .inl f1002547))] H := hP
        have hD : va_D A [(z1, .inr (7, [.ref z2, .ref z3, .int x1002540, .int x1002541, .int x1002542, .int x1002543, .int x1002544, .int x1002545])), (z2, .inr (9, [.ref z4, .int x1002546])), (z4, .inl (T 2, 700, .inl f1002547))] := hD
        have hx1003737 : 0 ≤ x1003737.toInt ∧ x1003737.toInt ≤ 255 := hq
        refine W.widen (k := 0) (n := 0) (Nat.le_refl _) (Nat.le_refl _) ?_
        refine lv_istore (lv' := [(5, .int x1003737), (4, .int x1003712), (3, .int x1003713), (2, .int x1003714), (1, .int x1003715), (0, .ref z1)]) hx hb dX7_ownWord_29 hl (by decide) rfl (fun ls hl => ?_)
        refine lv_iload hx hb dX7_ownWord_31 (lv_at hl 0 rfl) ?_
        refine lv_bipush (v := 32) hx hb dX7_ownWord_33 (by decide) ?_
        refine lv_icmp_eq (tgt := 76) hx hb dX7_ownWord_35 (by decide) (fun c1003738 => ?_) (fun c1003738 => ?_)
        · skip
          have kc1003738 : x1003737.toInt = 32 := eq_ti rfl (by decide) c1003738
          refine lv_iload_n hx hb dX7_ownWord_76 rfl (lv_at hl 2 rfl) ?_
          refine lv_if_eq (tgt := 90) hx hb dX7_ownWord_77 (by decide) (fun c1003739 => ?_) (fun c1003739 => ?_)
          · skip
            have kc1003739 : x1003713.toInt = 0 := eq_ti rfl (by decide) c1003739
            obtain ⟨x1003740, ex1003740⟩ : ∃ y : Int32, y = x1003715 + 1 := ⟨_, rfl⟩
            refine lv_iinc (v := x1003740) (lv' := [(1, .int x1003740), (5, .int x1003737), (4, .int x1003712), (3, .int x1003713), (2, .int x1003714), (0, .ref z1)]) hx hb dX7_ownWord_90 hl (k := 4) rfl (by rw [ex1003740]; rfl) (by decide) rfl (fun ls hl => ?_)
            refine lv_aload_n hx hb dX7_ownWord_93 rfl (lv_at hl 5 rfl) ?_
            refine r_get (v := .int x1002541) C0 hE ffX7_3 mw_227 hP 0 rfl rfl dX7_ownWord_94 ?_
            refine lv_istore_n (lv' := [(2, .int x1002541), (1, .int x1003740), (5, .int x1003737), (4, .int x1003712), (3, .int x1003713), (0, .ref z1)]) hx hb dX7_ownWord_97 rfl hl (by decide) rfl (fun ls hl => ?_)
            refine lv_iconst (v := 1) hx hb dX7_ownWord_98 (by decide) ?_
            refine lv_istore_n (lv' := [(3, .int 1), (2, .int x1002541), (1, .int x1003740), (5, .int x1003737), (4, .int x1003712), (0, .ref z1)]) hx hb dX7_ownWord_99 rfl hl (by decide) rfl (fun ls hl => ?_)
            obtain ⟨x1003741, ex1003741⟩ : ∃ y : Int32, y = x1003712 + 1 := ⟨_, rfl⟩
            have hx1003741 : x1003741.toInt = x1003712.toInt + 1 := ti_add ex1003741 rfl (by decide) (by omega) (by omega)
            refine lv_iinc (v := x1003741) (lv' := [(4, .int x1003741), (3, .int 1), (2, .int x1002541), (1, .int x1003740), (5, .int x1003737), (0, .ref z1)]) hx hb dX7_ownWord_100 hl (k := 4) rfl (by rw [ex1003741]; rfl) (by decide) rfl (fun ls hl => ?_)
            refine lv_goto (tgt := 12) hx hb dX7_ownWord_103 (by decide) ?_
            have hl1003742 : (1 : Int32).toInt = 1 := by decide
            exact ih x1003741 1 x1002541 x1003740 _ _ ls ⟨by omega, by omega⟩ ⟨by decide, by decide⟩ ⟨by omega, by omega⟩ (by omega) (by omega) (hP.sub (ws' := [(z1, .inr (7, [.ref z2, .ref z3, .int x1002540, .int x1002541, .int x1002542, .int x1002543, .int x1002544, .int x1002545])), (z2, .inr (9, [.ref z4, .int x1002546])), (z4, .inl (T 2, 700, .inl f1002547))]) [0, 1, 2] rfl) (hD.sub (ws' := [(z1, .inr (7, [.ref z2, .ref z3, .int x1002540, .int x1002541, .int x1002542, .int x1002543, .int x1002544, .int x1002545])), (z2, .inr (9, [.ref z4, .int x1002546])), (z4, .inl (T 2, 700, .inl f1002547))]) [0, 1, 2] (by decide +kernel) rfl) hS (lv_sub hl [0, 1, 2, 3, 5] rfl)
          · skip
            have kc1003739 : x1003713.toInt ≠ 0 := ne_ti rfl (by decide) c1003739
            have nzx1003713 : ¬ x1003713 = 0 := c1003739
            refine lv_iload_n hx hb dX7_ownWord_80 rfl (lv_at hl 3 rfl) ?_
            refine lv_aload_n hx hb dX7_ownWord_81 rfl (lv_at hl 5 rfl) ?_
            refine r_get (v := .int x1002542) C0 hE ffX7_4 mw_228 hP 0 rfl rfl dX7_ownWord_82 ?_
            refine lv_icmp_ne (tgt := 90) hx hb dX7_ownWord_85 (by decide) (fun c1003743 => ?_) (fun c1003743 => ?_)
            · skip
              have kc1003743 : x1003714.toInt ≠ x1002542.toInt := ne_ti rfl rfl c1003743
              obtain ⟨x1003744, ex1003744⟩ : ∃ y : Int32, y = x1003715 + 1 := ⟨_, rfl⟩
              refine lv_iinc (v := x1003744) (lv' := [(1, .int x1003744), (5, .int x1003737), (4, .int x1003712), (3, .int x1003713), (2, .int x1003714), (0, .ref z1)]) hx hb dX7_ownWord_90 hl (k := 4) rfl (by rw [ex1003744]; rfl) (by decide) rfl (fun ls hl => ?_)
              refine lv_aload_n hx hb dX7_ownWord_93 rfl (lv_at hl 5 rfl) ?_
              refine r_get (v := .int x1002541) C0 hE ffX7_3 mw_227 hP 0 rfl rfl dX7_ownWord_94 ?_
              refine lv_istore_n (lv' := [(2, .int x1002541), (1, .int x1003744), (5, .int x1003737), (4, .int x1003712), (3, .int x1003713), (0, .ref z1)]) hx hb dX7_ownWord_97 rfl hl (by decide) rfl (fun ls hl => ?_)
              refine lv_iconst (v := 1) hx hb dX7_ownWord_98 (by decide) ?_
              refine lv_istore_n (lv' := [(3, .int 1), (2, .int x1002541), (1, .int x1003744), (5, .int x1003737), (4, .int x1003712), (0, .ref z1)]) hx hb dX7_ownWord_99 rfl hl (by decide) rfl (fun ls hl => ?_)
              obtain ⟨x1003745, ex1003745⟩ : ∃ y : Int32, y = x1003712 + 1 := ⟨_, rfl⟩
              have hx1003745 : x1003745.toInt = x1003712.toInt + 1 := ti_add ex1003745 rfl (by decide) (by omega) (by omega)
              refine lv_iinc (v := x1003745) (lv' := [(4, .int x1003745), (3, .int 1), (2, .int x1002541), (1, .int x1003744), (5, .int x1003737), (0, .ref z1)]) hx hb dX7_ownWord_100 hl (k := 4) rfl (by rw [ex1003745]; rfl) (by decide) rfl (fun ls hl => ?_)
              refine lv_goto (tgt := 12) hx hb dX7_ownWord_103 (by decide) ?_
              have hl1003746 : (1 : Int32).toInt = 1 := by decide
              exact ih x1003745 1 x1002541 x1003744 _ _ ls ⟨by omega, by omega⟩ ⟨by decide, by decide⟩ ⟨by omega, by omega⟩ (by omega) (by omega) (hP.sub (ws' := [(z1, .inr (7, [.ref z2, .ref z3, .int x1002540, .int x1002541, .int x1002542, .int x1002543, .int x1002544, .int x1002545])), (z2, .inr (9, [.ref z4, .int x1002546])), (z4, .inl (T 2, 700, .inl f1002547))]) [0, 1, 2] rfl) (hD.sub (ws' := [(z1, .inr (7, [.ref z2, .ref z3, .int x1002540, .int x1002541, .int x1002542, .int x1002543, .int x1002544, .int x1002545])), (z2, .inr (9, [.ref z4, .int x1002546])), (z4, .inl (T 2, 700, .inl f1002547))]) [0, 1, 2] (by decide +kernel) rfl) hS (lv_sub hl [0, 1, 2, 3, 5] rfl)
            · skip
              have kc1003743 : x1003714.toInt = x1002542.toInt := eq_ti rfl rfl c1003743
              refine lv_iload_n hx hb dX7_ownWord_88 rfl (lv_at hl 4 rfl) ?_
              exact r_iret () C0 hr hlocks hS (Nat.le_refl _) (Nat.le_refl _) dX7_ownWord_89 trivial (hP.sub (ws' := [(z1, .inr (7, [.ref z2, .ref z3, .int x1002540, .int x1002541, .int x1002542, .int x1002543, .int x1002544, .int x1002545])), (z2, .inr (9, [.ref z4, .int x1002546])), (z4, .inl (T 2, 700, .inl f1002547))]) [0, 1, 2] rfl) (hD.sub (ws' := [(z1, .inr (7, [.ref z2, .ref z3, .int x1002540, .int x1002541, .int x1002542, .int x1002543, .int x1002544, .int x1002545])), (z2, .inr (9, [.ref z4, .int x1002546])), (z4, .inl (T 2, 700, .inl f1002547))]) [0, 1, 2] (by decide +kernel) rfl)
        · skip
          have kc1003738 : x1003737.toInt ≠ 32 := ne_ti rfl (by decide) c1003738
          refine lv_iload_n hx hb dX7_ownWord_38 rfl (lv_at hl 2 rfl) ?_
          have J1003752 : ∀ (x1003751 : Int32) (H : Heap) (locs : List Loc) (ls : Array Slot), (0 ≤ x1003751.toInt ∧ x1003751.toInt ≤ 1) → va_P D vwCl [(z1, .inr (7, [.ref z2, .ref z3, .int x1002540, .int x1002541, .int x1002542, .int x1002543, .int x1002544, .int x1002545])), (z2, .inr (9, [.ref z4, .int x1002546])), (z4, .inl (T 2, 700, .inl f1002547))] H → va_D A [(z1, .inr (7, [.ref z2, .ref z3, .int x1002540, .int x1002541, .int x1002542, .int x1002543, .int x1002544, .int x1002545])), (z2, .inr (9, [.ref z4, .int x1002546])), (z4, .inl (T 2, 700, .inl f1002547))] → va_S A s.heap H locs → lv_has ls 6 [(5, .int x1003737), (4, .int x1003712), (3, .int x1003713), (2, .int x1003714), (1, .int x1003715), (0, .ref z1)] → W p l e { frames := 4, cells := 0, slots := 0, locals := 101 } s m args below meth c H locs 0 0 (MQ below ((Qi (S := Unit) (fun (r : Int32) (_ : Unit) => True) (fun (_ : Unit) => ([(z1, .inr (7, [.ref z2, .ref z3, .int x1002540, .int x1002541, .int x1002542, .int x1002543, .int x1002544, .int x1002545]))] : va_W) ++ (([(z2, .inr (9, [.ref z4, .int x1002546])), (z4, .inl (T 2, 700, .inl f1002547))] : va_W))) D) A) args s 0 0 A) (F0 m 69 ls [.int x1003751]) := by
            intro x1003751 H locs ls hx1003751 hP hD hS hl
            refine lv_istore_n (lv' := [(3, .int x1003751), (5, .int x1003737), (4, .int x1003712), (2, .int x1003714), (1, .int x1003715), (0, .ref z1)]) hx hb dX7_ownWord_69 rfl hl (by decide) rfl (fun ls hl => ?_)
            obtain ⟨x1003753, ex1003753⟩ : ∃ y : Int32, y = x1003714 + 1 := ⟨_, rfl⟩
            have hx1003753 : x1003753.toInt = x1003714.toInt + 1 := ti_add ex1003753 rfl (by decide) (by omega) (by omega)
            refine lv_iinc (v := x1003753) (lv' := [(2, .int x1003753), (3, .int x1003751), (5, .int x1003737), (4, .int x1003712), (1, .int x1003715), (0, .ref z1)]) hx hb dX7_ownWord_70 hl (k := 3) rfl (by rw [ex1003753]; rfl) (by decide) rfl (fun ls hl => ?_)
            refine lv_goto (tgt := 100) hx hb dX7_ownWord_73 (by decide) ?_
            obtain ⟨x1003754, ex1003754⟩ : ∃ y : Int32, y = x1003712 + 1 := ⟨_, rfl⟩
            have hx1003754 : x1003754.toInt = x1003712.toInt + 1 := ti_add ex1003754 rfl (by decide) (by omega) (by omega)
            refine lv_iinc (v := x1003754) (lv' := [(4, .int x1003754), (2, .int x1003753), (3, .int x1003751), (5, .int x1003737), (1, .int x1003715), (0, .ref z1)]) hx hb dX7_ownWord_100 hl (k := 3) rfl (by rw [ex1003754]; rfl) (by decide) rfl (fun ls hl => ?_)
            refine lv_goto (tgt := 12) hx hb dX7_ownWord_103 (by decide) ?_
            exact ih x1003754 x1003751 x1003753 x1003715 _ _ ls ⟨by omega, by omega⟩ ⟨by omega, by omega⟩ ⟨by omega, by omega⟩ (by omega) (by omega) (hP.sub (ws' := [(z1, .inr (7, [.ref z2, .ref z3, .int x1002540, .int x1002541, .int x1002542, .int x1002543, .int x1002544, .int x1002545])), (z2, .inr (9, [.ref z4, .int x1002546])), (z4, .inl (T 2, 700, .inl f1002547))]) [0, 1, 2] rfl) (hD.sub (ws' := [(z1, .inr (7, [.ref z2, .ref z3, .int x1002540, .int x1002541, .int x1002542, .int x1002543, .int x1002544, .int x1002545])), (z2, .inr (9, [.ref z4, .int x1002546])), (z4, .inl (T 2, 700, .inl f1002547))]) [0, 1, 2] (by decide +kernel) rfl) hS (lv_sub hl [0, 2, 1, 4, 5] rfl)
          refine lv_if_eq (tgt := 68) hx hb dX7_ownWord_39 (by decide) (fun c1003747 => ?_) (fun c1003747 => ?_)
          · skip
            have kc1003747 : x1003713.toInt = 0 := eq_ti rfl (by decide) c1003747
            refine lv_iconst (v := 0) hx hb dX7_ownWord_68 (by decide) ?_
            exact J1003752 0 _ _ ls ⟨by decide, by decide⟩ (hP.sub (ws' := [(z1, .inr (7, [.ref z2, .ref z3, .int x1002540, .int x1002541, .int x1002542, .int x1002543, .int x1002544, .int x1002545])), (z2, .inr (9, [.ref z4, .int x1002546])), (z4, .inl (T 2, 700, .inl f1002547))]) [0, 1, 2] rfl) (hD.sub (ws' := [(z1, .inr (7, [.ref z2, .ref z3, .int x1002540, .int x1002541, .int x1002542, .int x1002543, .int x1002544, .int x1002545])), (z2, .inr (9, [.ref z4, .int x1002546])), (z4, .inl (T 2, 700, .inl f1002547))]) [0, 1, 2] (by decide +kernel) rfl) hS (lv_sub hl [0, 1, 2, 3, 4, 5] rfl)
          · skip
            have kc1003747 : x1003713.toInt ≠ 0 := ne_ti rfl (by decide) c1003747
            have nzx1003713 : ¬ x1003713 = 0 := c1003747
            refine lv_iload_n hx hb dX7_ownWord_42 rfl (lv_at hl 3 rfl) ?_
            refine lv_aload_n hx hb dX7_ownWord_43 rfl (lv_at hl 5 rfl) ?_
            refine r_get (v := .int x1002542) C0 hE ffX7_4 mw_228 hP 0 rfl rfl dX7_ownWord_44 ?_
            refine lv_icmp_ge (tgt := 68) hx hb dX7_ownWord_47 (by decide) (fun c1003755 => ?_) (fun c1003755 => ?_)
            · skip
              have kc1003755 : x1002542.toInt ≤ x1003714.toInt := le_ti rfl rfl c1003755
              refine lv_iconst (v := 0) hx hb dX7_ownWord_68 (by decide) ?_
              exact J1003752 0 _ _ ls ⟨by decide, by decide⟩ (hP.sub (ws' := [(z1, .inr (7, [.ref z2, .ref z3, .int x1002540, .int x1002541, .int x1002542, .int x1002543, .int x1002544, .int x1002545])), (z2, .inr (9, [.ref z4, .int x1002546])), (z4, .inl (T 2, 700, .inl f1002547))]) [0, 1, 2] rfl) (hD.sub (ws' := [(z1, .inr (7, [.ref z2, .ref z3, .int x1002540, .int x1002541, .int x1002542, .int x1002543, .int x1002544, .int x1002545])), (z2, .inr (9, [.ref z4, .int x1002546])), (z4, .inl (T 2, 700, .inl f1002547))]) [0, 1, 2] (by decide +kernel) rfl) hS (lv_sub hl [0, 1, 2, 3, 4, 5] rfl)
            · skip
              have kc1003755 : x1003714.toInt < x1002542.toInt := nle_ti rfl rfl c1003755
              refine lv_aload_n hx hb dX7_ownWord_50 rfl (lv_at hl 5 rfl) ?_
              refine r_get (v := .ref z2) C0 hE ffX7_0 mw_224 hP 0 rfl rfl dX7_ownWord_51 ?_
              refine r_get (v := .ref z4) C0 hE ffX9_0 mw_33 hP 1 rfl rfl dX7_ownWord_54 ?_
              refine lv_iload_n hx hb dX7_ownWord_57 rfl (lv_at hl 3 rfl) ?_
              refine va_bald hx hb hK hP 2 2 rfl rfl (in_ti rfl (by omega) (by omega)) dX7_ownWord_58 ?_
              refine lv_topi (fun x1003756 ex1003756 => ?_)
              refine lv_iload hx hb dX7_ownWord_59 (lv_at hl 0 rfl) ?_
              refine lv_icmp_ne (tgt := 68) hx hb dX7_ownWord_61 (by decide) (fun c1003757 => ?_) (fun c1003757 => ?_)
              · skip
                have kc1003757 : x1003756.toInt ≠ x1003737.toInt := ne_ti rfl rfl c1003757
                refine lv_iconst (v := 0) hx hb dX7_ownWord_68 (by decide) ?_
                exact J1003752 0 _ _ ls ⟨by decide, by decide⟩ (hP.sub (ws' := [(z1, .inr (7, [.ref z2, .ref z3, .int x1002540, .int x1002541, .int x1002542, .int x1002543, .int x1002544, .int x1002545])), (z2, .inr (9, [.ref z4, .int x1002546])), (z4, .inl (T 2, 700, .inl f1002547))]) [0, 1, 2] rfl) (hD.sub (ws' := [(z1, .inr (7, [.ref z2, .ref z3, .int x1002540, .int x1002541, .int x1002542, .int x1002543, .int x1002544, .int x1002545])), (z2, .inr (9, [.ref z4, .int x1002546])), (z4, .inl (T 2, 700, .inl f1002547))]) [0, 1, 2] (by decide +kernel) rfl) hS (lv_sub hl [0, 1, 2, 3, 4, 5] rfl)
              · skip
                have kc1003757 : x1003756.toInt = x1003737.toInt := eq_ti rfl rfl c1003757
                refine lv_iconst (v := 1) hx hb dX7_ownWord_64 (by decide) ?_
                refine lv_goto (tgt := 69) hx hb dX7_ownWord_65 (by decide) ?_
                exact J1003752 1 _ _ ls ⟨by decide, by decide⟩ (hP.sub (ws' := [(z1, .inr (7, [.ref z2, .ref z3, .int x1002540, .int x1002541, .int x1002542, .int x1002543, .int x1002544, .int x1002545])), (z2, .inr (9, [.ref z4, .int x1002546])), (z4, .inl (T 2, 700, .inl f1002547))]) [0, 1, 2] rfl) (hD.sub (ws' := [(z1, .inr (7, [.ref z2, .ref z3, .int x1002540, .int x1002541, .int x1002542, .int x1002543, .int x1002544, .int x1002545])), (z2, .inr (9, [.ref z4, .int x1002546])), (z4, .inl (T 2, 700, .inl f1002547))]) [0, 1, 2] (by decide +kernel) rfl) hS (lv_sub hl [0, 1, 2, 3, 4, 5] rfl)
  have hl1003758 : (0 : Int32).toInt = 0 := by decide
  have hl1003759 : (1 : Int32).toInt = 1 := by decide
  exact L1003733 _ 0 1 x1002541 0 _ _ ls ⟨by decide, by decide⟩ ⟨by decide, by decide⟩ ⟨by omega, by omega⟩ (by omega) (Nat.lt_succ_self _) (hP.sub (ws' := [(z1, .inr (7, [.ref z2, .ref z3, .int x1002540, .int x1002541, .int x1002542, .int x1002543, .int x1002544, .int x1002545])), (z2, .inr (9, [.ref z4, .int x1002546])), (z4, .inl (T 2, 700, .inl f1002547))]) [0, 1, 2] rfl) (hD.sub (ws' := [(z1, .inr (7, [.ref z2, .ref z3, .int x1002540, .int x1002541, .int x1002542, .int x1002543, .int x1002544, .int x1002545])), (z2, .inr (9, [.ref z4, .int x1002546])), (z4, .inl (T 2, 700, .inl f1002547))]) [0, 1, 2] (by decide +kernel) rfl) hS (lv_sub hl [0, 1, 2, 3, 4] rfl)
set_option maxHeartbeats 4000000 in
set_option maxRecDepth 100000 in
theorem g_X7_next_1005269 (l : Launch) (D : va_G) (T : Nat → ClassId) (sq sv sz : Nat) (z1 : Nat) (z2 : Nat) (z3 : Nat) (z4 : Nat) (w1 : va_W) (w2 : va_W) (hw1 : B_X7 T z1 z2 z3 w1) (hw2 : B_X9 T z2 z4 w2) : Met l yX7_next (.code yX7_next cX7_next 4 none :: TB) { frames := 5, cells := 0, slots := 0, locals := 126 } (PC2 D T sq sv [.ref z1] (w1 ++ (w2)) sz) (Qv2 (S := va_W) (fun (u0 : va_W) => B_X7 T z1 z2 z3 u0 ∧ fv u0 6 = fv w1 6 ∧ fv u0 7 = fv w1 7) (fun (u0 : va_W) => u0 ++ (w2)) D (va_A (w1 ++ (w2)) sz)) 0 0 (va_A (w1 ++ (w2)) sz) := by
  obtain ⟨x1005278, x1005279, x1005280, x1005281, x1005282, x1005283, rfl, hx1005279, hx1005280⟩ := hw1
  obtain ⟨x1005284, f1005285, rfl, hx1005284⟩ := hw2
  refine ct_begin2 (Qc := Qv2 (S := va_W) (fun (u0 : va_W) => B_X7 T z1 z2 z3 u0 ∧ fv u0 6 = fv ([(z1, .inr (7, [.ref z2, .ref z3, .int x1005278, .int x1005279, .int x1005280, .int x1005281, .int x1005282, .int x1005283]))] : va_W) 6 ∧ fv u0 7 = fv ([(z1, .inr (7, [.ref z2, .ref z3, .int x1005278, .int x1005279, .int x1005280, .int x1005281, .int x1005282, .int x1005283]))] : va_W) 7) (fun (u0 : va_W) => u0 ++ (([(z2, .inr (9, [.ref z4, .int x1005284])), (z4, .inl (T 2, 700, .inl f1005285))] : va_W))) D) (by decide +kernel) (Nat.le_of_ble_eq_true rfl) ?_
  intro p e s m below meth c A ls C0 hr hlocks hnm hE hStr hA hP hD hl
  generalize ([.ref z1] : List Value).toArray = args at C0 ⊢
  have hx := C0.1
  have hb := C0.2.1
  have hml := C0.2.2.1
  have hown := C0.2.2.2.1
  have hT := C0.2.2.2.2
  have hK := hE.1
  generalize hH : s.heap = H at hP ⊢
  have hS : va_S A s.heap H [] := by rw [← hH]; exact va_S.rf
  have hP : va_P D vwCl [(z1, .inr (7, [.ref z2, .ref z3, .int x1005278, .int x1005279, .int x1005280, .int x1005281, .int x1005282, .int x1005283])), (z2, .inr (9, [.ref z4, .int x1005284])), (z4, .inl (T 2, 700, .inl f1005285))] H := hP
  have hD : va_D A [(z1, .inr (7, [.ref z2, .ref z3, .int x1005278, .int x1005279, .int x1005280, .int x1005281, .int x1005282, .int x1005283])), (z2, .inr (9, [.ref z4, .int x1005284])), (z4, .inl (T 2, 700, .inl f1005285))] := hD
  have hl : lv_has ls 4 [(0, .ref z1)] := hl
  refine lv_aload_n hx hb dX7_next_0 rfl (lv_at hl 0 rfl) ?_
  refine r_get (v := .int x1005282) C0 hE ffX7_6 mw_230 hP 0 rfl rfl dX7_next_1 ?_
  refine lv_if_eq (tgt := 8) hx hb dX7_next_4 (by decide) (fun c1005286 => ?_) (fun c1005286 => ?_)
  · skip
    have kc1005286 : x1005282.toInt = 0 := eq_ti rfl (by decide) c1005286
    refine lv_aload_n hx hb dX7_next_8 rfl (lv_at hl 0 rfl) ?_
    refine r_get (v := .int x1005278) C0 hE ffX7_2 mw_226 hP 0 rfl rfl dX7_next_9 ?_
    refine lv_iconst (v := 1) hx hb dX7_next_12 (by decide) ?_
    have J1005290 : ∀ (x1005289 : Int32) (H : Heap) (locs : List Loc) (ls : Array Slot), (0 ≤ x1005289.toInt ∧ x1005289.toInt ≤ 1) → va_P D vwCl [(z1, .inr (7, [.ref z2, .ref z3, .int x1005278, .int x1005279, .int x1005280, .int x1005281, .int x1005282, .int x1005283])), (z2, .inr (9, [.ref z4, .int x1005284])), (z4, .inl (T 2, 700, .inl f1005285))] H → va_D A [(z1, .inr (7, [.ref z2, .ref z3, .int x1005278, .int x1005279, .int x1005280, .int x1005281, .int x1005282, .int x1005283])), (z2, .inr (9, [.ref z4, .int x1005284])), (z4, .inl (T 2, 700, .inl f1005285))] → va_S A s.heap H locs → lv_has ls 4 [(0, .ref z1)] → W p l e { frames := 5, cells := 0, slots := 0, locals := 126 } s m args below meth c H locs 0 0 (MQ below ((Qv2 (S := va_W) (fun (u0 : va_W) => B_X7 T z1 z2 z3 u0 ∧ fv u0 6 = fv ([(z1, .inr (7, [.ref z2, .ref z3, .int x1005278, .int x1005279, .int x1005280, .int x1005281, .int x1005282, .int x1005283]))] : va_W) 6 ∧ fv u0 7 = fv ([(z1, .inr (7, [.ref z2, .ref z3, .int x1005278, .int x1005279, .int x1005280, .int x1005281, .int x1005282, .int x1005283]))] : va_W) 7) (fun (u0 : va_W) => u0 ++ (([(z2, .inr (9, [.ref z4, .int x1005284])), (z4, .inl (T 2, 700, .inl f1005285))] : va_W))) D) A) args s 0 0 A) (F0 m 29 ls [.int x1005289]) := by
      intro x1005289 H locs ls hx1005289 hP hD hS hl
      refine lv_istore_n (lv' := [(1, .int x1005289), (0, .ref z1)]) hx hb dX7_next_29 rfl hl (by decide) rfl (fun ls hl => ?_)
      refine lv_aload_n hx hb dX7_next_30 rfl (lv_at hl 1 rfl) ?_
      refine r_get (v := .int x1005280) C0 hE ffX7_4 mw_228 hP 0 rfl rfl dX7_next_31 ?_
      refine lv_istore_n (lv' := [(2, .int x1005280), (1, .int x1005289), (0, .ref z1)]) hx hb dX7_next_34 rfl hl (by decide) rfl (fun ls hl => ?_)
      refine lv_aload_n hx hb dX7_next_35 rfl (lv_at hl 2 rfl) ?_
      refine lv_iload_n hx hb dX7_next_36 rfl (lv_at hl 0 rfl) ?_
      refine r_put (v := .int x1005280) (ty := .int) (fs1 := [.ref z2, .ref z3, .int x1005278, .int x1005280, .int x1005280, .int x1005281, .int x1005282, .int x1005283]) (ws1 := [(z1, .inr (7, [.ref z2, .ref z3, .int x1005278, .int x1005280, .int x1005280, .int x1005281, .int x1005282, .int x1005283])), (z2, .inr (9, [.ref z4, .int x1005284])), (z4, .inl (T 2, 700, .inl f1005285))]) C0 hE ffX7_3 tyX7 tyX7_ok nmX7 mw_227 pf_1358 hP hD hS 0 rfl rfl rfl (Nat.le_of_ble_eq_true rfl) rfl rfl dX7_next_37 (fun H locs hP hD hS => ?_)
      have J1005303 : ∀ (x1005302 : Int32) (H : Heap) (locs : List Loc) (ls : Array Slot), (0 ≤ x1005302.toInt ∧ x1005302.toInt ≤ 700) → va_P D vwCl [(z1, .inr (7, [.ref z2, .ref z3, .int x1005278, .int x1005302, .int x1005280, .int x1005281, .int x1005282, .int x1005283])), (z2, .inr (9, [.ref z4, .int x1005284])), (z4, .inl (T 2, 700, .inl f1005285))] H → va_D A [(z1, .inr (7, [.ref z2, .ref z3, .int x1005278, .int x1005302, .int x1005280, .int x1005281, .int x1005282, .int x1005283])), (z2, .inr (9, [.ref z4, .int x1005284])), (z4, .inl (T 2, 700, .inl f1005285))] → va_S A s.heap H locs → lv_has ls 4 [(2, .int x1005280), (1, .int x1005289), (0, .ref z1)] → W p l e { frames := 5, cells := 0, slots := 0, locals := 126 } s m args below meth c H locs 0 0 (MQ below ((Qv2 (S := va_W) (fun (u0 : va_W) => B_X7 T z1 z2 z3 u0 ∧ fv u0 6 = fv ([(z1, .inr (7, [.ref z2, .ref z3, .int x1005278, .int x1005279, .int x1005280, .int x1005281, .int x1005282, .int x1005283]))] : va_W) 6 ∧ fv u0 7 = fv ([(z1, .inr (7, [.ref z2, .ref z3, .int x1005278, .int x1005279, .int x1005280, .int x1005281, .int x1005282, .int x1005283]))] : va_W) 7) (fun (u0 : va_W) => u0 ++ (([(z2, .inr (9, [.ref z4, .int x1005284])), (z4, .inl (T 2, 700, .inl f1005285))] : va_W))) D) A) args s 0 0 A) (F0 m 84 ls []) := by
        intro x1005302 H locs ls hx1005302 hP hD hS hl
        refine lv_aload_n hx hb dX7_next_84 rfl (lv_at hl 2 rfl) ?_
        refine r_get (v := .ref z2) C0 hE ffX7_0 mw_224 hP 0 rfl rfl dX7_next_85 ?_
        refine lv_aload_n hx hb dX7_next_88 rfl (lv_at hl 2 rfl) ?_
        refine r_get (v := .int x1005302) C0 hE ffX7_3 mw_227 hP 0 rfl rfl dX7_next_89 ?_
        refine r_calli (wr := [(z1, .inr (7, [.ref z2, .ref z3, .int x1005278, .int x1005302, .int x1005280, .int x1005281, .int x1005282, .int x1005283]))]) (r_runV2 (As := [.int x1005302]) (rest := []) (wc := [(z2, .inr (9, [.ref z4, .int x1005284])), (z4, .inl (T 2, 700, .inl f1005285))]) (ci := 9) C0 hE hStr hS (va_free (wc := [(z2, .inr (9, [.ref z4, .int x1005284])), (z4, .inl (T 2, 700, .inl f1005285))]) hD hS hA [1, 2] rfl) (g_X9_byteAt_129 l D T sq sv H.size z2 z4 x1005302 [(z2, .inr (9, [.ref z4, .int x1005284])), (z4, .inl (T 2, 700, .inl f1005285))] (⟨x1005284, f1005285, rfl, ⟨by omega, by omega⟩⟩)) mw_296 mw_297 mw_298 mw_2 mw_299 dn_1654 rfl rfl ⟨Nat.le_of_ble_eq_true rfl, Nat.le_of_ble_eq_true rfl⟩ (hP.sub (ws' := [(z2, .inr (9, [.ref z4, .int x1005284])), (z4, .inl (T 2, 700, .inl f1005285))]) [1, 2] rfl) (hD.sub (ws' := [(z2, .inr (9, [.ref z4, .int x1005284])), (z4, .inl (T 2, 700, .inl f1005285))]) [1, 2] (by decide +kernel) rfl) rfl rfl rfl hl.1 rfl (Nat.le_of_ble_eq_true rfl) dX7_next_92 ⟨Nat.le_of_ble_eq_true rfl, Nat.le_of_ble_eq_true rfl⟩) hP hD hS hA [1, 2] [0] rfl rfl (by decide +kernel) (by decide +kernel) (fun x1005304 u H locs hq hP hD hS => ?_)
        obtain ⟨hp1005305, hx1005304⟩ := hq
        have hp1005305 := hp1005305 _ rfl
        have hP : va_P D vwCl [(z1, .inr (7, [.ref z2, .ref z3, .int x1005278, .int x1005302, .int x1005280, .int x1005281, .int x1005282, .int x1005283])), (z2, .inr (9, [.ref z4, .int x1005284])), (z4, .inl (T 2, 700, .inl f1005285))] H := hP
        have hD : va_D A [(z1, .inr (7, [.ref z2, .ref z3, .int x1005278, .int x1005302, .int x1005280, .int x1005281, .int x1005282, .int x1005283])), (z2, .inr (9, [.ref z4, .int x1005284])), (z4, .inl (T 2, 700, .inl f1005285))] := hD
        refine W.widen (k := 0) (n := 0) (Nat.le_refl _) (Nat.le_refl _) ?_
        refine lv_istore_n (lv' := [(3, .int x1005304), (2, .int x1005280), (1, .int x1005289), (0, .ref z1)]) hx hb dX7_next_95 rfl hl (by decide) rfl (fun ls hl => ?_)
        refine lv_aload_n hx hb dX7_next_96 rfl (lv_at hl 3 rfl) ?_
        refine lv_aload_n hx hb dX7_next_97 rfl (lv_at hl 3 rfl) ?_
        refine r_get (v := .int x1005302) C0 hE ffX7_3 mw_227 hP 0 rfl rfl dX7_next_98 ?_
        refine lv_iconst (v := 1) hx hb dX7_next_101 (by decide) ?_
        refine lv_iadd hx hb dX7_next_102 ?_
        refine lv_topi (fun x1005306 ex1005306 => ?_)
        have hx1005306 : x1005306.toInt = x1005302.toInt + 1 := ti_add ex1005306 rfl (by decide) (by omega) (by omega)
        refine r_put (v := .int x1005306) (ty := .int) (fs1 := [.ref z2, .ref z3, .int x1005278, .int x1005302, .int x1005306, .int x1005281, .int x1005282, .int x1005283]) (ws1 := [(z1, .inr (7, [.ref z2, .ref z3, .int x1005278, .int x1005302, .int x1005306, .int x1005281, .int x1005282, .int x1005283])), (z2, .inr (9, [.ref z4, .int x1005284])), (z4, .inl (T 2, 700, .inl f1005285))]) C0 hE ffX7_4 tyX7 tyX7_ok nmX7 mw_228 pf_1358 hP hD hS 0 rfl rfl rfl (Nat.le_of_ble_eq_true rfl) rfl rfl dX7_next_103 (fun H locs hP hD hS => ?_)
        refine lv_iload_n hx hb dX7_next_106 rfl (lv_at hl 0 rfl) ?_
        refine lv_iconst (v := (-1)) hx hb dX7_next_107 (by decide) ?_
        have J1005348 : ∀ (x1005345 : Int32) (x1005346 : Int32) (x1005347 : Int32) (H : Heap) (locs : List Loc) (ls : Array Slot), (0 ≤ x1005345.toInt ∧ x1005345.toInt ≤ 3) → (0 ≤ x1005346.toInt ∧ x1005346.toInt ≤ 700) → va_P D vwCl [(z1, .inr (7, [.ref z2, .ref z3, .int x1005345, .int x1005302, .int x1005346, .int x1005347, .int x1005282, .int x1005283])), (z2, .inr (9, [.ref z4, .int x1005284])), (z4, .inl (T 2, 700, .inl f1005285))] H → va_D A [(z1, .inr (7, [.ref z2, .ref z3, .int x1005345, .int x1005302, .int x1005346, .int x1005347, .int x1005282, .int x1005283])), (z2, .inr (9, [.ref z4, .int x1005284])), (z4, .inl (T 2, 700, .inl f1005285))] → va_S A s.heap H locs → lv_has ls 4 [(3, .int x1005304), (2, .int x1005280), (1, .int x1005289), (0, .ref z1)] → W p l e { frames := 5, cells := 0, slots := 0, locals := 126 } s m args below meth c H locs 0 0 (MQ below ((Qv2 (S := va_W) (fun (u0 : va_W) => B_X7 T z1 z2 z3 u0 ∧ fv u0 6 = fv ([(z1, .inr (7, [.ref z2, .ref z3, .int x1005278, .int x1005279, .int x1005280, .int x1005281, .int x1005282, .int x1005283]))] : va_W) 6 ∧ fv u0 7 = fv ([(z1, .inr (7, [.ref z2, .ref z3, .int x1005278, .int x1005279, .int x1005280, .int x1005281, .int x1005282, .int x1005283]))] : va_W) 7) (fun (u0 : va_W) => u0 ++ (([(z2, .inr (9, [.ref z4, .int x1005284])), (z4, .inl (T 2, 700, .inl f1005285))] : va_W))) D) A) args s 0 0 A) (F0 m 263 ls []) := by
          intro x1005345 x1005346 x1005347 H locs ls hx1005345 hx1005346 hP hD hS hl
          refine lv_iload_n hx hb dX7_next_263 rfl (lv_at hl 2 rfl) ?_
          have J1005354 : ∀ (x1005353 : Int32) (H : Heap) (locs : List Loc) (ls : Array Slot), (0 ≤ x1005353.toInt ∧ x1005353.toInt ≤ 4) → va_P D vwCl [(z1, .inr (7, [.ref z2, .ref z3, .int x1005353, .int x1005302, .int x1005346, .int x1005347, .int x1005282, .int x1005283])), (z2, .inr (9, [.ref z4, .int x1005284])), (z4, .inl (T 2, 700, .inl f1005285))] H → va_D A [(z1, .inr (7, [.ref z2, .ref z3, .int x1005353, .int x1005302, .int x1005346, .int x1005347, .int x1005282, .int x1005283])), (z2, .inr (9, [.ref z4, .int x1005284])), (z4, .inl (T 2, 700, .inl f1005285))] → va_S A s.heap H locs → lv_has ls 4 [(3, .int x1005304), (2, .int x1005280), (1, .int x1005289), (0, .ref z1)] → W p l e { frames := 5, cells := 0, slots := 0, locals := 126 } s m args below meth c H locs 0 0 (MQ below ((Qv2 (S := va_W) (fun (u0 : va_W) => B_X7 T z1 z2 z3 u0 ∧ fv u0 6 = fv ([(z1, .inr (7, [.ref z2, .ref z3, .int x1005278, .int x1005279, .int x1005280, .int x1005281, .int x1005282, .int x1005283]))] : va_W) 6 ∧ fv u0 7 = fv ([(z1, .inr (7, [.ref z2, .ref z3, .int x1005278, .int x1005279, .int x1005280, .int x1005281, .int x1005282, .int x1005283]))] : va_W) 7) (fun (u0 : va_W) => u0 ++ (([(z2, .inr (9, [.ref z4, .int x1005284])), (z4, .inl (T 2, 700, .inl f1005285))] : va_W))) D) A) args s 0 0 A) (F0 m 296 ls []) := by
            intro x1005353 H locs ls hx1005353 hP hD hS hl
            exact r_vret2 ([(z1, .inr (7, [.ref z2, .ref z3, .int x1005353, .int x1005302, .int x1005346, .int x1005347, .int x1005282, .int x1005283]))] : va_W) C0 hr hlocks hS (Nat.le_refl _) (Nat.le_refl _) dX7_next_296 ⟨⟨x1005353, x1005302, x1005346, x1005347, x1005282, x1005283, rfl, ⟨by omega, by omega⟩, ⟨by omega, by omega⟩⟩, rfl, rfl⟩ (hP.sub (ws' := [(z1, .inr (7, [.ref z2, .ref z3, .int x1005353, .int x1005302, .int x1005346, .int x1005347, .int x1005282, .int x1005283])), (z2, .inr (9, [.ref z4, .int x1005284])), (z4, .inl (T 2, 700, .inl f1005285))]) [0, 1, 2] rfl) (hD.sub (ws' := [(z1, .inr (7, [.ref z2, .ref z3, .int x1005353, .int x1005302, .int x1005346, .int x1005347, .int x1005282, .int x1005283])), (z2, .inr (9, [.ref z4, .int x1005284])), (z4, .inl (T 2, 700, .inl f1005285))]) [0, 1, 2] (by decide +kernel) rfl)
          refine lv_if_eq (tgt := 296) hx hb dX7_next_264 (by decide) (fun c1005349 => ?_) (fun c1005349 => ?_)
          · skip
            have kc1005349 : x1005289.toInt = 0 := eq_ti rfl (by decide) c1005349
            exact J1005354 x1005345 _ _ ls ⟨by omega, by omega⟩ (hP.sub (ws' := [(z1, .inr (7, [.ref z2, .ref z3, .int x1005345, .int x1005302, .int x1005346, .int x1005347, .int x1005282, .int x1005283])), (z2, .inr (9, [.ref z4, .int x1005284])), (z4, .inl (T 2, 700, .inl f1005285))]) [0, 1, 2] rfl) (hD.sub (ws' := [(z1, .inr (7, [.ref z2, .ref z3, .int x1005345, .int x1005302, .int x1005346, .int x1005347, .int x1005282, .int x1005283])), (z2, .inr (9, [.ref z4, .int x1005284])), (z4, .inl (T 2, 700, .inl f1005285))]) [0, 1, 2] (by decide +kernel) rfl) hS (lv_sub hl [0, 1, 2, 3] rfl)
          · skip
            have kc1005349 : x1005289.toInt ≠ 0 := ne_ti rfl (by decide) c1005349
            have nzx1005289 : ¬ x1005289 = 0 := c1005349
            refine lv_aload_n hx hb dX7_next_267 rfl (lv_at hl 3 rfl) ?_
            refine r_get (v := .int x1005302) C0 hE ffX7_3 mw_227 hP 0 rfl rfl dX7_next_268 ?_
            refine lv_iload_n hx hb dX7_next_271 rfl (lv_at hl 1 rfl) ?_
            refine lv_icmp_ne (tgt := 296) hx hb dX7_next_272 (by decide) (fun c1005355 => ?_) (fun c1005355 => ?_)
            · skip
              have kc1005355 : x1005302.toInt ≠ x1005280.toInt := ne_ti rfl rfl c1005355
              exact J1005354 x1005345 _ _ ls ⟨by omega, by omega⟩ (hP.sub (ws' := [(z1, .inr (7, [.ref z2, .ref z3, .int x1005345, .int x1005302, .int x1005346, .int x1005347, .int x1005282, .int x1005283])), (z2, .inr (9, [.ref z4, .int x1005284])), (z4, .inl (T 2, 700, .inl f1005285))]) [0, 1, 2] rfl) (hD.sub (ws' := [(z1, .inr (7, [.ref z2, .ref z3, .int x1005345, .int x1005302, .int x1005346, .int x1005347, .int x1005282, .int x1005283])), (z2, .inr (9, [.ref z4, .int x1005284])), (z4, .inl (T 2, 700, .inl f1005285))]) [0, 1, 2] (by decide +kernel) rfl) hS (lv_sub hl [0, 1, 2, 3] rfl)
            · skip
              have kc1005355 : x1005302.toInt = x1005280.toInt := eq_ti rfl rfl c1005355
              refine lv_aload_n hx hb dX7_next_275 rfl (lv_at hl 3 rfl) ?_
              refine r_get (v := .int x1005345) C0 hE ffX7_2 mw_226 hP 0 rfl rfl dX7_next_276 ?_
              refine lv_iconst (v := 1) hx hb dX7_next_279 (by decide) ?_
              refine lv_icmp_eq (tgt := 291) hx hb dX7_next_280 (by decide) (fun c1005356 => ?_) (fun c1005356 => ?_)
              · skip
                have kc1005356 : x1005345.toInt = 1 := eq_ti rfl (by decide) c1005356
                refine lv_aload_n hx hb dX7_next_291 rfl (lv_at hl 3 rfl) ?_
                refine lv_iconst (v := 4) hx hb dX7_next_292 (by decide) ?_
                refine r_put (v := .int 4) (ty := .int) (fs1 := [.ref z2, .ref z3, .int 4, .int x1005302, .int x1005346, .int x1005347, .int x1005282, .int x1005283]) (ws1 := [(z1, .inr (7, [.ref z2, .ref z3, .int 4, .int x1005302, .int x1005346, .int x1005347, .int x1005282, .int x1005283])), (z2, .inr (9, [.ref z4, .int x1005284])), (z4, .inl (T 2, 700, .inl f1005285))]) C0 hE ffX7_2 tyX7 tyX7_ok nmX7 mw_226 pf_1358 hP hD hS 0 rfl rfl rfl (Nat.le_of_ble_eq_true rfl) rfl rfl dX7_next_293 (fun H locs hP hD hS => ?_)
                exact J1005354 4 _ _ ls ⟨by decide, by decide⟩ (hP.sub (ws' := [(z1, .inr (7, [.ref z2, .ref z3, .int 4, .int x1005302, .int x1005346, .int x1005347, .int x1005282, .int x1005283])), (z2, .inr (9, [.ref z4, .int x1005284])), (z4, .inl (T 2, 700, .inl f1005285))]) [0, 1, 2] rfl) (hD.sub (ws' := [(z1, .inr (7, [.ref z2, .ref z3, .int 4, .int x1005302, .int x1005346, .int x1005347, .int x1005282, .int x1005283])), (z2, .inr (9, [.ref z4, .int x1005284])), (z4, .inl (T 2, 700, .inl f1005285))]) [0, 1, 2] (by decide +kernel) rfl) hS (lv_sub hl [0, 1, 2, 3] rfl)
              · skip
                have kc1005356 : x1005345.toInt ≠ 1 := ne_ti rfl (by decide) c1005356
                refine lv_aload_n hx hb dX7_next_283 rfl (lv_at hl 3 rfl) ?_
                refine r_get (v := .int x1005345) C0 hE ffX7_2 mw_226 hP 0 rfl rfl dX7_next_284 ?_
                refine lv_iconst (v := 2) hx hb dX7_next_287 (by decide) ?_
                refine lv_icmp_ne (tgt := 296) hx hb dX7_next_288 (by decide) (fun c1005357 => ?_) (fun c1005357 => ?_)
                · skip
                  have kc1005357 : x1005345.toInt ≠ 2 := ne_ti rfl (by decide) c1005357
                  exact J1005354 x1005345 _ _ ls ⟨by omega, by omega⟩ (hP.sub (ws' := [(z1, .inr (7, [.ref z2, .ref z3, .int x1005345, .int x1005302, .int x1005346, .int x1005347, .int x1005282, .int x1005283])), (z2, .inr (9, [.ref z4, .int x1005284])), (z4, .inl (T 2, 700, .inl f1005285))]) [0, 1, 2] rfl) (hD.sub (ws' := [(z1, .inr (7, [.ref z2, .ref z3, .int x1005345, .int x1005302, .int x1005346, .int x1005347, .int x1005282, .int x1005283])), (z2, .inr (9, [.ref z4, .int x1005284])), (z4, .inl (T 2, 700, .inl f1005285))]) [0, 1, 2] (by decide +kernel) rfl) hS (lv_sub hl [0, 1, 2, 3] rfl)
                · skip
                  have kc1005357 : x1005345.toInt = 2 := eq_ti rfl (by decide) c1005357
                  refine lv_aload_n hx hb dX7_next_291 rfl (lv_at hl 3 rfl) ?_
                  refine lv_iconst (v := 4) hx hb dX7_next_292 (by decide) ?_
                  refine r_put (v := .int 4) (ty := .int) (fs1 := [.ref z2, .ref z3, .int 4, .int x1005302, .int x1005346, .int x1005347, .int x1005282, .int x1005283]) (ws1 := [(z1, .inr (7, [.ref z2, .ref z3, .int 4, .int x1005302, .int x1005346, .int x1005347, .int x1005282, .int x1005283])), (z2, .inr (9, [.ref z4, .int x1005284])), (z4, .inl (T 2, 700, .inl f1005285))]) C0 hE ffX7_2 tyX7 tyX7_ok nmX7 mw_226 pf_1358 hP hD hS 0 rfl rfl rfl (Nat.le_of_ble_eq_true rfl) rfl rfl dX7_next_293 (fun H locs hP hD hS => ?_)
                  exact J1005354 4 _ _ ls ⟨by decide, by decide⟩ (hP.sub (ws' := [(z1, .inr (7, [.ref z2, .ref z3, .int 4, .int x1005302, .int x1005346, .int x1005347, .int x1005282, .int x1005283])), (z2, .inr (9, [.ref z4, .int x1005284])), (z4, .inl (T 2, 700, .inl f1005285))]) [0, 1, 2] rfl) (hD.sub (ws' := [(z1, .inr (7, [.ref z2, .ref z3, .int 4, .int x1005302, .int x1005346, .int x1005347, .int x1005282, .int x1005283])), (z2, .inr (9, [.ref z4, .int x1005284])), (z4, .inl (T 2, 700, .inl f1005285))]) [0, 1, 2] (by decide +kernel) rfl) hS (lv_sub hl [0, 1, 2, 3] rfl)
        refine lv_icmp_ne (tgt := 127) hx hb dX7_next_108 (by decide) (fun c1005307 => ?_) (fun c1005307 => ?_)
        · skip
          have kc1005307 : x1005304.toInt ≠ (-1) := ne_ti rfl (by decide) c1005307
          refine lv_iload_n hx hb dX7_next_127 rfl (lv_at hl 0 rfl) ?_
          refine r_calli (wr := [(z1, .inr (7, [.ref z2, .ref z3, .int x1005278, .int x1005302, .int x1005306, .int x1005281, .int x1005282, .int x1005283])), (z2, .inr (9, [.ref z4, .int x1005284])), (z4, .inl (T 2, 700, .inl f1005285))]) (r_runS2 (As := [.int x1005304]) (rest := []) (wc := []) C0 hE hStr hS (va_free (wc := []) hD hS hA [] rfl) (g_X7_isLetter_35317 l D T sq sv H.size x1005304) mw_303 mw_304 mw_11 mw_305 dn_1641 rfl rfl ⟨Nat.le_of_ble_eq_true rfl, Nat.le_of_ble_eq_true rfl⟩ (hP.sub (ws' := []) [] rfl) (hD.sub (ws' := []) [] (by decide +kernel) rfl) hl.1 rfl (Nat.le_of_ble_eq_true rfl) dX7_next_128 ⟨Nat.le_of_ble_eq_true rfl, Nat.le_of_ble_eq_true rfl⟩) hP hD hS hA [] [0, 1, 2] rfl rfl (by decide +kernel) (by decide +kernel) (fun x1005358 u H locs hq hP hD hS => ?_)
          have hx1005358 : 0 ≤ x1005358.toInt ∧ x1005358.toInt ≤ 1 := hq
          have hP : va_P D vwCl [(z1, .inr (7, [.ref z2, .ref z3, .int x1005278, .int x1005302, .int x1005306, .int x1005281, .int x1005282, .int x1005283])), (z2, .inr (9, [.ref z4, .int x1005284])), (z4, .inl (T 2, 700, .inl f1005285))] H := hP
          have hD : va_D A [(z1, .inr (7, [.ref z2, .ref z3, .int x1005278, .int x1005302, .int x1005306, .int x1005281, .int x1005282, .int x1005283])), (z2, .inr (9, [.ref z4, .int x1005284])), (z4, .inl (T 2, 700, .inl f1005285))] := hD
          refine W.widen (k := 0) (n := 0) (Nat.le_refl _) (Nat.le_refl _) ?_
          refine lv_if_eq (tgt := 194) hx hb dX7_next_131 (by decide) (fun c1005359 => ?_) (fun c1005359 => ?_)
          · skip
            have kc1005359 : x1005358.toInt = 0 := eq_ti rfl (by decide) c1005359
            refine lv_iload_n hx hb dX7_next_194 rfl (lv_at hl 0 rfl) ?_
            refine r_calli (wr := [(z1, .inr (7, [.ref z2, .ref z3, .int x1005278, .int x1005302, .int x1005306, .int x1005281, .int x1005282, .int x1005283])), (z2, .inr (9, [.ref z4, .int x1005284])), (z4, .inl (T 2, 700, .inl f1005285))]) (r_runS2 (As := [.int x1005304]) (rest := []) (wc := []) C0 hE hStr hS (va_free (wc := []) hD hS hA [] rfl) (g_X7_isDigit_35455 l D T sq sv H.size x1005304) mw_352 mw_353 mw_11 mw_354 dn_1642 rfl rfl ⟨Nat.le_of_ble_eq_true rfl, Nat.le_of_ble_eq_true rfl⟩ (hP.sub (ws' := []) [] rfl) (hD.sub (ws' := []) [] (by decide +kernel) rfl) hl.1 rfl (Nat.le_of_ble_eq_true rfl) dX7_next_195 ⟨Nat.le_of_ble_eq_true rfl, Nat.le_of_ble_eq_true rfl⟩) hP hD hS hA [] [0, 1, 2] rfl rfl (by decide +kernel) (by decide +kernel) (fun x1005360 u H locs hq hP hD hS => ?_)
            have hx1005360 : 0 ≤ x1005360.toInt ∧ x1005360.toInt ≤ 1 := hq
            have hP : va_P D vwCl [(z1, .inr (7, [.ref z2, .ref z3, .int x1005278, .int x1005302, .int x1005306, .int x1005281, .int x1005282, .int x1005283])), (z2, .inr (9, [.ref z4, .int x1005284])), (z4, .inl (T 2, 700, .inl f1005285))] H := hP
            have hD : va_D A [(z1, .inr (7, [.ref z2, .ref z3, .int x1005278, .int x1005302, .int x1005306, .int x1005281, .int x1005282, .int x1005283])), (z2, .inr (9, [.ref z4, .int x1005284])), (z4, .inl (T 2, 700, .inl f1005285))] := hD
            refine W.widen (k := 0) (n := 0) (Nat.le_refl _) (Nat.le_refl _) ?_
            refine lv_if_eq (tgt := 253) hx hb dX7_next_198 (by decide) (fun c1005361 => ?_) (fun c1005361 => ?_)
            · skip
              have kc1005361 : x1005360.toInt = 0 := eq_ti rfl (by decide) c1005361
              refine lv_aload_n hx hb dX7_next_253 rfl (lv_at hl 3 rfl) ?_
              refine lv_iconst (v := 3) hx hb dX7_next_254 (by decide) ?_
              refine r_put (v := .int 3) (ty := .int) (fs1 := [.ref z2, .ref z3, .int 3, .int x1005302, .int x1005306, .int x1005281, .int x1005282, .int x1005283]) (ws1 := [(z1, .inr (7, [.ref z2, .ref z3, .int 3, .int x1005302, .int x1005306, .int x1005281, .int x1005282, .int x1005283])), (z2, .inr (9, [.ref z4, .int x1005284])), (z4, .inl (T 2, 700, .inl f1005285))]) C0 hE ffX7_2 tyX7 tyX7_ok nmX7 mw_226 pf_1358 hP hD hS 0 rfl rfl rfl (Nat.le_of_ble_eq_true rfl) rfl rfl dX7_next_255 (fun H locs hP hD hS => ?_)
              refine lv_aload_n hx hb dX7_next_258 rfl (lv_at hl 3 rfl) ?_
              refine lv_iload_n hx hb dX7_next_259 rfl (lv_at hl 0 rfl) ?_
              refine r_put (v := .int x1005304) (ty := .int) (fs1 := [.ref z2, .ref z3, .int 3, .int x1005302, .int x1005306, .int x1005304, .int x1005282, .int x1005283]) (ws1 := [(z1, .inr (7, [.ref z2, .ref z3, .int 3, .int x1005302, .int x1005306, .int x1005304, .int x1005282, .int x1005283])), (z2, .inr (9, [.ref z4, .int x1005284])), (z4, .inl (T 2, 700, .inl f1005285))]) C0 hE ffX7_5 tyX7 tyX7_ok nmX7 mw_229 pf_1358 hP hD hS 0 rfl rfl rfl (Nat.le_of_ble_eq_true rfl) rfl rfl dX7_next_260 (fun H locs hP hD hS => ?_)
              exact J1005348 3 x1005306 x1005304 _ _ ls ⟨by decide, by decide⟩ ⟨by omega, by omega⟩ (hP.sub (ws' := [(z1, .inr (7, [.ref z2, .ref z3, .int 3, .int x1005302, .int x1005306, .int x1005304, .int x1005282, .int x1005283])), (z2, .inr (9, [.ref z4, .int x1005284])), (z4, .inl (T 2, 700, .inl f1005285))]) [0, 1, 2] rfl) (hD.sub (ws' := [(z1, .inr (7, [.ref z2, .ref z3, .int 3, .int x1005302, .int x1005306, .int x1005304, .int x1005282, .int x1005283])), (z2, .inr (9, [.ref z4, .int x1005284])), (z4, .inl (T 2, 700, .inl f1005285))]) [0, 1, 2] (by decide +kernel) rfl) hS (lv_sub hl [0, 1, 2, 3] rfl)
            · skip
              have kc1005361 : x1005360.toInt ≠ 0 := ne_ti rfl (by decide) c1005361
              have nzx1005360 : ¬ x1005360 = 0 := c1005361
              have J1005374 : ∀ (x1005373 : Int32) (H : Heap) (locs : List Loc) (ls : Array Slot), (0 ≤ x1005373.toInt ∧ x1005373.toInt ≤ 700) → va_P D vwCl [(z1, .inr (7, [.ref z2, .ref z3, .int x1005278, .int x1005302, .int x1005373, .int x1005281, .int x1005282, .int x1005283])), (z2, .inr (9, [.ref z4, .int x1005284])), (z4, .inl (T 2, 700, .inl f1005285))] H → va_D A [(z1, .inr (7, [.ref z2, .ref z3, .int x1005278, .int x1005302, .int x1005373, .int x1005281, .int x1005282, .int x1005283])), (z2, .inr (9, [.ref z4, .int x1005284])), (z4, .inl (T 2, 700, .inl f1005285))] → va_S A s.heap H locs → lv_has ls 4 [(3, .int x1005304), (2, .int x1005280), (1, .int x1005289), (0, .ref z1)] → W p l e { frames := 5, cells := 0, slots := 0, locals := 126 } s m args below meth c H locs 0 0 (MQ below ((Qv2 (S := va_W) (fun (u0 : va_W) => B_X7 T z1 z2 z3 u0 ∧ fv u0 6 = fv ([(z1, .inr (7, [.ref z2, .ref z3, .int x1005278, .int x1005279, .int x1005280, .int x1005281, .int x1005282, .int x1005283]))] : va_W) 6 ∧ fv u0 7 = fv ([(z1, .inr (7, [.ref z2, .ref z3, .int x1005278, .int x1005279, .int x1005280, .int x1005281, .int x1005282, .int x1005283]))] : va_W) 7) (fun (u0 : va_W) => u0 ++ (([(z2, .inr (9, [.ref z4, .int x1005284])), (z4, .inl (T 2, 700, .inl f1005285))] : va_W))) D) A) args s 0 0 A) (F0 m 245 ls []) := by
                intro x1005373 H locs ls hx1005373 hP hD hS hl
                refine lv_aload_n hx hb dX7_next_245 rfl (lv_at hl 3 rfl) ?_
                refine lv_iconst (v := 2) hx hb dX7_next_246 (by decide) ?_
                refine r_put (v := .int 2) (ty := .int) (fs1 := [.ref z2, .ref z3, .int 2, .int x1005302, .int x1005373, .int x1005281, .int x1005282, .int x1005283]) (ws1 := [(z1, .inr (7, [.ref z2, .ref z3, .int 2, .int x1005302, .int x1005373, .int x1005281, .int x1005282, .int x1005283])), (z2, .inr (9, [.ref z4, .int x1005284])), (z4, .inl (T 2, 700, .inl f1005285))]) C0 hE ffX7_2 tyX7 tyX7_ok nmX7 mw_226 pf_1358 hP hD hS 0 rfl rfl rfl (Nat.le_of_ble_eq_true rfl) rfl rfl dX7_next_247 (fun H locs hP hD hS => ?_)
                refine lv_goto (tgt := 263) hx hb dX7_next_250 (by decide) ?_
                exact J1005348 2 x1005373 x1005281 _ _ ls ⟨by decide, by decide⟩ ⟨by omega, by omega⟩ (hP.sub (ws' := [(z1, .inr (7, [.ref z2, .ref z3, .int 2, .int x1005302, .int x1005373, .int x1005281, .int x1005282, .int x1005283])), (z2, .inr (9, [.ref z4, .int x1005284])), (z4, .inl (T 2, 700, .inl f1005285))]) [0, 1, 2] rfl) (hD.sub (ws' := [(z1, .inr (7, [.ref z2, .ref z3, .int 2, .int x1005302, .int x1005373, .int x1005281, .int x1005282, .int x1005283])), (z2, .inr (9, [.ref z4, .int x1005284])), (z4, .inl (T 2, 700, .inl f1005285))]) [0, 1, 2] (by decide +kernel) rfl) hS (lv_sub hl [0, 1, 2, 3] rfl)
              have L1005375 : ∀ (n : Nat) (x1005367 : Int32) (H : Heap) (locs : List Loc) (ls : Array Slot), (0 ≤ x1005367.toInt ∧ x1005367.toInt ≤ 700) → (701 - x1005367.toInt).toNat < n → va_P D vwCl [(z1, .inr (7, [.ref z2, .ref z3, .int x1005278, .int x1005302, .int x1005367, .int x1005281, .int x1005282, .int x1005283])), (z2, .inr (9, [.ref z4, .int x1005284])), (z4, .inl (T 2, 700, .inl f1005285))] H → va_D A [(z1, .inr (7, [.ref z2, .ref z3, .int x1005278, .int x1005302, .int x1005367, .int x1005281, .int x1005282, .int x1005283])), (z2, .inr (9, [.ref z4, .int x1005284])), (z4, .inl (T 2, 700, .inl f1005285))] → va_S A s.heap H locs → lv_has ls 4 [(3, .int x1005304), (2, .int x1005280), (1, .int x1005289), (0, .ref z1)] → W p l e { frames := 5, cells := 0, slots := 0, locals := 126 } s m args below meth c H locs 0 0 (MQ below ((Qv2 (S := va_W) (fun (u0 : va_W) => B_X7 T z1 z2 z3 u0 ∧ fv u0 6 = fv ([(z1, .inr (7, [.ref z2, .ref z3, .int x1005278, .int x1005279, .int x1005280, .int x1005281, .int x1005282, .int x1005283]))] : va_W) 6 ∧ fv u0 7 = fv ([(z1, .inr (7, [.ref z2, .ref z3, .int x1005278, .int x1005279, .int x1005280, .int x1005281, .int x1005282, .int x1005283]))] : va_W) 7) (fun (u0 : va_W) => u0 ++ (([(z2, .inr (9, [.ref z4, .int x1005284])), (z4, .inl (T 2, 700, .inl f1005285))] : va_W))) D) A) args s 0 0 A) (F0 m 201 ls []) := by
                intro n
                induction n with
                | zero =>
                  intro x1005367 H locs ls hx1005367 hms hP hD hS hl
                  exact absurd hms (Nat.not_lt_zero _)
                | succ n ih =>
                  intro x1005367 H locs ls hx1005367 hms hP hD hS hl
                  refine lv_aload_n hx hb dX7_next_201 rfl (lv_at hl 3 rfl) ?_
                  refine r_get (v := .int x1005367) C0 hE ffX7_4 mw_228 hP 0 rfl rfl dX7_next_202 ?_
                  refine lv_aload_n hx hb dX7_next_205 rfl (lv_at hl 3 rfl) ?_
                  refine r_get (v := .ref z2) C0 hE ffX7_0 mw_224 hP 0 rfl rfl dX7_next_206 ?_
                  refine r_get (v := .int x1005284) C0 hE ffX9_1 mw_36 hP 1 rfl rfl dX7_next_209 ?_
                  refine lv_icmp_ge (tgt := 245) hx hb dX7_next_212 (by decide) (fun c1005376 => ?_) (fun c1005376 => ?_)
                  · skip
                    have kc1005376 : x1005284.toInt ≤ x1005367.toInt := le_ti rfl rfl c1005376
                    exact J1005374 x1005367 _ _ ls ⟨by omega, by omega⟩ (hP.sub (ws' := [(z1, .inr (7, [.ref z2, .ref z3, .int x1005278, .int x1005302, .int x1005367, .int x1005281, .int x1005282, .int x1005283])), (z2, .inr (9, [.ref z4, .int x1005284])), (z4, .inl (T 2, 700, .inl f1005285))]) [0, 1, 2] rfl) (hD.sub (ws' := [(z1, .inr (7, [.ref z2, .ref z3, .int x1005278, .int x1005302, .int x1005367, .int x1005281, .int x1005282, .int x1005283])), (z2, .inr (9, [.ref z4, .int x1005284])), (z4, .inl (T 2, 700, .inl f1005285))]) [0, 1, 2] (by decide +kernel) rfl) hS (lv_sub hl [0, 1, 2, 3] rfl)
                  · skip
                    have kc1005376 : x1005367.toInt < x1005284.toInt := nle_ti rfl rfl c1005376
                    refine lv_aload_n hx hb dX7_next_215 rfl (lv_at hl 3 rfl) ?_
                    refine r_get (v := .ref z2) C0 hE ffX7_0 mw_224 hP 0 rfl rfl dX7_next_216 ?_
                    refine lv_aload_n hx hb dX7_next_219 rfl (lv_at hl 3 rfl) ?_
                    refine r_get (v := .int x1005367) C0 hE ffX7_4 mw_228 hP 0 rfl rfl dX7_next_220 ?_
                    refine r_calli (wr := [(z1, .inr (7, [.ref z2, .ref z3, .int x1005278, .int x1005302, .int x1005367, .int x1005281, .int x1005282, .int x1005283]))]) (r_runV2 (As := [.int x1005367]) (rest := []) (wc := [(z2, .inr (9, [.ref z4, .int x1005284])), (z4, .inl (T 2, 700, .inl f1005285))]) (ci := 9) C0 hE hStr hS (va_free (wc := [(z2, .inr (9, [.ref z4, .int x1005284])), (z4, .inl (T 2, 700, .inl f1005285))]) hD hS hA [1, 2] rfl) (g_X9_byteAt_129 l D T sq sv H.size z2 z4 x1005367 [(z2, .inr (9, [.ref z4, .int x1005284])), (z4, .inl (T 2, 700, .inl f1005285))] (⟨x1005284, f1005285, rfl, ⟨by omega, by omega⟩⟩)) mw_296 mw_297 mw_298 mw_2 mw_299 dn_1654 rfl rfl ⟨Nat.le_of_ble_eq_true rfl, Nat.le_of_ble_eq_true rfl⟩ (hP.sub (ws' := [(z2, .inr (9, [.ref z4, .int x1005284])), (z4, .inl (T 2, 700, .inl f1005285))]) [1, 2] rfl) (hD.sub (ws' := [(z2, .inr (9, [.ref z4, .int x1005284])), (z4, .inl (T 2, 700, .inl f1005285))]) [1, 2] (by decide +kernel) rfl) rfl rfl rfl hl.1 rfl (Nat.le_of_ble_eq_true rfl) dX7_next_223 ⟨Nat.le_of_ble_eq_true rfl, Nat.le_of_ble_eq_true rfl⟩) hP hD hS hA [1, 2] [0] rfl rfl (by decide +kernel) (by decide +kernel) (fun x1005377 u H locs hq hP hD hS => ?_)
                    obtain ⟨hp1005378, hx1005377⟩ := hq
                    have hp1005378 := hp1005378 _ rfl
                    have hP : va_P D vwCl [(z1, .inr (7, [.ref z2, .ref z3, .int x1005278, .int x1005302, .int x1005367, .int x1005281, .int x1005282, .int x1005283])), (z2, .inr (9, [.ref z4, .int x1005284])), (z4, .inl (T 2, 700, .inl f1005285))] H := hP
                    have hD : va_D A [(z1, .inr (7, [.ref z2, .ref z3, .int x1005278, .int x1005302, .int x1005367, .int x1005281, .int x1005282, .int x1005283])), (z2, .inr (9, [.ref z4, .int x1005284])), (z4, .inl (T 2, 700, .inl f1005285))] := hD
                    refine W.widen (k := 0) (n := 0) (Nat.le_refl _) (Nat.le_refl _) ?_
                    refine r_calli (wr := [(z1, .inr (7, [.ref z2, .ref z3, .int x1005278, .int x1005302, .int x1005367, .int x1005281, .int x1005282, .int x1005283])), (z2, .inr (9, [.ref z4, .int x1005284])), (z4, .inl (T 2, 700, .inl f1005285))]) (r_runS2 (As := [.int x1005377]) (rest := []) (wc := []) C0 hE hStr hS (va_free (wc := []) hD hS hA [] rfl) (g_X7_isDigit_35455 l D T sq sv H.size x1005377) mw_352 mw_353 mw_11 mw_354 dn_1642 rfl rfl ⟨Nat.le_of_ble_eq_true rfl, Nat.le_of_ble_eq_true rfl⟩ (hP.sub (ws' := []) [] rfl) (hD.sub (ws' := []) [] (by decide +kernel) rfl) hl.1 rfl (Nat.le_of_ble_eq_true rfl) dX7_next_226 ⟨Nat.le_of_ble_eq_true rfl, Nat.le_of_ble_eq_true rfl⟩) hP hD hS hA [] [0, 1, 2] rfl rfl (by decide +kernel) (by decide +kernel) (fun x1005379 u H locs hq hP hD hS => ?_)
                    have hx1005379 : 0 ≤ x1005379.toInt ∧ x1005379.toInt ≤ 1 := hq
                    have hP : va_P D vwCl [(z1, .inr (7, [.ref z2, .ref z3, .int x1005278, .int x1005302, .int x1005367, .int x1005281, .int x1005282, .int x1005283])), (z2, .inr (9, [.ref z4, .int x1005284])), (z4, .inl (T 2, 700, .inl f1005285))] H := hP
                    have hD : va_D A [(z1, .inr (7, [.ref z2, .ref z3, .int x1005278, .int x1005302, .int x1005367, .int x1005281, .int x1005282, .int x1005283])), (z2, .inr (9, [.ref z4, .int x1005284])), (z4, .inl (T 2, 700, .inl f1005285))] := hD
                    refine W.widen (k := 0) (n := 0) (Nat.le_refl _) (Nat.le_refl _) ?_
                    refine lv_if_eq (tgt := 245) hx hb dX7_next_229 (by decide) (fun c1005380 => ?_) (fun c1005380 => ?_)
                    · skip
                      have kc1005380 : x1005379.toInt = 0 := eq_ti rfl (by decide) c1005380
                      exact J1005374 x1005367 _ _ ls ⟨by omega, by omega⟩ (hP.sub (ws' := [(z1, .inr (7, [.ref z2, .ref z3, .int x1005278, .int x1005302, .int x1005367, .int x1005281, .int x1005282, .int x1005283])), (z2, .inr (9, [.ref z4, .int x1005284])), (z4, .inl (T 2, 700, .inl f1005285))]) [0, 1, 2] rfl) (hD.sub (ws' := [(z1, .inr (7, [.ref z2, .ref z3, .int x1005278, .int x1005302, .int x1005367, .int x1005281, .int x1005282, .int x1005283])), (z2, .inr (9, [.ref z4, .int x1005284])), (z4, .inl (T 2, 700, .inl f1005285))]) [0, 1, 2] (by decide +kernel) rfl) hS (lv_sub hl [0, 1, 2, 3] rfl)
                    · skip
                      have kc1005380 : x1005379.toInt ≠ 0 := ne_ti rfl (by decide) c1005380
                      have nzx1005379 : ¬ x1005379 = 0 := c1005380
                      refine lv_aload_n hx hb dX7_next_232 rfl (lv_at hl 3 rfl) ?_
                      refine lv_dup hx hb dX7_next_233 rfl ?_
                      refine r_get (v := .int x1005367) C0 hE ffX7_4 mw_228 hP 0 rfl rfl dX7_next_234 ?_
                      refine lv_iconst (v := 1) hx hb dX7_next_237 (by decide) ?_
                      refine lv_iadd hx hb dX7_next_238 ?_
                      refine lv_topi (fun x1005381 ex1005381 => ?_)
                      have hx1005381 : x1005381.toInt = x1005367.toInt + 1 := ti_add ex1005381 rfl (by decide) (by omega) (by omega)
                      refine r_put (v := .int x1005381) (ty := .int) (fs1 := [.ref z2, .ref z3, .int x1005278, .int x1005302, .int x1005381, .int x1005281, .int x1005282, .int x1005283]) (ws1 := [(z1, .inr (7, [.ref z2, .ref z3, .int x1005278, .int x1005302, .int x1005381, .int x1005281, .int x1005282, .int x1005283])), (z2, .inr (9, [.ref z4, .int x1005284])), (z4, .inl (T 2, 700, .inl f1005285))]) C0 hE ffX7_4 tyX7 tyX7_ok nmX7 mw_228 pf_1358 hP hD hS 0 rfl rfl rfl (Nat.le_of_ble_eq_true rfl) rfl rfl dX7_next_239 (fun H locs hP hD hS => ?_)
                      refine lv_goto (tgt := 201) hx hb dX7_next_242 (by decide) ?_
                      exact ih x1005381 _ _ ls ⟨by omega, by omega⟩ (by omega) (hP.sub (ws' := [(z1, .inr (7, [.ref z2, .ref z3, .int x1005278, .int x1005302, .int x1005381, .int x1005281, .int x1005282, .int x1005283])), (z2, .inr (9, [.ref z4, .int x1005284])), (z4, .inl (T 2, 700, .inl f1005285))]) [0, 1, 2] rfl) (hD.sub (ws' := [(z1, .inr (7, [.ref z2, .ref z3, .int x1005278, .int x1005302, .int x1005381, .int x1005281, .int x1005282, .int x1005283])), (z2, .inr (9, [.ref z4, .int x1005284])), (z4, .inl (T 2, 700, .inl f1005285))]) [0, 1, 2] (by decide +kernel) rfl) hS (lv_sub hl [0, 1, 2, 3] rfl)
              exact L1005375 _ x1005306 _ _ ls ⟨by omega, by omega⟩ (Nat.lt_succ_self _) (hP.sub (ws' := [(z1, .inr (7, [.ref z2, .ref z3, .int x1005278, .int x1005302, .int x1005306, .int x1005281, .int x1005282, .int x1005283])), (z2, .inr (9, [.ref z4, .int x1005284])), (z4, .inl (T 2, 700, .inl f1005285))]) [0, 1, 2] rfl) (hD.sub (ws' := [(z1, .inr (7, [.ref z2, .ref z3, .int x1005278, .int x1005302, .int x1005306, .int x1005281, .int x1005282, .int x1005283])), (z2, .inr (9, [.ref z4, .int x1005284])), (z4, .inl (T 2, 700, .inl f1005285))]) [0, 1, 2] (by decide +kernel) rfl) hS (lv_sub hl [0, 1, 2, 3] rfl)
          · skip
            have kc1005359 : x1005358.toInt ≠ 0 := ne_ti rfl (by decide) c1005359
            have nzx1005358 : ¬ x1005358 = 0 := c1005359
            have J1005394 : ∀ (x1005393 : Int32) (H : Heap) (locs : List Loc) (ls : Array Slot), (0 ≤ x1005393.toInt ∧ x1005393.toInt ≤ 700) → va_P D vwCl [(z1, .inr (7, [.ref z2, .ref z3, .int x1005278, .int x1005302, .int x1005393, .int x1005281, .int x1005282, .int x1005283])), (z2, .inr (9, [.ref z4, .int x1005284])), (z4, .inl (T 2, 700, .inl f1005285))] H → va_D A [(z1, .inr (7, [.ref z2, .ref z3, .int x1005278, .int x1005302, .int x1005393, .int x1005281, .int x1005282, .int x1005283])), (z2, .inr (9, [.ref z4, .int x1005284])), (z4, .inl (T 2, 700, .inl f1005285))] → va_S A s.heap H locs → lv_has ls 4 [(3, .int x1005304), (2, .int x1005280), (1, .int x1005289), (0, .ref z1)] → W p l e { frames := 5, cells := 0, slots := 0, locals := 126 } s m args below meth c H locs 0 0 (MQ below ((Qv2 (S := va_W) (fun (u0 : va_W) => B_X7 T z1 z2 z3 u0 ∧ fv u0 6 = fv ([(z1, .inr (7, [.ref z2, .ref z3, .int x1005278, .int x1005279, .int x1005280, .int x1005281, .int x1005282, .int x1005283]))] : va_W) 6 ∧ fv u0 7 = fv ([(z1, .inr (7, [.ref z2, .ref z3, .int x1005278, .int x1005279, .int x1005280, .int x1005281, .int x1005282, .int x1005283]))] : va_W) 7) (fun (u0 : va_W) => u0 ++ (([(z2, .inr (9, [.ref z4, .int x1005284])), (z4, .inl (T 2, 700, .inl f1005285))] : va_W))) D) A) args s 0 0 A) (F0 m 178 ls []) := by
              intro x1005393 H locs ls hx1005393 hP hD hS hl
              refine lv_aload_n hx hb dX7_next_178 rfl (lv_at hl 3 rfl) ?_
              refine lv_iconst (v := 1) hx hb dX7_next_179 (by decide) ?_
              refine r_put (v := .int 1) (ty := .int) (fs1 := [.ref z2, .ref z3, .int 1, .int x1005302, .int x1005393, .int x1005281, .int x1005282, .int x1005283]) (ws1 := [(z1, .inr (7, [.ref z2, .ref z3, .int 1, .int x1005302, .int x1005393, .int x1005281, .int x1005282, .int x1005283])), (z2, .inr (9, [.ref z4, .int x1005284])), (z4, .inl (T 2, 700, .inl f1005285))]) C0 hE ffX7_2 tyX7 tyX7_ok nmX7 mw_226 pf_1358 hP hD hS 0 rfl rfl rfl (Nat.le_of_ble_eq_true rfl) rfl rfl dX7_next_180 (fun H locs hP hD hS => ?_)
              refine lv_aload_n hx hb dX7_next_183 rfl (lv_at hl 3 rfl) ?_
              refine lv_aload_n hx hb dX7_next_184 rfl (lv_at hl 3 rfl) ?_
              refine r_calli (wr := []) (r_runV2 (As := []) (rest := [.ref z1]) (wc := [(z1, .inr (7, [.ref z2, .ref z3, .int 1, .int x1005302, .int x1005393, .int x1005281, .int x1005282, .int x1005283])), (z2, .inr (9, [.ref z4, .int x1005284])), (z4, .inl (T 2, 700, .inl f1005285))]) (ci := 7) C0 hE hStr hS (va_free (wc := [(z1, .inr (7, [.ref z2, .ref z3, .int 1, .int x1005302, .int x1005393, .int x1005281, .int x1005282, .int x1005283])), (z2, .inr (9, [.ref z4, .int x1005284])), (z4, .inl (T 2, 700, .inl f1005285))]) hD hS hA [0, 1, 2] rfl) (g_X7_ownWord_1002531 l D T sq sv H.size z1 z2 z3 z4 [(z1, .inr (7, [.ref z2, .ref z3, .int 1, .int x1005302, .int x1005393, .int x1005281, .int x1005282, .int x1005283]))] [(z2, .inr (9, [.ref z4, .int x1005284])), (z4, .inl (T 2, 700, .inl f1005285))] (⟨1, x1005302, x1005393, x1005281, x1005282, x1005283, rfl, ⟨by omega, by omega⟩, ⟨by omega, by omega⟩⟩) (⟨x1005284, f1005285, rfl, ⟨by omega, by omega⟩⟩)) mw_306 mw_307 mw_1260 mw_11 mw_308 dn_1639 rfl rfl ⟨Nat.le_of_ble_eq_true rfl, Nat.le_of_ble_eq_true rfl⟩ (hP.sub (ws' := [(z1, .inr (7, [.ref z2, .ref z3, .int 1, .int x1005302, .int x1005393, .int x1005281, .int x1005282, .int x1005283])), (z2, .inr (9, [.ref z4, .int x1005284])), (z4, .inl (T 2, 700, .inl f1005285))]) [0, 1, 2] rfl) (hD.sub (ws' := [(z1, .inr (7, [.ref z2, .ref z3, .int 1, .int x1005302, .int x1005393, .int x1005281, .int x1005282, .int x1005283])), (z2, .inr (9, [.ref z4, .int x1005284])), (z4, .inl (T 2, 700, .inl f1005285))]) [0, 1, 2] (by decide +kernel) rfl) rfl rfl rfl hl.1 rfl (Nat.le_of_ble_eq_true rfl) dX7_next_185 ⟨Nat.le_of_ble_eq_true rfl, Nat.le_of_ble_eq_true rfl⟩) hP hD hS hA [0, 1, 2] [] rfl rfl (by decide +kernel) (by decide +kernel) (fun x1005395 u H locs hq hP hD hS => ?_)
              have hP : va_P D vwCl [(z1, .inr (7, [.ref z2, .ref z3, .int 1, .int x1005302, .int x1005393, .int x1005281, .int x1005282, .int x1005283])), (z2, .inr (9, [.ref z4, .int x1005284])), (z4, .inl (T 2, 700, .inl f1005285))] H := hP
              have hD : va_D A [(z1, .inr (7, [.ref z2, .ref z3, .int 1, .int x1005302, .int x1005393, .int x1005281, .int x1005282, .int x1005283])), (z2, .inr (9, [.ref z4, .int x1005284])), (z4, .inl (T 2, 700, .inl f1005285))] := hD
              refine W.widen (k := 0) (n := 0) (Nat.le_refl _) (Nat.le_refl _) ?_
              refine r_put (v := .int x1005395) (ty := .int) (fs1 := [.ref z2, .ref z3, .int 1, .int x1005302, .int x1005393, .int x1005395, .int x1005282, .int x1005283]) (ws1 := [(z1, .inr (7, [.ref z2, .ref z3, .int 1, .int x1005302, .int x1005393, .int x1005395, .int x1005282, .int x1005283])), (z2, .inr (9, [.ref z4, .int x1005284])), (z4, .inl (T 2, 700, .inl f1005285))]) C0 hE ffX7_5 tyX7 tyX7_ok nmX7 mw_229 pf_1358 hP hD hS 0 rfl rfl rfl (Nat.le_of_ble_eq_true rfl) rfl rfl dX7_next_188 (fun H locs hP hD hS => ?_)
              refine lv_goto (tgt := 263) hx hb dX7_next_191 (by decide) ?_
              exact J1005348 1 x1005393 x1005395 _ _ ls ⟨by decide, by decide⟩ ⟨by omega, by omega⟩ (hP.sub (ws' := [(z1, .inr (7, [.ref z2, .ref z3, .int 1, .int x1005302, .int x1005393, .int x1005395, .int x1005282, .int x1005283])), (z2, .inr (9, [.ref z4, .int x1005284])), (z4, .inl (T 2, 700, .inl f1005285))]) [0, 1, 2] rfl) (hD.sub (ws' := [(z1, .inr (7, [.ref z2, .ref z3, .int 1, .int x1005302, .int x1005393, .int x1005395, .int x1005282, .int x1005283])), (z2, .inr (9, [.ref z4, .int x1005284])), (z4, .inl (T 2, 700, .inl f1005285))]) [0, 1, 2] (by decide +kernel) rfl) hS (lv_sub hl [0, 1, 2, 3] rfl)
            have L1005396 : ∀ (n : Nat) (x1005387 : Int32) (H : Heap) (locs : List Loc) (ls : Array Slot), (0 ≤ x1005387.toInt ∧ x1005387.toInt ≤ 700) → (701 - x1005387.toInt).toNat < n → va_P D vwCl [(z1, .inr (7, [.ref z2, .ref z3, .int x1005278, .int x1005302, .int x1005387, .int x1005281, .int x1005282, .int x1005283])), (z2, .inr (9, [.ref z4, .int x1005284])), (z4, .inl (T 2, 700, .inl f1005285))] H → va_D A [(z1, .inr (7, [.ref z2, .ref z3, .int x1005278, .int x1005302, .int x1005387, .int x1005281, .int x1005282, .int x1005283])), (z2, .inr (9, [.ref z4, .int x1005284])), (z4, .inl (T 2, 700, .inl f1005285))] → va_S A s.heap H locs → lv_has ls 4 [(3, .int x1005304), (2, .int x1005280), (1, .int x1005289), (0, .ref z1)] → W p l e { frames := 5, cells := 0, slots := 0, locals := 126 } s m args below meth c H locs 0 0 (MQ below ((Qv2 (S := va_W) (fun (u0 : va_W) => B_X7 T z1 z2 z3 u0 ∧ fv u0 6 = fv ([(z1, .inr (7, [.ref z2, .ref z3, .int x1005278, .int x1005279, .int x1005280, .int x1005281, .int x1005282, .int x1005283]))] : va_W) 6 ∧ fv u0 7 = fv ([(z1, .inr (7, [.ref z2, .ref z3, .int x1005278, .int x1005279, .int x1005280, .int x1005281, .int x1005282, .int x1005283]))] : va_W) 7) (fun (u0 : va_W) => u0 ++ (([(z2, .inr (9, [.ref z4, .int x1005284])), (z4, .inl (T 2, 700, .inl f1005285))] : va_W))) D) A) args s 0 0 A) (F0 m 134 ls []) := by
              intro n
              induction n with
              | zero =>
                intro x1005387 H locs ls hx1005387 hms hP hD hS hl
                exact absurd hms (Nat.not_lt_zero _)
              | succ n ih =>
                intro x1005387 H locs ls hx1005387 hms hP hD hS hl
                refine lv_aload_n hx hb dX7_next_134 rfl (lv_at hl 3 rfl) ?_
                refine r_get (v := .int x1005387) C0 hE ffX7_4 mw_228 hP 0 rfl rfl dX7_next_135 ?_
                refine lv_aload_n hx hb dX7_next_138 rfl (lv_at hl 3 rfl) ?_
                refine r_get (v := .ref z2) C0 hE ffX7_0 mw_224 hP 0 rfl rfl dX7_next_139 ?_
                refine r_get (v := .int x1005284) C0 hE ffX9_1 mw_36 hP 1 rfl rfl dX7_next_142 ?_
                refine lv_icmp_ge (tgt := 178) hx hb dX7_next_145 (by decide) (fun c1005397 => ?_) (fun c1005397 => ?_)
                · skip
                  have kc1005397 : x1005284.toInt ≤ x1005387.toInt := le_ti rfl rfl c1005397
                  exact J1005394 x1005387 _ _ ls ⟨by omega, by omega⟩ (hP.sub (ws' := [(z1, .inr (7, [.ref z2, .ref z3, .int x1005278, .int x1005302, .int x1005387, .int x1005281, .int x1005282, .int x1005283])), (z2, .inr (9, [.ref z4, .int x1005284])), (z4, .inl (T 2, 700, .inl f1005285))]) [0, 1, 2] rfl) (hD.sub (ws' := [(z1, .inr (7, [.ref z2, .ref z3, .int x1005278, .int x1005302, .int x1005387, .int x1005281, .int x1005282, .int x1005283])), (z2, .inr (9, [.ref z4, .int x1005284])), (z4, .inl (T 2, 700, .inl f1005285))]) [0, 1, 2] (by decide +kernel) rfl) hS (lv_sub hl [0, 1, 2, 3] rfl)
                · skip
                  have kc1005397 : x1005387.toInt < x1005284.toInt := nle_ti rfl rfl c1005397
                  refine lv_aload_n hx hb dX7_next_148 rfl (lv_at hl 3 rfl) ?_
                  refine r_get (v := .ref z2) C0 hE ffX7_0 mw_224 hP 0 rfl rfl dX7_next_149 ?_
                  refine lv_aload_n hx hb dX7_next_152 rfl (lv_at hl 3 rfl) ?_
                  refine r_get (v := .int x1005387) C0 hE ffX7_4 mw_228 hP 0 rfl rfl dX7_next_153 ?_
                  refine r_calli (wr := [(z1, .inr (7, [.ref z2, .ref z3, .int x1005278, .int x1005302, .int x1005387, .int x1005281, .int x1005282, .int x1005283]))]) (r_runV2 (As := [.int x1005387]) (rest := []) (wc := [(z2, .inr (9, [.ref z4, .int x1005284])), (z4, .inl (T 2, 700, .inl f1005285))]) (ci := 9) C0 hE hStr hS (va_free (wc := [(z2, .inr (9, [.ref z4, .int x1005284])), (z4, .inl (T 2, 700, .inl f1005285))]) hD hS hA [1, 2] rfl) (g_X9_byteAt_129 l D T sq sv H.size z2 z4 x1005387 [(z2, .inr (9, [.ref z4, .int x1005284])), (z4, .inl (T 2, 700, .inl f1005285))] (⟨x1005284, f1005285, rfl, ⟨by omega, by omega⟩⟩)) mw_296 mw_297 mw_298 mw_2 mw_299 dn_1654 rfl rfl ⟨Nat.le_of_ble_eq_true rfl, Nat.le_of_ble_eq_true rfl⟩ (hP.sub (ws' := [(z2, .inr (9, [.ref z4, .int x1005284])), (z4, .inl (T 2, 700, .inl f1005285))]) [1, 2] rfl) (hD.sub (ws' := [(z2, .inr (9, [.ref z4, .int x1005284])), (z4, .inl (T 2, 700, .inl f1005285))]) [1, 2] (by decide +kernel) rfl) rfl rfl rfl hl.1 rfl (Nat.le_of_ble_eq_true rfl) dX7_next_156 ⟨Nat.le_of_ble_eq_true rfl, Nat.le_of_ble_eq_true rfl⟩) hP hD hS hA [1, 2] [0] rfl rfl (by decide +kernel) (by decide +kernel) (fun x1005398 u H locs hq hP hD hS => ?_)
                  obtain ⟨hp1005399, hx1005398⟩ := hq
                  have hp1005399 := hp1005399 _ rfl
                  have hP : va_P D vwCl [(z1, .inr (7, [.ref z2, .ref z3, .int x1005278, .int x1005302, .int x1005387, .int x1005281, .int x1005282, .int x1005283])), (z2, .inr (9, [.ref z4, .int x1005284])), (z4, .inl (T 2, 700, .inl f1005285))] H := hP
                  have hD : va_D A [(z1, .inr (7, [.ref z2, .ref z3, .int x1005278, .int x1005302, .int x1005387, .int x1005281, .int x1005282, .int x1005283])), (z2, .inr (9, [.ref z4, .int x1005284])), (z4, .inl (T 2, 700, .inl f1005285))] := hD
                  refine W.widen (k := 0) (n := 0) (Nat.le_refl _) (Nat.le_refl _) ?_
                  refine r_calli (wr := [(z1, .inr (7, [.ref z2, .ref z3, .int x1005278, .int x1005302, .int x1005387, .int x1005281, .int x1005282, .int x1005283])), (z2, .inr (9, [.ref z4, .int x1005284])), (z4, .inl (T 2, 700, .inl f1005285))]) (r_runS2 (As := [.int x1005398]) (rest := []) (wc := []) C0 hE hStr hS (va_free (wc := []) hD hS hA [] rfl) (g_X7_isLetter_35317 l D T sq sv H.size x1005398) mw_303 mw_304 mw_11 mw_305 dn_1641 rfl rfl ⟨Nat.le_of_ble_eq_true rfl, Nat.le_of_ble_eq_true rfl⟩ (hP.sub (ws' := []) [] rfl) (hD.sub (ws' := []) [] (by decide +kernel) rfl) hl.1 rfl (Nat.le_of_ble_eq_true rfl) dX7_next_159 ⟨Nat.le_of_ble_eq_true rfl, Nat.le_of_ble_eq_true rfl⟩) hP hD hS hA [] [0, 1, 2] rfl rfl (by decide +kernel) (by decide +kernel) (fun x1005400 u H locs hq hP hD hS => ?_)
                  have hx1005400 : 0 ≤ x1005400.toInt ∧ x1005400.toInt ≤ 1 := hq
                  have hP : va_P D vwCl [(z1, .inr (7, [.ref z2, .ref z3, .int x1005278, .int x1005302, .int x1005387, .int x1005281, .int x1005282, .int x1005283])), (z2, .inr (9, [.ref z4, .int x1005284])), (z4, .inl (T 2, 700, .inl f1005285))] H := hP
                  have hD : va_D A [(z1, .inr (7, [.ref z2, .ref z3, .int x1005278, .int x1005302, .int x1005387, .int x1005281, .int x1005282, .int x1005283])), (z2, .inr (9, [.ref z4, .int x1005284])), (z4, .inl (T 2, 700, .inl f1005285))] := hD
                  refine W.widen (k := 0) (n := 0) (Nat.le_refl _) (Nat.le_refl _) ?_
                  refine lv_if_eq (tgt := 178) hx hb dX7_next_162 (by decide) (fun c1005401 => ?_) (fun c1005401 => ?_)
                  · skip
                    have kc1005401 : x1005400.toInt = 0 := eq_ti rfl (by decide) c1005401
                    exact J1005394 x1005387 _ _ ls ⟨by omega, by omega⟩ (hP.sub (ws' := [(z1, .inr (7, [.ref z2, .ref z3, .int x1005278, .int x1005302, .int x1005387, .int x1005281, .int x1005282, .int x1005283])), (z2, .inr (9, [.ref z4, .int x1005284])), (z4, .inl (T 2, 700, .inl f1005285))]) [0, 1, 2] rfl) (hD.sub (ws' := [(z1, .inr (7, [.ref z2, .ref z3, .int x1005278, .int x1005302, .int x1005387, .int x1005281, .int x1005282, .int x1005283])), (z2, .inr (9, [.ref z4, .int x1005284])), (z4, .inl (T 2, 700, .inl f1005285))]) [0, 1, 2] (by decide +kernel) rfl) hS (lv_sub hl [0, 1, 2, 3] rfl)
                  · skip
                    have kc1005401 : x1005400.toInt ≠ 0 := ne_ti rfl (by decide) c1005401
                    have nzx1005400 : ¬ x1005400 = 0 := c1005401
                    refine lv_aload_n hx hb dX7_next_165 rfl (lv_at hl 3 rfl) ?_
                    refine lv_dup hx hb dX7_next_166 rfl ?_
                    refine r_get (v := .int x1005387) C0 hE ffX7_4 mw_228 hP 0 rfl rfl dX7_next_167 ?_
                    refine lv_iconst (v := 1) hx hb dX7_next_170 (by decide) ?_
                    refine lv_iadd hx hb dX7_next_171 ?_
                    refine lv_topi (fun x1005402 ex1005402 => ?_)
                    have hx1005402 : x1005402.toInt = x1005387.toInt + 1 := ti_add ex1005402 rfl (by decide) (by omega) (by omega)
                    refine r_put (v := .int x1005402) (ty := .int) (fs1 := [.ref z2, .ref z3, .int x1005278, .int x1005302, .int x1005402, .int x1005281, .int x1005282, .int x1005283]) (ws1 := [(z1, .inr (7, [.ref z2, .ref z3, .int x1005278, .int x1005302, .int x1005402, .int x1005281, .int x1005282, .int x1005283])), (z2, .inr (9, [.ref z4, .int x1005284])), (z4, .inl (T 2, 700, .inl f1005285))]) C0 hE ffX7_4 tyX7 tyX7_ok nmX7 mw_228 pf_1358 hP hD hS 0 rfl rfl rfl (Nat.le_of_ble_eq_true rfl) rfl rfl dX7_next_172 (fun H locs hP hD hS => ?_)
                    refine lv_goto (tgt := 134) hx hb dX7_next_175 (by decide) ?_
                    exact ih x1005402 _ _ ls ⟨by omega, by omega⟩ (by omega) (hP.sub (ws' := [(z1, .inr (7, [.ref z2, .ref z3, .int x1005278, .int x1005302, .int x1005402, .int x1005281, .int x1005282, .int x1005283])), (z2, .inr (9, [.ref z4, .int x1005284])), (z4, .inl (T 2, 700, .inl f1005285))]) [0, 1, 2] rfl) (hD.sub (ws' := [(z1, .inr (7, [.ref z2, .ref z3, .int x1005278, .int x1005302, .int x1005402, .int x1005281, .int x1005282, .int x1005283])), (z2, .inr (9, [.ref z4, .int x1005284])), (z4, .inl (T 2, 700, .inl f1005285))]) [0, 1, 2] (by decide +kernel) rfl) hS (lv_sub hl [0, 1, 2, 3] rfl)
            exact L1005396 _ x1005306 _ _ ls ⟨by omega, by omega⟩ (Nat.lt_succ_self _) (hP.sub (ws' := [(z1, .inr (7, [.ref z2, .ref z3, .int x1005278, .int x1005302, .int x1005306, .int x1005281, .int x1005282, .int x1005283])), (z2, .inr (9, [.ref z4, .int x1005284])), (z4, .inl (T 2, 700, .inl f1005285))]) [0, 1, 2] rfl) (hD.sub (ws' := [(z1, .inr (7, [.ref z2, .ref z3, .int x1005278, .int x1005302, .int x1005306, .int x1005281, .int x1005282, .int x1005283])), (z2, .inr (9, [.ref z4, .int x1005284])), (z4, .inl (T 2, 700, .inl f1005285))]) [0, 1, 2] (by decide +kernel) rfl) hS (lv_sub hl [0, 1, 2, 3] rfl)
        · skip
          have kc1005307 : x1005304.toInt = (-1) := eq_ti rfl (by decide) c1005307
          refine lv_aload_n hx hb dX7_next_111 rfl (lv_at hl 3 rfl) ?_
          refine lv_iconst (v := 0) hx hb dX7_next_112 (by decide) ?_
          refine r_put (v := .int 0) (ty := .int) (fs1 := [.ref z2, .ref z3, .int 0, .int x1005302, .int x1005306, .int x1005281, .int x1005282, .int x1005283]) (ws1 := [(z1, .inr (7, [.ref z2, .ref z3, .int 0, .int x1005302, .int x1005306, .int x1005281, .int x1005282, .int x1005283])), (z2, .inr (9, [.ref z4, .int x1005284])), (z4, .inl (T 2, 700, .inl f1005285))]) C0 hE ffX7_2 tyX7 tyX7_ok nmX7 mw_226 pf_1358 hP hD hS 0 rfl rfl rfl (Nat.le_of_ble_eq_true rfl) rfl rfl dX7_next_113 (fun H locs hP hD hS => ?_)
          refine lv_aload_n hx hb dX7_next_116 rfl (lv_at hl 3 rfl) ?_
          refine lv_aload_n hx hb dX7_next_117 rfl (lv_at hl 3 rfl) ?_
          refine r_get (v := .int x1005302) C0 hE ffX7_3 mw_227 hP 0 rfl rfl dX7_next_118 ?_
          refine r_put (v := .int x1005302) (ty := .int) (fs1 := [.ref z2, .ref z3, .int 0, .int x1005302, .int x1005302, .int x1005281, .int x1005282, .int x1005283]) (ws1 := [(z1, .inr (7, [.ref z2, .ref z3, .int 0, .int x1005302, .int x1005302, .int x1005281, .int x1005282, .int x1005283])), (z2, .inr (9, [.ref z4, .int x1005284])), (z4, .inl (T 2, 700, .inl f1005285))]) C0 hE ffX7_4 tyX7 tyX7_ok nmX7 mw_228 pf_1358 hP hD hS 0 rfl rfl rfl (Nat.le_of_ble_eq_true rfl) rfl rfl dX7_next_121 (fun H locs hP hD hS => ?_)
          refine lv_goto (tgt := 263) hx hb dX7_next_124 (by decide) ?_
          exact J1005348 0 x1005302 x1005281 _ _ ls ⟨by decide, by decide⟩ ⟨by omega, by omega⟩ (hP.sub (ws' := [(z1, .inr (7, [.ref z2, .ref z3, .int 0, .int x1005302, .int x1005302, .int x1005281, .int x1005282, .int x1005283])), (z2, .inr (9, [.ref z4, .int x1005284])), (z4, .inl (T 2, 700, .inl f1005285))]) [0, 1, 2] rfl) (hD.sub (ws' := [(z1, .inr (7, [.ref z2, .ref z3, .int 0, .int x1005302, .int x1005302, .int x1005281, .int x1005282, .int x1005283])), (z2, .inr (9, [.ref z4, .int x1005284])), (z4, .inl (T 2, 700, .inl f1005285))]) [0, 1, 2] (by decide +kernel) rfl) hS (lv_sub hl [0, 1, 2, 3] rfl)
      have L1005403 : ∀ (n : Nat) (x1005296 : Int32) (H : Heap) (locs : List Loc) (ls : Array Slot), (0 ≤ x1005296.toInt ∧ x1005296.toInt ≤ 700) → (701 - x1005296.toInt).toNat < n → va_P D vwCl [(z1, .inr (7, [.ref z2, .ref z3, .int x1005278, .int x1005296, .int x1005280, .int x1005281, .int x1005282, .int x1005283])), (z2, .inr (9, [.ref z4, .int x1005284])), (z4, .inl (T 2, 700, .inl f1005285))] H → va_D A [(z1, .inr (7, [.ref z2, .ref z3, .int x1005278, .int x1005296, .int x1005280, .int x1005281, .int x1005282, .int x1005283])), (z2, .inr (9, [.ref z4, .int x1005284])), (z4, .inl (T 2, 700, .inl f1005285))] → va_S A s.heap H locs → lv_has ls 4 [(2, .int x1005280), (1, .int x1005289), (0, .ref z1)] → W p l e { frames := 5, cells := 0, slots := 0, locals := 126 } s m args below meth c H locs 0 0 (MQ below ((Qv2 (S := va_W) (fun (u0 : va_W) => B_X7 T z1 z2 z3 u0 ∧ fv u0 6 = fv ([(z1, .inr (7, [.ref z2, .ref z3, .int x1005278, .int x1005279, .int x1005280, .int x1005281, .int x1005282, .int x1005283]))] : va_W) 6 ∧ fv u0 7 = fv ([(z1, .inr (7, [.ref z2, .ref z3, .int x1005278, .int x1005279, .int x1005280, .int x1005281, .int x1005282, .int x1005283]))] : va_W) 7) (fun (u0 : va_W) => u0 ++ (([(z2, .inr (9, [.ref z4, .int x1005284])), (z4, .inl (T 2, 700, .inl f1005285))] : va_W))) D) A) args s 0 0 A) (F0 m 40 ls []) := by
        intro n
        induction n with
        | zero =>
          intro x1005296 H locs ls hx1005296 hms hP hD hS hl
          exact absurd hms (Nat.not_lt_zero _)
        | succ n ih =>
          intro x1005296 H locs ls hx1005296 hms hP hD hS hl
          refine lv_aload_n hx hb dX7_next_40 rfl (lv_at hl 2 rfl) ?_
          refine r_get (v := .int x1005296) C0 hE ffX7_3 mw_227 hP 0 rfl rfl dX7_next_41 ?_
          refine lv_aload_n hx hb dX7_next_44 rfl (lv_at hl 2 rfl) ?_
          refine r_get (v := .ref z2) C0 hE ffX7_0 mw_224 hP 0 rfl rfl dX7_next_45 ?_
          refine r_get (v := .int x1005284) C0 hE ffX9_1 mw_36 hP 1 rfl rfl dX7_next_48 ?_
          refine lv_icmp_ge (tgt := 84) hx hb dX7_next_51 (by decide) (fun c1005404 => ?_) (fun c1005404 => ?_)
          · skip
            have kc1005404 : x1005284.toInt ≤ x1005296.toInt := le_ti rfl rfl c1005404
            exact J1005303 x1005296 _ _ ls ⟨by omega, by omega⟩ (hP.sub (ws' := [(z1, .inr (7, [.ref z2, .ref z3, .int x1005278, .int x1005296, .int x1005280, .int x1005281, .int x1005282, .int x1005283])), (z2, .inr (9, [.ref z4, .int x1005284])), (z4, .inl (T 2, 700, .inl f1005285))]) [0, 1, 2] rfl) (hD.sub (ws' := [(z1, .inr (7, [.ref z2, .ref z3, .int x1005278, .int x1005296, .int x1005280, .int x1005281, .int x1005282, .int x1005283])), (z2, .inr (9, [.ref z4, .int x1005284])), (z4, .inl (T 2, 700, .inl f1005285))]) [0, 1, 2] (by decide +kernel) rfl) hS (lv_sub hl [0, 1, 2] rfl)
          · skip
            have kc1005404 : x1005296.toInt < x1005284.toInt := nle_ti rfl rfl c1005404
            refine lv_aload_n hx hb dX7_next_54 rfl (lv_at hl 2 rfl) ?_
            refine r_get (v := .ref z2) C0 hE ffX7_0 mw_224 hP 0 rfl rfl dX7_next_55 ?_
            refine lv_aload_n hx hb dX7_next_58 rfl (lv_at hl 2 rfl) ?_
            refine r_get (v := .int x1005296) C0 hE ffX7_3 mw_227 hP 0 rfl rfl dX7_next_59 ?_
            refine r_calli (wr := [(z1, .inr (7, [.ref z2, .ref z3, .int x1005278, .int x1005296, .int x1005280, .int x1005281, .int x1005282, .int x1005283]))]) (r_runV2 (As := [.int x1005296]) (rest := []) (wc := [(z2, .inr (9, [.ref z4, .int x1005284])), (z4, .inl (T 2, 700, .inl f1005285))]) (ci := 9) C0 hE hStr hS (va_free (wc := [(z2, .inr (9, [.ref z4, .int x1005284])), (z4, .inl (T 2, 700, .inl f1005285))]) hD hS hA [1, 2] rfl) (g_X9_byteAt_129 l D T sq sv H.size z2 z4 x1005296 [(z2, .inr (9, [.ref z4, .int x1005284])), (z4, .inl (T 2, 700, .inl f1005285))] (⟨x1005284, f1005285, rfl, ⟨by omega, by omega⟩⟩)) mw_296 mw_297 mw_298 mw_2 mw_299 dn_1654 rfl rfl ⟨Nat.le_of_ble_eq_true rfl, Nat.le_of_ble_eq_true rfl⟩ (hP.sub (ws' := [(z2, .inr (9, [.ref z4, .int x1005284])), (z4, .inl (T 2, 700, .inl f1005285))]) [1, 2] rfl) (hD.sub (ws' := [(z2, .inr (9, [.ref z4, .int x1005284])), (z4, .inl (T 2, 700, .inl f1005285))]) [1, 2] (by decide +kernel) rfl) rfl rfl rfl hl.1 rfl (Nat.le_of_ble_eq_true rfl) dX7_next_62 ⟨Nat.le_of_ble_eq_true rfl, Nat.le_of_ble_eq_true rfl⟩) hP hD hS hA [1, 2] [0] rfl rfl (by decide +kernel) (by decide +kernel) (fun x1005405 u H locs hq hP hD hS => ?_)
            obtain ⟨hp1005406, hx1005405⟩ := hq
            have hp1005406 := hp1005406 _ rfl
            have hP : va_P D vwCl [(z1, .inr (7, [.ref z2, .ref z3, .int x1005278, .int x1005296, .int x1005280, .int x1005281, .int x1005282, .int x1005283])), (z2, .inr (9, [.ref z4, .int x1005284])), (z4, .inl (T 2, 700, .inl f1005285))] H := hP
            have hD : va_D A [(z1, .inr (7, [.ref z2, .ref z3, .int x1005278, .int x1005296, .int x1005280, .int x1005281, .int x1005282, .int x1005283])), (z2, .inr (9, [.ref z4, .int x1005284])), (z4, .inl (T 2, 700, .inl f1005285))] := hD
            refine W.widen (k := 0) (n := 0) (Nat.le_refl _) (Nat.le_refl _) ?_
            refine r_calli (wr := [(z1, .inr (7, [.ref z2, .ref z3, .int x1005278, .int x1005296, .int x1005280, .int x1005281, .int x1005282, .int x1005283])), (z2, .inr (9, [.ref z4, .int x1005284])), (z4, .inl (T 2, 700, .inl f1005285))]) (r_runS2 (As := [.int x1005405]) (rest := []) (wc := []) C0 hE hStr hS (va_free (wc := []) hD hS hA [] rfl) (g_X7_isBlank_35585 l D T sq sv H.size x1005405) mw_300 mw_301 mw_11 mw_302 dn_1640 rfl rfl ⟨Nat.le_of_ble_eq_true rfl, Nat.le_of_ble_eq_true rfl⟩ (hP.sub (ws' := []) [] rfl) (hD.sub (ws' := []) [] (by decide +kernel) rfl) hl.1 rfl (Nat.le_of_ble_eq_true rfl) dX7_next_65 ⟨Nat.le_of_ble_eq_true rfl, Nat.le_of_ble_eq_true rfl⟩) hP hD hS hA [] [0, 1, 2] rfl rfl (by decide +kernel) (by decide +kernel) (fun x1005407 u H locs hq hP hD hS => ?_)
            have hx1005407 : 0 ≤ x1005407.toInt ∧ x1005407.toInt ≤ 1 := hq
            have hP : va_P D vwCl [(z1, .inr (7, [.ref z2, .ref z3, .int x1005278, .int x1005296, .int x1005280, .int x1005281, .int x1005282, .int x1005283])), (z2, .inr (9, [.ref z4, .int x1005284])), (z4, .inl (T 2, 700, .inl f1005285))] H := hP
            have hD : va_D A [(z1, .inr (7, [.ref z2, .ref z3, .int x1005278, .int x1005296, .int x1005280, .int x1005281, .int x1005282, .int x1005283])), (z2, .inr (9, [.ref z4, .int x1005284])), (z4, .inl (T 2, 700, .inl f1005285))] := hD
            refine W.widen (k := 0) (n := 0) (Nat.le_refl _) (Nat.le_refl _) ?_
            refine lv_if_eq (tgt := 84) hx hb dX7_next_68 (by decide) (fun c1005408 => ?_) (fun c1005408 => ?_)
            · skip
              have kc1005408 : x1005407.toInt = 0 := eq_ti rfl (by decide) c1005408
              exact J1005303 x1005296 _ _ ls ⟨by omega, by omega⟩ (hP.sub (ws' := [(z1, .inr (7, [.ref z2, .ref z3, .int x1005278, .int x1005296, .int x1005280, .int x1005281, .int x1005282, .int x1005283])), (z2, .inr (9, [.ref z4, .int x1005284])), (z4, .inl (T 2, 700, .inl f1005285))]) [0, 1, 2] rfl) (hD.sub (ws' := [(z1, .inr (7, [.ref z2, .ref z3, .int x1005278, .int x1005296, .int x1005280, .int x1005281, .int x1005282, .int x1005283])), (z2, .inr (9, [.ref z4, .int x1005284])), (z4, .inl (T 2, 700, .inl f1005285))]) [0, 1, 2] (by decide +kernel) rfl) hS (lv_sub hl [0, 1, 2] rfl)
            · skip
              have kc1005408 : x1005407.toInt ≠ 0 := ne_ti rfl (by decide) c1005408
              have nzx1005407 : ¬ x1005407 = 0 := c1005408
              refine lv_aload_n hx hb dX7_next_71 rfl (lv_at hl 2 rfl) ?_
              refine lv_dup hx hb dX7_next_72 rfl ?_
              refine r_get (v := .int x1005296) C0 hE ffX7_3 mw_227 hP 0 rfl rfl dX7_next_73 ?_
              refine lv_iconst (v := 1) hx hb dX7_next_76 (by decide) ?_
              refine lv_iadd hx hb dX7_next_77 ?_
              refine lv_topi (fun x1005409 ex1005409 => ?_)
              have hx1005409 : x1005409.toInt = x1005296.toInt + 1 := ti_add ex1005409 rfl (by decide) (by omega) (by omega)
              refine r_put (v := .int x1005409) (ty := .int) (fs1 := [.ref z2, .ref z3, .int x1005278, .int x1005409, .int x1005280, .int x1005281, .int x1005282, .int x1005283]) (ws1 := [(z1, .inr (7, [.ref z2, .ref z3, .int x1005278, .int x1005409, .int x1005280, .int x1005281, .int x1005282, .int x1005283])), (z2, .inr (9, [.ref z4, .int x1005284])), (z4, .inl (T 2, 700, .inl f1005285))]) C0 hE ffX7_3 tyX7 tyX7_ok nmX7 mw_227 pf_1358 hP hD hS 0 rfl rfl rfl (Nat.le_of_ble_eq_true rfl) rfl rfl dX7_next_78 (fun H locs hP hD hS => ?_)
              refine lv_goto (tgt := 40) hx hb dX7_next_81 (by decide) ?_
              exact ih x1005409 _ _ ls ⟨by omega, by omega⟩ (by omega) (hP.sub (ws' := [(z1, .inr (7, [.ref z2, .ref z3, .int x1005278, .int x1005409, .int x1005280, .int x1005281, .int x1005282, .int x1005283])), (z2, .inr (9, [.ref z4, .int x1005284])), (z4, .inl (T 2, 700, .inl f1005285))]) [0, 1, 2] rfl) (hD.sub (ws' := [(z1, .inr (7, [.ref z2, .ref z3, .int x1005278, .int x1005409, .int x1005280, .int x1005281, .int x1005282, .int x1005283])), (z2, .inr (9, [.ref z4, .int x1005284])), (z4, .inl (T 2, 700, .inl f1005285))]) [0, 1, 2] (by decide +kernel) rfl) hS (lv_sub hl [0, 1, 2] rfl)
      exact L1005403 _ x1005280 _ _ ls ⟨by omega, by omega⟩ (Nat.lt_succ_self _) (hP.sub (ws' := [(z1, .inr (7, [.ref z2, .ref z3, .int x1005278, .int x1005280, .int x1005280, .int x1005281, .int x1005282, .int x1005283])), (z2, .inr (9, [.ref z4, .int x1005284])), (z4, .inl (T 2, 700, .inl f1005285))]) [0, 1, 2] rfl) (hD.sub (ws' := [(z1, .inr (7, [.ref z2, .ref z3, .int x1005278, .int x1005280, .int x1005280, .int x1005281, .int x1005282, .int x1005283])), (z2, .inr (9, [.ref z4, .int x1005284])), (z4, .inl (T 2, 700, .inl f1005285))]) [0, 1, 2] (by decide +kernel) rfl) hS (lv_sub hl [0, 1, 2] rfl)
    refine lv_icmp_eq (tgt := 24) hx hb dX7_next_13 (by decide) (fun c1005287 => ?_) (fun c1005287 => ?_)
    · skip
      have kc1005287 : x1005278.toInt = 1 := eq_ti rfl (by decide) c1005287
      refine lv_iconst (v := 1) hx hb dX7_next_24 (by decide) ?_
      refine lv_goto (tgt := 29) hx hb dX7_next_25 (by decide) ?_
      exact J1005290 1 _ _ ls ⟨by decide, by decide⟩ (hP.sub (ws' := [(z1, .inr (7, [.ref z2, .ref z3, .int x1005278, .int x1005279, .int x1005280, .int x1005281, .int x1005282, .int x1005283])), (z2, .inr (9, [.ref z4, .int x1005284])), (z4, .inl (T 2, 700, .inl f1005285))]) [0, 1, 2] rfl) (hD.sub (ws' := [(z1, .inr (7, [.ref z2, .ref z3, .int x1005278, .int x1005279, .int x1005280, .int x1005281, .int x1005282, .int x1005283])), (z2, .inr (9, [.ref z4, .int x1005284])), (z4, .inl (T 2, 700, .inl f1005285))]) [0, 1, 2] (by decide +kernel) rfl) hS (lv_sub hl [0] rfl)
    · skip
      have kc1005287 : x1005278.toInt ≠ 1 := ne_ti rfl (by decide) c1005287
      refine lv_aload_n hx hb dX7_next_16 rfl (lv_at hl 0 rfl) ?_
      refine r_get (v := .int x1005278) C0 hE ffX7_2 mw_226 hP 0 rfl rfl dX7_next_17 ?_
      refine lv_iconst (v := 2) hx hb dX7_next_20 (by decide) ?_
      refine lv_icmp_ne (tgt := 28) hx hb dX7_next_21 (by decide) (fun c1005410 => ?_) (fun c1005410 => ?_)
      · skip
        have kc1005410 : x1005278.toInt ≠ 2 := ne_ti rfl (by decide) c1005410
        refine lv_iconst (v := 0) hx hb dX7_next_28 (by decide) ?_
        exact J1005290 0 _ _ ls ⟨by decide, by decide⟩ (hP.sub (ws' := [(z1, .inr (7, [.ref z2, .ref z3, .int x1005278, .int x1005279, .int x1005280, .int x1005281, .int x1005282, .int x1005283])), (z2, .inr (9, [.ref z4, .int x1005284])), (z4, .inl (T 2, 700, .inl f1005285))]) [0, 1, 2] rfl) (hD.sub (ws' := [(z1, .inr (7, [.ref z2, .ref z3, .int x1005278, .int x1005279, .int x1005280, .int x1005281, .int x1005282, .int x1005283])), (z2, .inr (9, [.ref z4, .int x1005284])), (z4, .inl (T 2, 700, .inl f1005285))]) [0, 1, 2] (by decide +kernel) rfl) hS (lv_sub hl [0] rfl)
      · skip
        have kc1005410 : x1005278.toInt = 2 := eq_ti rfl (by decide) c1005410
        refine lv_iconst (v := 1) hx hb dX7_next_24 (by decide) ?_
        refine lv_goto (tgt := 29) hx hb dX7_next_25 (by decide) ?_
        exact J1005290 1 _ _ ls ⟨by decide, by decide⟩ (hP.sub (ws' := [(z1, .inr (7, [.ref z2, .ref z3, .int x1005278, .int x1005279, .int x1005280, .int x1005281, .int x1005282, .int x1005283])), (z2, .inr (9, [.ref z4, .int x1005284])), (z4, .inl (T 2, 700, .inl f1005285))]) [0, 1, 2] rfl) (hD.sub (ws' := [(z1, .inr (7, [.ref z2, .ref z3, .int x1005278, .int x1005279, .int x1005280, .int x1005281, .int x1005282, .int x1005283])), (z2, .inr (9, [.ref z4, .int x1005284])), (z4, .inl (T 2, 700, .inl f1005285))]) [0, 1, 2] (by decide +kernel) rfl) hS (lv_sub hl [0] rfl)
  · skip
    have kc1005286 : x1005282.toInt ≠ 0 := ne_ti rfl (by decide) c1005286
    have nzx1005282 : ¬ x1005282 = 0 := c1005286
    exact r_vret2 ([(z1, .inr (7, [.ref z2, .ref z3, .int x1005278, .int x1005279, .int x1005280, .int x1005281, .int x1005282, .int x1005283]))] : va_W) C0 hr hlocks hS (Nat.le_refl _) (Nat.le_refl _) dX7_next_7 ⟨⟨x1005278, x1005279, x1005280, x1005281, x1005282, x1005283, rfl, ⟨by omega, by omega⟩, ⟨by omega, by omega⟩⟩, rfl, rfl⟩ (hP.sub (ws' := [(z1, .inr (7, [.ref z2, .ref z3, .int x1005278, .int x1005279, .int x1005280, .int x1005281, .int x1005282, .int x1005283])), (z2, .inr (9, [.ref z4, .int x1005284])), (z4, .inl (T 2, 700, .inl f1005285))]) [0, 1, 2] rfl) (hD.sub (ws' := [(z1, .inr (7, [.ref z2, .ref z3, .int x1005278, .int x1005279, .int x1005280, .int x1005281, .int x1005282, .int x1005283])), (z2, .inr (9, [.ref z4, .int x1005284])), (z4, .inl (T 2, 700, .inl f1005285))]) [0, 1, 2] (by decide +kernel) rfl)
