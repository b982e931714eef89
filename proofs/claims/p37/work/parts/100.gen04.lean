set_option maxHeartbeats 4000000 in
set_option maxRecDepth 100000 in
theorem g_J9_floorDiv_7cf53_10227 (l : Launch) (D : va_G) (T : Nat → ClassId) (sq sv sz : Nat) (p0 : Int32) (p1 : Int32) (nzp1 : ¬ p1 = 0) : Met l yJ9_floorDiv_7cf53 (.code yJ9_floorDiv_7cf53 cJ9_floorDiv_7cf53 3 (some .int) :: TB) { frames := 0, cells := 0, slots := 0, locals := 0 } (PC2 D T sq sv [.int p0, .int p1] (([] : va_W)) sz) (Qi (S := Unit) (fun (r : Int32) (_ : Unit) => True) (fun (_ : Unit) => ([] : va_W)) D (va_A (([] : va_W)) sz)) 0 0 (va_A (([] : va_W)) sz) := by
  refine ct_begin2F (Qc := Qi (S := Unit) (fun (r : Int32) (_ : Unit) => True) (fun (_ : Unit) => ([] : va_W)) D) (by decide +kernel) (Nat.le_of_ble_eq_true rfl) ?_
  intro p e s m below meth c A ls C0 hr hlocks hnm hE hStr hA hP hD hl
  generalize ([.int p0, .int p1] : List Value).toArray = args at C0 ⊢
  have hx := C0.1
  have hb := C0.2.1
  have hml := C0.2.2.1
  have hown := C0.2.2.2.1
  have hT := C0.2.2.2.2
  have hK := hE.1
  generalize hH : s.heap = H at hP ⊢
  have hS : va_S A s.heap H [] := by rw [← hH]; exact va_S.rf
  have hP : va_P D vwCl [] H := hP
  have hD : va_D A [] := hD
  have hl : lv_has ls 3 [(0, .int p0), (1, .int p1)] := hl
  refine lv_iload_n hx hb dJ9_floorDiv_7cf53_0 rfl (lv_at hl 0 rfl) ?_
  refine lv_iload_n hx hb dJ9_floorDiv_7cf53_1 rfl (lv_at hl 1 rfl) ?_
  refine lv_idiv hx hb dJ9_floorDiv_7cf53_2 nzp1 ?_
  refine lv_topi (fun x10228 ex10228 => ?_)
  refine lv_istore_n (lv' := [(2, .int x10228), (0, .int p0), (1, .int p1)]) hx hb dJ9_floorDiv_7cf53_3 rfl hl (by decide) rfl (fun ls hl => ?_)
  refine lv_iload_n hx hb dJ9_floorDiv_7cf53_4 rfl (lv_at hl 1 rfl) ?_
  refine lv_iload_n hx hb dJ9_floorDiv_7cf53_5 rfl (lv_at hl 2 rfl) ?_
  refine lv_ixor hx hb dJ9_floorDiv_7cf53_6 ?_
  refine lv_topi (fun x10229 ex10229 => ?_)
  refine lv_if_ge (tgt := 21) hx hb dJ9_floorDiv_7cf53_7 (by decide) (fun c10230 => ?_) (fun c10230 => ?_)
  · skip
    have kc10230 : 0 ≤ x10229.toInt := le_ti (by decide) rfl c10230
    refine lv_iload_n hx hb dJ9_floorDiv_7cf53_21 rfl (lv_at hl 0 rfl) ?_
    exact r_iret () C0 hr hlocks hS (Nat.le_refl _) (Nat.le_refl _) dJ9_floorDiv_7cf53_22 trivial (hP.sub (ws' := []) [] rfl) (hD.sub (ws' := []) [] (by decide +kernel) rfl)
  · skip
    have kc10230 : x10229.toInt < 0 := nle_ti (by decide) rfl c10230
    refine lv_iload_n hx hb dJ9_floorDiv_7cf53_10 rfl (lv_at hl 0 rfl) ?_
    refine lv_iload_n hx hb dJ9_floorDiv_7cf53_11 rfl (lv_at hl 2 rfl) ?_
    refine lv_imul hx hb dJ9_floorDiv_7cf53_12 ?_
    refine lv_topi (fun x10231 ex10231 => ?_)
    refine lv_iload_n hx hb dJ9_floorDiv_7cf53_13 rfl (lv_at hl 1 rfl) ?_
    refine lv_icmp_eq (tgt := 21) hx hb dJ9_floorDiv_7cf53_14 (by decide) (fun c10232 => ?_) (fun c10232 => ?_)
    · skip
      have kc10232 : x10231.toInt = p0.toInt := eq_ti rfl rfl c10232
      refine lv_iload_n hx hb dJ9_floorDiv_7cf53_21 rfl (lv_at hl 0 rfl) ?_
      exact r_iret () C0 hr hlocks hS (Nat.le_refl _) (Nat.le_refl _) dJ9_floorDiv_7cf53_22 trivial (hP.sub (ws' := []) [] rfl) (hD.sub (ws' := []) [] (by decide +kernel) rfl)
    · skip
      have kc10232 : x10231.toInt ≠ p0.toInt := ne_ti rfl rfl c10232
      refine lv_iload_n hx hb dJ9_floorDiv_7cf53_17 rfl (lv_at hl 0 rfl) ?_
      refine lv_iconst (v := 1) hx hb dJ9_floorDiv_7cf53_18 (by decide) ?_
      refine lv_isub hx hb dJ9_floorDiv_7cf53_19 ?_
      refine lv_topi (fun x10233 ex10233 => ?_)
      exact r_iret () C0 hr hlocks hS (Nat.le_refl _) (Nat.le_refl _) dJ9_floorDiv_7cf53_20 trivial (hP.sub (ws' := []) [] rfl) (hD.sub (ws' := []) [] (by decide +kernel) rfl)
set_option maxHeartbeats 4000000 in
set_option maxRecDepth 100000 in
theorem g_X8_joined_10300 (l : Launch) (D : va_G) (T : Nat → ClassId) (sq sv sz : Nat) (p0 : Int32) (p1 : Int32) (p2 : Int32) : Met l yX8_joined (.code yX8_joined cX8_joined 3 (some .long) :: TB) { frames := 1, cells := 0, slots := 0, locals := 22 } (PC2 D T sq sv [.int p0, .int p1, .int p2] (([] : va_W)) sz) (Ql (S := Unit) (fun (r : Int64) (_ : Unit) => True) (fun (_ : Unit) => ([] : va_W)) D (va_A (([] : va_W)) sz)) 0 0 (va_A (([] : va_W)) sz) := by
  refine ct_begin2 (Qc := Ql (S := Unit) (fun (r : Int64) (_ : Unit) => True) (fun (_ : Unit) => ([] : va_W)) D) (by decide +kernel) (Nat.le_of_ble_eq_true rfl) ?_
  intro p e s m below meth c A ls C0 hr hlocks hnm hE hStr hA hP hD hl
  generalize ([.int p0, .int p1, .int p2] : List Value).toArray = args at C0 ⊢
  have hx := C0.1
  have hb := C0.2.1
  have hml := C0.2.2.1
  have hown := C0.2.2.2.1
  have hT := C0.2.2.2.2
  have hK := hE.1
  generalize hH : s.heap = H at hP ⊢
  have hS : va_S A s.heap H [] := by rw [← hH]; exact va_S.rf
  have hP : va_P D vwCl [] H := hP
  have hD : va_D A [] := hD
  have hl : lv_has ls 3 [(0, .int p0), (1, .int p1), (2, .int p2)] := hl
  refine lv_iload_n hx hb dX8_joined_0 rfl (lv_at hl 0 rfl) ?_
  by_cases c10301 : p0 = 4
  · skip
    have kc10301 : p0.toInt = 4 := eq_ti rfl (by decide) c10301
    refine lv_tableIn (off := 55) (tgt := 56) hx hb dX8_joined_1 (by omega) (by omega) (by rw [kc10301]; rfl) (by decide) ?_
    refine lv_iload_n hx hb dX8_joined_56 rfl (lv_at hl 1 rfl) ?_
    refine lv_i2l hx hb dX8_joined_57 rfl ?_
    refine lv_topl (fun x10302 ex10302 => ?_)
    refine lv_iload_n hx hb dX8_joined_58 rfl (lv_at hl 2 rfl) ?_
    refine lv_i2l hx hb dX8_joined_59 rfl ?_
    refine lv_topl (fun x10303 ex10303 => ?_)
    refine lv_ladd hx hb dX8_joined_60 ?_
    refine lv_topl (fun x10304 ex10304 => ?_)
    exact r_lret () C0 hr hlocks hS (Nat.le_refl _) (Nat.le_refl _) dX8_joined_61 trivial (hP.sub (ws' := []) [] rfl) (hD.sub (ws' := []) [] (by decide +kernel) rfl)
  · skip
    have kc10301 : p0.toInt ≠ 4 := ne_ti rfl (by decide) c10301
    by_cases c10305 : p0 = 5
    · skip
      have kc10305 : p0.toInt = 5 := eq_ti rfl (by decide) c10305
      refine lv_tableIn (off := 61) (tgt := 62) hx hb dX8_joined_1 (by omega) (by omega) (by rw [kc10305]; rfl) (by decide) ?_
      refine lv_iload_n hx hb dX8_joined_62 rfl (lv_at hl 1 rfl) ?_
      refine lv_i2l hx hb dX8_joined_63 rfl ?_
      refine lv_topl (fun x10306 ex10306 => ?_)
      refine lv_iload_n hx hb dX8_joined_64 rfl (lv_at hl 2 rfl) ?_
      refine lv_i2l hx hb dX8_joined_65 rfl ?_
      refine lv_topl (fun x10307 ex10307 => ?_)
      refine lv_lsub hx hb dX8_joined_66 ?_
      refine lv_topl (fun x10308 ex10308 => ?_)
      exact r_lret () C0 hr hlocks hS (Nat.le_refl _) (Nat.le_refl _) dX8_joined_67 trivial (hP.sub (ws' := []) [] rfl) (hD.sub (ws' := []) [] (by decide +kernel) rfl)
    · skip
      have kc10305 : p0.toInt ≠ 5 := ne_ti rfl (by decide) c10305
      by_cases c10309 : p0 = 6
      · skip
        have kc10309 : p0.toInt = 6 := eq_ti rfl (by decide) c10309
        refine lv_tableIn (off := 67) (tgt := 68) hx hb dX8_joined_1 (by omega) (by omega) (by rw [kc10309]; rfl) (by decide) ?_
        refine lv_iload_n hx hb dX8_joined_68 rfl (lv_at hl 1 rfl) ?_
        refine lv_i2l hx hb dX8_joined_69 rfl ?_
        refine lv_topl (fun x10310 ex10310 => ?_)
        refine lv_iload_n hx hb dX8_joined_70 rfl (lv_at hl 2 rfl) ?_
        refine lv_i2l hx hb dX8_joined_71 rfl ?_
        refine lv_topl (fun x10311 ex10311 => ?_)
        refine lv_lmul hx hb dX8_joined_72 ?_
        refine lv_topl (fun x10312 ex10312 => ?_)
        exact r_lret () C0 hr hlocks hS (Nat.le_refl _) (Nat.le_refl _) dX8_joined_73 trivial (hP.sub (ws' := []) [] rfl) (hD.sub (ws' := []) [] (by decide +kernel) rfl)
      · skip
        have kc10309 : p0.toInt ≠ 6 := ne_ti rfl (by decide) c10309
        by_cases c10313 : p0 = 7
        · skip
          have kc10313 : p0.toInt = 7 := eq_ti rfl (by decide) c10313
          refine lv_tableIn (off := 73) (tgt := 74) hx hb dX8_joined_1 (by omega) (by omega) (by rw [kc10313]; rfl) (by decide) ?_
          refine lv_iload_n hx hb dX8_joined_74 rfl (lv_at hl 2 rfl) ?_
          have J10318 : ∀ (x10317 : Int64) (H : Heap) (locs : List Loc) (ls : Array Slot), va_P D vwCl [] H → va_D A [] → va_S A s.heap H locs → lv_has ls 3 [(0, .int p0), (1, .int p1), (2, .int p2)] → W p l e { frames := 1, cells := 0, slots := 0, locals := 22 } s m args below meth c H locs 0 0 (MQ below ((Ql (S := Unit) (fun (r : Int64) (_ : Unit) => True) (fun (_ : Unit) => ([] : va_W)) D) A) args s 0 0 A) (F0 m 88 ls [.long x10317]) := by
            intro x10317 H locs ls hP hD hS hl
            exact r_lret () C0 hr hlocks hS (Nat.le_refl _) (Nat.le_refl _) dX8_joined_88 trivial (hP.sub (ws' := []) [] rfl) (hD.sub (ws' := []) [] (by decide +kernel) rfl)
          refine lv_if_ne (tgt := 82) hx hb dX8_joined_75 (by decide) (fun c10314 => ?_) (fun c10314 => ?_)
          · skip
            have kc10314 : p2.toInt ≠ 0 := ne_ti rfl (by decide) c10314
            have nzp2 : ¬ p2 = 0 := c10314
            refine lv_iload_n hx hb dX8_joined_82 rfl (lv_at hl 1 rfl) ?_
            refine lv_iload_n hx hb dX8_joined_83 rfl (lv_at hl 2 rfl) ?_
            refine r_calli (wr := []) (r_runS2 (As := [.int p1, .int p2]) (rest := []) (wc := []) C0 hE hStr hS (va_free (wc := []) hD hS hA [] rfl) (g_J9_floorDiv_7cf53_10227 l D T sq sv H.size p1 p2 nzp2) mw_553 mw_554 mw_12 mw_555 dn_1804 rfl rfl ⟨Nat.le_of_ble_eq_true rfl, Nat.le_of_ble_eq_true rfl⟩ (hP.sub (ws' := []) [] rfl) (hD.sub (ws' := []) [] (by decide +kernel) rfl) hl.1 rfl (Nat.le_of_ble_eq_true rfl) dX8_joined_84 ⟨Nat.le_of_ble_eq_true rfl, Nat.le_of_ble_eq_true rfl⟩) hP hD hS hA [] [] rfl rfl (by decide +kernel) (by decide +kernel) (fun x10319 u H locs hq hP hD hS => ?_)
            have hP : va_P D vwCl [] H := hP
            have hD : va_D A [] := hD
            refine W.widen (k := 0) (n := 0) (Nat.le_refl _) (Nat.le_refl _) ?_
            refine lv_i2l hx hb dX8_joined_87 rfl ?_
            refine lv_topl (fun x10320 ex10320 => ?_)
            exact J10318 x10320 _ _ ls (hP.sub (ws' := []) [] rfl) (hD.sub (ws' := []) [] (by decide +kernel) rfl) hS (lv_sub hl [0, 1, 2] rfl)
          · skip
            have kc10314 : p2.toInt = 0 := eq_ti rfl (by decide) c10314
            refine lv_lconst (v := 0) hx hb dX8_joined_78 (by decide) ?_
            refine lv_goto (tgt := 88) hx hb dX8_joined_79 (by decide) ?_
            exact J10318 0 _ _ ls (hP.sub (ws' := []) [] rfl) (hD.sub (ws' := []) [] (by decide +kernel) rfl) hS (lv_sub hl [0, 1, 2] rfl)
        · skip
          have kc10313 : p0.toInt ≠ 7 := ne_ti rfl (by decide) c10313
          by_cases c10321 : p0 = 8
          · skip
            have kc10321 : p0.toInt = 8 := eq_ti rfl (by decide) c10321
            refine lv_tableIn (off := 88) (tgt := 89) hx hb dX8_joined_1 (by omega) (by omega) (by rw [kc10321]; rfl) (by decide) ?_
            refine lv_iload_n hx hb dX8_joined_89 rfl (lv_at hl 1 rfl) ?_
            refine lv_iload_n hx hb dX8_joined_90 rfl (lv_at hl 2 rfl) ?_
            refine va_mmin hx hb (by rw [hml]; exact hl.1.symm) hown (hT _ mw_556) (hT _ mw_242) (hT _ mw_12) (hT _ mw_243) (Nat.le_of_ble_eq_true rfl) (Nat.le_of_ble_eq_true rfl) (Nat.le_of_ble_eq_true rfl) (Nat.le_of_ble_eq_true rfl) dX8_joined_91 ?_
            refine lv_topi (fun x10322 ex10322 => ?_)
            have hx10322 := min_ti (a := p1.toInt) (b := p2.toInt) ex10322 rfl rfl
            refine lv_i2l hx hb dX8_joined_94 rfl ?_
            refine lv_topl (fun x10323 ex10323 => ?_)
            exact r_lret () C0 hr hlocks hS (Nat.le_refl _) (Nat.le_refl _) dX8_joined_95 trivial (hP.sub (ws' := []) [] rfl) (hD.sub (ws' := []) [] (by decide +kernel) rfl)
          · skip
            have kc10321 : p0.toInt ≠ 8 := ne_ti rfl (by decide) c10321
            by_cases c10324 : p0 = 9
            · skip
              have kc10324 : p0.toInt = 9 := eq_ti rfl (by decide) c10324
              refine lv_tableIn (off := 95) (tgt := 96) hx hb dX8_joined_1 (by omega) (by omega) (by rw [kc10324]; rfl) (by decide) ?_
              refine lv_iload_n hx hb dX8_joined_96 rfl (lv_at hl 1 rfl) ?_
              refine lv_iload_n hx hb dX8_joined_97 rfl (lv_at hl 2 rfl) ?_
              refine va_mmax hx hb (by rw [hml]; exact hl.1.symm) hown (hT _ mw_557) (hT _ mw_239) (hT _ mw_12) (hT _ mw_240) (Nat.le_of_ble_eq_true rfl) (Nat.le_of_ble_eq_true rfl) (Nat.le_of_ble_eq_true rfl) (Nat.le_of_ble_eq_true rfl) dX8_joined_98 ?_
              refine lv_topi (fun x10325 ex10325 => ?_)
              have hx10325 := max_ti (a := p1.toInt) (b := p2.toInt) ex10325 rfl rfl
              refine lv_i2l hx hb dX8_joined_101 rfl ?_
              refine lv_topl (fun x10326 ex10326 => ?_)
              exact r_lret () C0 hr hlocks hS (Nat.le_refl _) (Nat.le_refl _) dX8_joined_102 trivial (hP.sub (ws' := []) [] rfl) (hD.sub (ws' := []) [] (by decide +kernel) rfl)
            · skip
              have kc10324 : p0.toInt ≠ 9 := ne_ti rfl (by decide) c10324
              by_cases c10327 : p0 = 10
              · skip
                have kc10327 : p0.toInt = 10 := eq_ti rfl (by decide) c10327
                refine lv_tableIn (off := 102) (tgt := 103) hx hb dX8_joined_1 (by omega) (by omega) (by rw [kc10327]; rfl) (by decide) ?_
                refine lv_iload_n hx hb dX8_joined_103 rfl (lv_at hl 1 rfl) ?_
                refine lv_iload_n hx hb dX8_joined_104 rfl (lv_at hl 2 rfl) ?_
                have J10330 : ∀ (x10329 : Int64) (H : Heap) (locs : List Loc) (ls : Array Slot), va_P D vwCl [] H → va_D A [] → va_S A s.heap H locs → lv_has ls 3 [(0, .int p0), (1, .int p1), (2, .int p2)] → W p l e { frames := 1, cells := 0, slots := 0, locals := 22 } s m args below meth c H locs 0 0 (MQ below ((Ql (S := Unit) (fun (r : Int64) (_ : Unit) => True) (fun (_ : Unit) => ([] : va_W)) D) A) args s 0 0 A) (F0 m 113 ls [.long x10329]) := by
                  intro x10329 H locs ls hP hD hS hl
                  exact r_lret () C0 hr hlocks hS (Nat.le_refl _) (Nat.le_refl _) dX8_joined_113 trivial (hP.sub (ws' := []) [] rfl) (hD.sub (ws' := []) [] (by decide +kernel) rfl)
                refine lv_icmp_ge (tgt := 112) hx hb dX8_joined_105 (by decide) (fun c10328 => ?_) (fun c10328 => ?_)
                · skip
                  have kc10328 : p2.toInt ≤ p1.toInt := le_ti rfl rfl c10328
                  refine lv_lconst (v := 0) hx hb dX8_joined_112 (by decide) ?_
                  exact J10330 0 _ _ ls (hP.sub (ws' := []) [] rfl) (hD.sub (ws' := []) [] (by decide +kernel) rfl) hS (lv_sub hl [0, 1, 2] rfl)
                · skip
                  have kc10328 : p1.toInt < p2.toInt := nle_ti rfl rfl c10328
                  refine lv_lconst (v := 1) hx hb dX8_joined_108 (by decide) ?_
                  refine lv_goto (tgt := 113) hx hb dX8_joined_109 (by decide) ?_
                  exact J10330 1 _ _ ls (hP.sub (ws' := []) [] rfl) (hD.sub (ws' := []) [] (by decide +kernel) rfl) hS (lv_sub hl [0, 1, 2] rfl)
              · skip
                have kc10327 : p0.toInt ≠ 10 := ne_ti rfl (by decide) c10327
                by_cases c10331 : p0 = 11
                · skip
                  have kc10331 : p0.toInt = 11 := eq_ti rfl (by decide) c10331
                  refine lv_tableIn (off := 113) (tgt := 114) hx hb dX8_joined_1 (by omega) (by omega) (by rw [kc10331]; rfl) (by decide) ?_
                  refine lv_iload_n hx hb dX8_joined_114 rfl (lv_at hl 1 rfl) ?_
                  refine lv_iload_n hx hb dX8_joined_115 rfl (lv_at hl 2 rfl) ?_
                  have J10334 : ∀ (x10333 : Int64) (H : Heap) (locs : List Loc) (ls : Array Slot), va_P D vwCl [] H → va_D A [] → va_S A s.heap H locs → lv_has ls 3 [(0, .int p0), (1, .int p1), (2, .int p2)] → W p l e { frames := 1, cells := 0, slots := 0, locals := 22 } s m args below meth c H locs 0 0 (MQ below ((Ql (S := Unit) (fun (r : Int64) (_ : Unit) => True) (fun (_ : Unit) => ([] : va_W)) D) A) args s 0 0 A) (F0 m 124 ls [.long x10333]) := by
                    intro x10333 H locs ls hP hD hS hl
                    exact r_lret () C0 hr hlocks hS (Nat.le_refl _) (Nat.le_refl _) dX8_joined_124 trivial (hP.sub (ws' := []) [] rfl) (hD.sub (ws' := []) [] (by decide +kernel) rfl)
                  refine lv_icmp_le (tgt := 123) hx hb dX8_joined_116 (by decide) (fun c10332 => ?_) (fun c10332 => ?_)
                  · skip
                    have kc10332 : p1.toInt ≤ p2.toInt := le_ti rfl rfl c10332
                    refine lv_lconst (v := 0) hx hb dX8_joined_123 (by decide) ?_
                    exact J10334 0 _ _ ls (hP.sub (ws' := []) [] rfl) (hD.sub (ws' := []) [] (by decide +kernel) rfl) hS (lv_sub hl [0, 1, 2] rfl)
                  · skip
                    have kc10332 : p2.toInt < p1.toInt := nle_ti rfl rfl c10332
                    refine lv_lconst (v := 1) hx hb dX8_joined_119 (by decide) ?_
                    refine lv_goto (tgt := 124) hx hb dX8_joined_120 (by decide) ?_
                    exact J10334 1 _ _ ls (hP.sub (ws' := []) [] rfl) (hD.sub (ws' := []) [] (by decide +kernel) rfl) hS (lv_sub hl [0, 1, 2] rfl)
                · skip
                  have kc10331 : p0.toInt ≠ 11 := ne_ti rfl (by decide) c10331
                  by_cases c10335 : p0 = 12
                  · skip
                    have kc10335 : p0.toInt = 12 := eq_ti rfl (by decide) c10335
                    refine lv_tableIn (off := 124) (tgt := 125) hx hb dX8_joined_1 (by omega) (by omega) (by rw [kc10335]; rfl) (by decide) ?_
                    refine lv_iload_n hx hb dX8_joined_125 rfl (lv_at hl 1 rfl) ?_
                    refine lv_iload_n hx hb dX8_joined_126 rfl (lv_at hl 2 rfl) ?_
                    have J10338 : ∀ (x10337 : Int64) (H : Heap) (locs : List Loc) (ls : Array Slot), va_P D vwCl [] H → va_D A [] → va_S A s.heap H locs → lv_has ls 3 [(0, .int p0), (1, .int p1), (2, .int p2)] → W p l e { frames := 1, cells := 0, slots := 0, locals := 22 } s m args below meth c H locs 0 0 (MQ below ((Ql (S := Unit) (fun (r : Int64) (_ : Unit) => True) (fun (_ : Unit) => ([] : va_W)) D) A) args s 0 0 A) (F0 m 135 ls [.long x10337]) := by
                      intro x10337 H locs ls hP hD hS hl
                      exact r_lret () C0 hr hlocks hS (Nat.le_refl _) (Nat.le_refl _) dX8_joined_135 trivial (hP.sub (ws' := []) [] rfl) (hD.sub (ws' := []) [] (by decide +kernel) rfl)
                    refine lv_icmp_ne (tgt := 134) hx hb dX8_joined_127 (by decide) (fun c10336 => ?_) (fun c10336 => ?_)
                    · skip
                      have kc10336 : p1.toInt ≠ p2.toInt := ne_ti rfl rfl c10336
                      refine lv_lconst (v := 0) hx hb dX8_joined_134 (by decide) ?_
                      exact J10338 0 _ _ ls (hP.sub (ws' := []) [] rfl) (hD.sub (ws' := []) [] (by decide +kernel) rfl) hS (lv_sub hl [0, 1, 2] rfl)
                    · skip
                      have kc10336 : p1.toInt = p2.toInt := eq_ti rfl rfl c10336
                      refine lv_lconst (v := 1) hx hb dX8_joined_130 (by decide) ?_
                      refine lv_goto (tgt := 135) hx hb dX8_joined_131 (by decide) ?_
                      exact J10338 1 _ _ ls (hP.sub (ws' := []) [] rfl) (hD.sub (ws' := []) [] (by decide +kernel) rfl) hS (lv_sub hl [0, 1, 2] rfl)
                  · skip
                    have kc10335 : p0.toInt ≠ 12 := ne_ti rfl (by decide) c10335
                    by_cases c10339 : p0 = 13
                    · skip
                      have kc10339 : p0.toInt = 13 := eq_ti rfl (by decide) c10339
                      refine lv_tableIn (off := 135) (tgt := 136) hx hb dX8_joined_1 (by omega) (by omega) (by rw [kc10339]; rfl) (by decide) ?_
                      refine lv_iload_n hx hb dX8_joined_136 rfl (lv_at hl 1 rfl) ?_
                      refine lv_iload_n hx hb dX8_joined_137 rfl (lv_at hl 2 rfl) ?_
                      refine lv_iand hx hb dX8_joined_138 ?_
                      refine lv_topi (fun x10340 ex10340 => ?_)
                      refine lv_i2l hx hb dX8_joined_139 rfl ?_
                      refine lv_topl (fun x10341 ex10341 => ?_)
                      exact r_lret () C0 hr hlocks hS (Nat.le_refl _) (Nat.le_refl _) dX8_joined_140 trivial (hP.sub (ws' := []) [] rfl) (hD.sub (ws' := []) [] (by decide +kernel) rfl)
                    · skip
                      have kc10339 : p0.toInt ≠ 13 := ne_ti rfl (by decide) c10339
                      refine lv_tableOut (tgt := 141) hx hb dX8_joined_1 (by omega) (by decide) ?_
                      refine lv_iload_n hx hb dX8_joined_141 rfl (lv_at hl 1 rfl) ?_
                      refine lv_iload_n hx hb dX8_joined_142 rfl (lv_at hl 2 rfl) ?_
                      refine lv_ior hx hb dX8_joined_143 ?_
                      refine lv_topi (fun x10342 ex10342 => ?_)
                      refine lv_i2l hx hb dX8_joined_144 rfl ?_
                      refine lv_topl (fun x10343 ex10343 => ?_)
                      exact r_lret () C0 hr hlocks hS (Nat.le_refl _) (Nat.le_refl _) dX8_joined_145 trivial (hP.sub (ws' := []) [] rfl) (hD.sub (ws' := []) [] (by decide +kernel) rfl)
set_option maxHeartbeats 4000000 in
set_option maxRecDepth 100000 in
theorem g_X8_run_12578 (l : Launch) (D : va_G) (T : Nat → ClassId) (sq sv sz : Nat) (z1 : Nat) (z2 : Nat) (z3 : Nat) (z4 : Nat) (z5 : Nat) (z6 : Nat) (z7 : Nat) (z8 : Nat) (z9 : Nat) (z10 : Nat) (p1 : Int32) (p2 : Int32) (w1 : va_W) (hw1 : B_X8 T z1 z2 z3 z4 z5 z6 z7 z8 z9 z10 w1) (hp1 : 0 ≤ p1.toInt ∧ p1.toInt ≤ 700) (hp2 : 0 ≤ p2.toInt ∧ p2.toInt ≤ 700) : Met l yX8_run (.code yX8_run cX8_run 11 (some .int) :: TB) { frames := 2, cells := 0, slots := 0, locals := 44 } (PC2 D T sq sv [.ref z1, .int p1, .int p2] (w1) sz) (Qi (S := va_W) (fun (r : Int32) (u0 : va_W) => B_X8 T z1 z2 z3 z4 z5 z6 z7 z8 z9 z10 u0 ∧ fv u0 9 = fv w1 9 ∧ fv u0 10 = fv w1 10 ∧ fv u0 11 = fv w1 11 ∧ fv u0 12 = fv w1 12) (fun (u0 : va_W) => u0) D (va_A (w1) sz)) 0 0 (va_A (w1) sz) := by
  obtain ⟨x12595, x12596, x12597, x12598, f12599, f12600, f12601, f12602, f12604, f12606, f12608, f12609, f12610, rfl, hx12595, hx12596, hx12598, hb12603, hb12605, hb12607⟩ := hw1
  refine ct_begin2 (Qc := Qi (S := va_W) (fun (r : Int32) (u0 : va_W) => B_X8 T z1 z2 z3 z4 z5 z6 z7 z8 z9 z10 u0 ∧ fv u0 9 = fv ([(z1, .inr (8, [.ref z2, .ref z3, .ref z4, .ref z5, .ref z6, .ref z7, .ref z8, .ref z9, .ref z10, .int x12595, .int x12596, .int x12597, .int x12598])), (z2, .inl (T 1, 8, .inr (.inl f12599))), (z3, .inl (T 0, 32, .inl f12600)), (z4, .inl (T 0, 24, .inl f12601)), (z5, .inl (T 0, 24, .inl f12602)), (z6, .inl (T 0, 24, .inl f12604)), (z7, .inl (T 0, 24, .inl f12606)), (z8, .inl (T 0, 700, .inl f12608)), (z9, .inl (T 0, 8, .inl f12609)), (z10, .inl (T 0, 64, .inl f12610))] : va_W) 9 ∧ fv u0 10 = fv ([(z1, .inr (8, [.ref z2, .ref z3, .ref z4, .ref z5, .ref z6, .ref z7, .ref z8, .ref z9, .ref z10, .int x12595, .int x12596, .int x12597, .int x12598])), (z2, .inl (T 1, 8, .inr (.inl f12599))), (z3, .inl (T 0, 32, .inl f12600)), (z4, .inl (T 0, 24, .inl f12601)), (z5, .inl (T 0, 24, .inl f12602)), (z6, .inl (T 0, 24, .inl f12604)), (z7, .inl (T 0, 24, .inl f12606)), (z8, .inl (T 0, 700, .inl f12608)), (z9, .inl (T 0, 8, .inl f12609)), (z10, .inl (T 0, 64, .inl f12610))] : va_W) 10 ∧ fv u0 11 = fv ([(z1, .inr (8, [.ref z2, .ref z3, .ref z4, .ref z5, .ref z6, .ref z7, .ref z8, .ref z9, .ref z10, .int x12595, .int x12596, .int x12597, .int x12598])), (z2, .inl (T 1, 8, .inr (.inl f12599))), (z3, .inl (T 0, 32, .inl f12600)), (z4, .inl (T 0, 24, .inl f12601)), (z5, .inl (T 0, 24, .inl f12602)), (z6, .inl (T 0, 24, .inl f12604)), (z7, .inl (T 0, 24, .inl f12606)), (z8, .inl (T 0, 700, .inl f12608)), (z9, .inl (T 0, 8, .inl f12609)), (z10, .inl (T 0, 64, .inl f12610))] : va_W) 11 ∧ fv u0 12 = fv ([(z1, .inr (8, [.ref z2, .ref z3, .ref z4, .ref z5, .ref z6, .ref z7, .ref z8, .ref z9, .ref z10, .int x12595, .int x12596, .int x12597, .int x12598])), (z2, .inl (T 1, 8, .inr (.inl f12599))), (z3, .inl (T 0, 32, .inl f12600)), (z4, .inl (T 0, 24, .inl f12601)), (z5, .inl (T 0, 24, .inl f12602)), (z6, .inl (T 0, 24, .inl f12604)), (z7, .inl (T 0, 24, .inl f12606)), (z8, .inl (T 0, 700, .inl f12608)), (z9, .inl (T 0, 8, .inl f12609)), (z10, .inl (T 0, 64, .inl f12610))] : va_W) 12) (fun (u0 : va_W) => u0) D) (by decide +kernel) (Nat.le_of_ble_eq_true rfl) ?_
  intro p e s m below meth c A ls C0 hr hlocks hnm hE hStr hA hP hD hl
  generalize ([.ref z1, .int p1, .int p2] : List Value).toArray = args at C0 ⊢
  have hx := C0.1
  have hb := C0.2.1
  have hml := C0.2.2.1
  have hown := C0.2.2.2.1
  have hT := C0.2.2.2.2
  have hK := hE.1
  generalize hH : s.heap = H at hP ⊢
  have hS : va_S A s.heap H [] := by rw [← hH]; exact va_S.rf
  have hP : va_P D vwCl [(z1, .inr (8, [.ref z2, .ref z3, .ref z4, .ref z5, .ref z6, .ref z7, .ref z8, .ref z9, .ref z10, .int x12595, .int x12596, .int x12597, .int x12598])), (z2, .inl (T 1, 8, .inr (.inl f12599))), (z3, .inl (T 0, 32, .inl f12600)), (z4, .inl (T 0, 24, .inl f12601)), (z5, .inl (T 0, 24, .inl f12602)), (z6, .inl (T 0, 24, .inl f12604)), (z7, .inl (T 0, 24, .inl f12606)), (z8, .inl (T 0, 700, .inl f12608)), (z9, .inl (T 0, 8, .inl f12609)), (z10, .inl (T 0, 64, .inl f12610))] H := hP
  have hD : va_D A [(z1, .inr (8, [.ref z2, .ref z3, .ref z4, .ref z5, .ref z6, .ref z7, .ref z8, .ref z9, .ref z10, .int x12595, .int x12596, .int x12597, .int x12598])), (z2, .inl (T 1, 8, .inr (.inl f12599))), (z3, .inl (T 0, 32, .inl f12600)), (z4, .inl (T 0, 24, .inl f12601)), (z5, .inl (T 0, 24, .inl f12602)), (z6, .inl (T 0, 24, .inl f12604)), (z7, .inl (T 0, 24, .inl f12606)), (z8, .inl (T 0, 700, .inl f12608)), (z9, .inl (T 0, 8, .inl f12609)), (z10, .inl (T 0, 64, .inl f12610))] := hD
  have hl : lv_has ls 11 [(0, .ref z1), (1, .int p1), (2, .int p2)] := hl
  refine lv_iconst (v := 0) hx hb dX8_run_0 (by decide) ?_
  refine lv_istore_n (lv' := [(3, .int 0), (0, .ref z1), (1, .int p1), (2, .int p2)]) hx hb dX8_run_1 rfl hl (by decide) rfl (fun ls hl => ?_)
  refine lv_iload_n hx hb dX8_run_2 rfl (lv_at hl 2 rfl) ?_
  refine lv_istore (lv' := [(4, .int p1), (3, .int 0), (0, .ref z1), (1, .int p1), (2, .int p2)]) hx hb dX8_run_3 hl (by decide) rfl (fun ls hl => ?_)
  have L13572 : ∀ (n : Nat) (x13531 : Int32) (x13532 : Int32) (f13533 : Nat → Int32) (H : Heap) (locs : List Loc) (ls : Array Slot), (0 ≤ x13531.toInt ∧ x13531.toInt ≤ 700) → (0 ≤ x13532.toInt ∧ x13532.toInt ≤ 64) → (701 - x13531.toInt).toNat < n → va_P D vwCl [(z1, .inr (8, [.ref z2, .ref z3, .ref z4, .ref z5, .ref z6, .ref z7, .ref z8, .ref z9, .ref z10, .int x12595, .int x12596, .int x12597, .int x12598])), (z2, .inl (T 1, 8, .inr (.inl f12599))), (z3, .inl (T 0, 32, .inl f12600)), (z4, .inl (T 0, 24, .inl f12601)), (z5, .inl (T 0, 24, .inl f12602)), (z6, .inl (T 0, 24, .inl f12604)), (z7, .inl (T 0, 24, .inl f12606)), (z8, .inl (T 0, 700, .inl f12608)), (z9, .inl (T 0, 8, .inl f12609)), (z10, .inl (T 0, 64, .inl f13533))] H → va_D A [(z1, .inr (8, [.ref z2, .ref z3, .ref z4, .ref z5, .ref z6, .ref z7, .ref z8, .ref z9, .ref z10, .int x12595, .int x12596, .int x12597, .int x12598])), (z2, .inl (T 1, 8, .inr (.inl f12599))), (z3, .inl (T 0, 32, .inl f12600)), (z4, .inl (T 0, 24, .inl f12601)), (z5, .inl (T 0, 24, .inl f12602)), (z6, .inl (T 0, 24, .inl f12604)), (z7, .inl (T 0, 24, .inl f12606)), (z8, .inl (T 0, 700, .inl f12608)), (z9, .inl (T 0, 8, .inl f12609)), (z10, .inl (T 0, 64, .inl f13533))] → va_S A s.heap H locs → lv_has ls 11 [(4, .int x13531), (3, .int x13532), (0, .ref z1), (1, .int p1), (2, .int p2)] → W p l e { frames := 2, cells := 0, slots := 0, locals := 44 } s m args below meth c H locs 0 0 (MQ below ((Qi (S := va_W) (fun (r : Int32) (u0 : va_W) => B_X8 T z1 z2 z3 z4 z5 z6 z7 z8 z9 z10 u0 ∧ fv u0 9 = fv ([(z1, .inr (8, [.ref z2, .ref z3, .ref z4, .ref z5, .ref z6, .ref z7, .ref z8, .ref z9, .ref z10, .int x12595, .int x12596, .int x12597, .int x12598])), (z2, .inl (T 1, 8, .inr (.inl f12599))), (z3, .inl (T 0, 32, .inl f12600)), (z4, .inl (T 0, 24, .inl f12601)), (z5, .inl (T 0, 24, .inl f12602)), (z6, .inl (T 0, 24, .inl f12604)), (z7, .inl (T 0, 24, .inl f12606)), (z8, .inl (T 0, 700, .inl f12608)), (z9, .inl (T 0, 8, .inl f12609)), (z10, .inl (T 0, 64, .inl f12610))] : va_W) 9 ∧ fv u0 10 = fv ([(z1, .inr (8, [.ref z2, .ref z3, .ref z4, .ref z5, .ref z6, .ref z7, .ref z8, .ref z9, .ref z10, .int x12595, .int x12596, .int x12597, .int x12598])), (z2, .inl (T 1, 8, .inr (.inl f12599))), (z3, .inl (T 0, 32, .inl f12600)), (z4, .inl (T 0, 24, .inl f12601)), (z5, .inl (T 0, 24, .inl f12602)), (z6, .inl (T 0, 24, .inl f12604)), (z7, .inl (T 0, 24, .inl f12606)), (z8, .inl (T 0, 700, .inl f12608)), (z9, .inl (T 0, 8, .inl f12609)), (z10, .inl (T 0, 64, .inl f12610))] : va_W) 10 ∧ fv u0 11 = fv ([(z1, .inr (8, [.ref z2, .ref z3, .ref z4, .ref z5, .ref z6, .ref z7, .ref z8, .ref z9, .ref z10, .int x12595, .int x12596, .int x12597, .int x12598])), (z2, .inl (T 1, 8, .inr (.inl f12599))), (z3, .inl (T 0, 32, .inl f12600)), (z4, .inl (T 0, 24, .inl f12601)), (z5, .inl (T 0, 24, .inl f12602)), (z6, .inl (T 0, 24, .inl f12604)), (z7, .inl (T 0, 24, .inl f12606)), (z8, .inl (T 0, 700, .inl f12608)), (z9, .inl (T 0, 8, .inl f12609)), (z10, .inl (T 0, 64, .inl f12610))] : va_W) 11 ∧ fv u0 12 = fv ([(z1, .inr (8, [.ref z2, .ref z3, .ref z4, .ref z5, .ref z6, .ref z7, .ref z8, .ref z9, .ref z10, .int x12595, .int x12596, .int x12597, .int x12598])), (z2, .inl (T 1, 8, .inr (.inl f12599))), (z3, .inl (T 0, 32, .inl f12600)), (z4, .inl (T 0, 24, .inl f12601)), (z5, .inl (T 0, 24, .inl f12602)), (z6, .inl (T 0, 24, .inl f12604)), (z7, .inl (T 0, 24, .inl f12606)), (z8, .inl (T 0, 700, .inl f12608)), (z9, .inl (T 0, 8, .inl f12609)), (z10, .inl (T 0, 64, .inl f12610))] : va_W) 12) (fun (u0 : va_W) => u0) D) A) args s 0 0 A) (F0 m 5 ls []) := by
    intro n
    induction n with
    | zero =>
      intro x13531 x13532 f13533 H locs ls hx13531 hx13532 hms hP hD hS hl
      exact absurd hms (Nat.not_lt_zero _)
    | succ n ih =>
      intro x13531 x13532 f13533 H locs ls hx13531 hx13532 hms hP hD hS hl
      refine lv_iload hx hb dX8_run_5 (lv_at hl 0 rfl) ?_
      refine lv_iload_n hx hb dX8_run_7 rfl (lv_at hl 4 rfl) ?_
      refine lv_icmp_ge (tgt := 177) hx hb dX8_run_8 (by decide) (fun c13573 => ?_) (fun c13573 => ?_)
      · skip
        have kc13573 : p2.toInt ≤ x13531.toInt := le_ti rfl rfl c13573
        refine lv_iload_n hx hb dX8_run_177 rfl (lv_at hl 1 rfl) ?_
        refine lv_iconst (v := 1) hx hb dX8_run_178 (by decide) ?_
        have J13578 : ∀ (x13577 : Int32) (H : Heap) (locs : List Loc) (ls : Array Slot), va_P D vwCl [(z1, .inr (8, [.ref z2, .ref z3, .ref z4, .ref z5, .ref z6, .ref z7, .ref z8, .ref z9, .ref z10, .int x12595, .int x12596, .int x12597, .int x12598])), (z2, .inl (T 1, 8, .inr (.inl f12599))), (z3, .inl (T 0, 32, .inl f12600)), (z4, .inl (T 0, 24, .inl f12601)), (z5, .inl (T 0, 24, .inl f12602)), (z6, .inl (T 0, 24, .inl f12604)), (z7, .inl (T 0, 24, .inl f12606)), (z8, .inl (T 0, 700, .inl f12608)), (z9, .inl (T 0, 8, .inl f12609)), (z10, .inl (T 0, 64, .inl f13533))] H → va_D A [(z1, .inr (8, [.ref z2, .ref z3, .ref z4, .ref z5, .ref z6, .ref z7, .ref z8, .ref z9, .ref z10, .int x12595, .int x12596, .int x12597, .int x12598])), (z2, .inl (T 1, 8, .inr (.inl f12599))), (z3, .inl (T 0, 32, .inl f12600)), (z4, .inl (T 0, 24, .inl f12601)), (z5, .inl (T 0, 24, .inl f12602)), (z6, .inl (T 0, 24, .inl f12604)), (z7, .inl (T 0, 24, .inl f12606)), (z8, .inl (T 0, 700, .inl f12608)), (z9, .inl (T 0, 8, .inl f12609)), (z10, .inl (T 0, 64, .inl f13533))] → va_S A s.heap H locs → lv_has ls 11 [(4, .int x13531), (3, .int x13532), (0, .ref z1), (1, .int p1), (2, .int p2)] → W p l e { frames := 2, cells := 0, slots := 0, locals := 44 } s m args below meth c H locs 0 0 (MQ below ((Qi (S := va_W) (fun (r : Int32) (u0 : va_W) => B_X8 T z1 z2 z3 z4 z5 z6 z7 z8 z9 z10 u0 ∧ fv u0 9 = fv ([(z1, .inr (8, [.ref z2, .ref z3, .ref z4, .ref z5, .ref z6, .ref z7, .ref z8, .ref z9, .ref z10, .int x12595, .int x12596, .int x12597, .int x12598])), (z2, .inl (T 1, 8, .inr (.inl f12599))), (z3, .inl (T 0, 32, .inl f12600)), (z4, .inl (T 0, 24, .inl f12601)), (z5, .inl (T 0, 24, .inl f12602)), (z6, .inl (T 0, 24, .inl f12604)), (z7, .inl (T 0, 24, .inl f12606)), (z8, .inl (T 0, 700, .inl f12608)), (z9, .inl (T 0, 8, .inl f12609)), (z10, .inl (T 0, 64, .inl f12610))] : va_W) 9 ∧ fv u0 10 = fv ([(z1, .inr (8, [.ref z2, .ref z3, .ref z4, .ref z5, .ref z6, .ref z7, .ref z8, .ref z9, .ref z10, .int x12595, .int x12596, .int x12597, .int x12598])), (z2, .inl (T 1, 8, .inr (.inl f12599))), (z3, .inl (T 0, 32, .inl f12600)), (z4, .inl (T 0, 24, .inl f12601)), (z5, .inl (T 0, 24, .inl f12602)), (z6, .inl (T 0, 24, .inl f12604)), (z7, .inl (T 0, 24, .inl f12606)), (z8, .inl (T 0, 700, .inl f12608)), (z9, .inl (T 0, 8, .inl f12609)), (z10, .inl (T 0, 64, .inl f12610))] : va_W) 10 ∧ fv u0 11 = fv ([(z1, .inr (8, [.ref z2, .ref z3, .ref z4, .ref z5, .ref z6, .ref z7, .ref z8, .ref z9, .ref z10, .int x12595, .int x12596, .int x12597, .int x12598])), (z2, .inl (T 1, 8, .inr (.inl f12599))), (z3, .inl (T 0, 32, .inl f12600)), (z4, .inl (T 0, 24, .inl f12601)), (z5, .inl (T 0, 24, .inl f12602)), (z6, .inl (T 0, 24, .inl f12604)), (z7, .inl (T 0, 24, .inl f12606)), (z8, .inl (T 0, 700, .inl f12608)), (z9, .inl (T 0, 8, .inl f12609)), (z10, .inl (T 0, 64, .inl f12610))] : va_W) 11 ∧ fv u0 12 = fv ([(z1, .inr (8, [.ref z2, .ref z3, .ref z4, .ref z5, .ref z6, .ref z7, .ref z8, .ref z9, .ref z10, .int x12595, .int x12596, .int x12597, .int x12598])), (z2, .inl (T 1, 8, .inr (.inl f12599))), (z3, .inl (T 0, 32, .inl f12600)), (z4, .inl (T 0, 24, .inl f12601)), (z5, .inl (T 0, 24, .inl f12602)), (z6, .inl (T 0, 24, .inl f12604)), (z7, .inl (T 0, 24, .inl f12606)), (z8, .inl (T 0, 700, .inl f12608)), (z9, .inl (T 0, 8, .inl f12609)), (z10, .inl (T 0, 64, .inl f12610))] : va_W) 12) (fun (u0 : va_W) => u0) D) A) args s 0 0 A) (F0 m 194 ls [.int x13577]) := by
          intro x13577 H locs ls hP hD hS hl
          exact r_iret ([(z1, .inr (8, [.ref z2, .ref z3, .ref z4, .ref z5, .ref z6, .ref z7, .ref z8, .ref z9, .ref z10, .int x12595, .int x12596, .int x12597, .int x12598])), (z2, .inl (T 1, 8, .inr (.inl f12599))), (z3, .inl (T 0, 32, .inl f12600)), (z4, .inl (T 0, 24, .inl f12601)), (z5, .inl (T 0, 24, .inl f12602)), (z6, .inl (T 0, 24, .inl f12604)), (z7, .inl (T 0, 24, .inl f12606)), (z8, .inl (T 0, 700, .inl f12608)), (z9, .inl (T 0, 8, .inl f12609)), (z10, .inl (T 0, 64, .inl f13533))] : va_W) C0 hr hlocks hS (Nat.le_refl _) (Nat.le_refl _) dX8_run_194 ⟨⟨x12595, x12596, x12597, x12598, f12599, f12600, f12601, f12602, f12604, f12606, f12608, f12609, f13533, rfl, ⟨by omega, by omega⟩, ⟨by omega, by omega⟩, ⟨by omega, by omega⟩, hb12603, hb12605, hb12607⟩, rfl, rfl, rfl, rfl⟩ (hP.sub (ws' := [(z1, .inr (8, [.ref z2, .ref z3, .ref z4, .ref z5, .ref z6, .ref z7, .ref z8, .ref z9, .ref z10, .int x12595, .int x12596, .int x12597, .int x12598])), (z2, .inl (T 1, 8, .inr (.inl f12599))), (z3, .inl (T 0, 32, .inl f12600)), (z4, .inl (T 0, 24, .inl f12601)), (z5, .inl (T 0, 24, .inl f12602)), (z6, .inl (T 0, 24, .inl f12604)), (z7, .inl (T 0, 24, .inl f12606)), (z8, .inl (T 0, 700, .inl f12608)), (z9, .inl (T 0, 8, .inl f12609)), (z10, .inl (T 0, 64, .inl f13533))]) [0, 1, 2, 3, 4, 5, 6, 7, 8, 9] rfl) (hD.sub (ws' := [(z1, .inr (8, [.ref z2, .ref z3, .ref z4, .ref z5, .ref z6, .ref z7, .ref z8, .ref z9, .ref z10, .int x12595, .int x12596, .int x12597, .int x12598])), (z2, .inl (T 1, 8, .inr (.inl f12599))), (z3, .inl (T 0, 32, .inl f12600)), (z4, .inl (T 0, 24, .inl f12601)), (z5, .inl (T 0, 24, .inl f12602)), (z6, .inl (T 0, 24, .inl f12604)), (z7, .inl (T 0, 24, .inl f12606)), (z8, .inl (T 0, 700, .inl f12608)), (z9, .inl (T 0, 8, .inl f12609)), (z10, .inl (T 0, 64, .inl f13533))]) [0, 1, 2, 3, 4, 5, 6, 7, 8, 9] (by decide +kernel) rfl)
        refine lv_icmp_ge (tgt := 186) hx hb dX8_run_179 (by decide) (fun c13574 => ?_) (fun c13574 => ?_)
        · skip
          have kc13574 : 1 ≤ x13532.toInt := le_ti (by decide) rfl c13574
          refine lv_aload_n hx hb dX8_run_186 rfl (lv_at hl 2 rfl) ?_
          refine r_get (v := .ref z10) C0 hE ffX8_8 mw_207 hP 0 rfl rfl dX8_run_187 ?_
          refine lv_iload_n hx hb dX8_run_190 rfl (lv_at hl 1 rfl) ?_
          refine lv_iconst (v := 1) hx hb dX8_run_191 (by decide) ?_
          refine lv_isub hx hb dX8_run_192 ?_
          refine lv_topi (fun x13579 ex13579 => ?_)
          have hx13579 : x13579.toInt = x13532.toInt - 1 := ti_sub ex13579 rfl (by decide) (by omega) (by omega)
          refine va_iald hx hb hK hP 9 0 rfl rfl (in_ti rfl (by omega) (by omega)) dX8_run_193 ?_
          refine lv_topi (fun x13580 ex13580 => ?_)
          exact J13578 x13580 _ _ ls (hP.sub (ws' := [(z1, .inr (8, [.ref z2, .ref z3, .ref z4, .ref z5, .ref z6, .ref z7, .ref z8, .ref z9, .ref z10, .int x12595, .int x12596, .int x12597, .int x12598])), (z2, .inl (T 1, 8, .inr (.inl f12599))), (z3, .inl (T 0, 32, .inl f12600)), (z4, .inl (T 0, 24, .inl f12601)), (z5, .inl (T 0, 24, .inl f12602)), (z6, .inl (T 0, 24, .inl f12604)), (z7, .inl (T 0, 24, .inl f12606)), (z8, .inl (T 0, 700, .inl f12608)), (z9, .inl (T 0, 8, .inl f12609)), (z10, .inl (T 0, 64, .inl f13533))]) [0, 1, 2, 3, 4, 5, 6, 7, 8, 9] rfl) (hD.sub (ws' := [(z1, .inr (8, [.ref z2, .ref z3, .ref z4, .ref z5, .ref z6, .ref z7, .ref z8, .ref z9, .ref z10, .int x12595, .int x12596, .int x12597, .int x12598])), (z2, .inl (T 1, 8, .inr (.inl f12599))), (z3, .inl (T 0, 32, .inl f12600)), (z4, .inl (T 0, 24, .inl f12601)), (z5, .inl (T 0, 24, .inl f12602)), (z6, .inl (T 0, 24, .inl f12604)), (z7, .inl (T 0, 24, .inl f12606)), (z8, .inl (T 0, 700, .inl f12608)), (z9, .inl (T 0, 8, .inl f12609)), (z10, .inl (T 0, 64, .inl f13533))]) [0, 1, 2, 3, 4, 5, 6, 7, 8, 9] (by decide +kernel) rfl) hS (lv_sub hl [0, 1, 2, 3, 4] rfl)
        · skip
          have kc13574 : x13532.toInt < 1 := nle_ti (by decide) rfl c13574
          refine lv_iconst (v := 0) hx hb dX8_run_182 (by decide) ?_
          refine lv_goto (tgt := 194) hx hb dX8_run_183 (by decide) ?_
          exact J13578 0 _ _ ls (hP.sub (ws' := [(z1, .inr (8, [.ref z2, .ref z3, .ref z4, .ref z5, .ref z6, .ref z7, .ref z8, .ref z9, .ref z10, .int x12595, .int x12596, .int x12597, .int x12598])), (z2, .inl (T 1, 8, .inr (.inl f12599))), (z3, .inl (T 0, 32, .inl f12600)), (z4, .inl (T 0, 24, .inl f12601)), (z5, .inl (T 0, 24, .inl f12602)), (z6, .inl (T 0, 24, .inl f12604)), (z7, .inl (T 0, 24, .inl f12606)), (z8, .inl (T 0, 700, .inl f12608)), (z9, .inl (T 0, 8, .inl f12609)), (z10, .inl (T 0, 64, .inl f13533))]) [0, 1, 2, 3, 4, 5, 6, 7, 8, 9] rfl) (hD.sub (ws' := [(z1, .inr (8, [.ref z2, .ref z3, .ref z4, .ref z5, .ref z6, .ref z7, .ref z8, .ref z9, .ref z10, .int x12595, .int x12596, .int x12597, .int x12598])), (z2, .inl (T 1, 8, .inr (.inl f12599))), (z3, .inl (T 0, 32, .inl f12600)), (z4, .inl (T 0, 24, .inl f12601)), (z5, .inl (T 0, 24, .inl f12602)), (z6, .inl (T 0, 24, .inl f12604)), (z7, .inl (T 0, 24, .inl f12606)), (z8, .inl (T 0, 700, .inl f12608)), (z9, .inl (T 0, 8, .inl f12609)), (z10, .inl (T 0, 64, .inl f13533))]) [0, 1, 2, 3, 4, 5, 6, 7, 8, 9] (by decide +kernel) rfl) hS (lv_sub hl [0, 1, 2, 3, 4] rfl)
      · skip
        have kc13573 : x13531.toInt < p2.toInt := nle_ti rfl rfl c13573
        refine lv_aload_n hx hb dX8_run_11 rfl (lv_at hl 2 rfl) ?_
        refine r_get (v := .ref z8) C0 hE ffX8_6 mw_204 hP 0 rfl rfl dX8_run_12 ?_
        refine lv_iload hx hb dX8_run_15 (lv_at hl 0 rfl) ?_
        refine va_iald hx hb hK hP 7 0 rfl rfl (in_ti rfl (by omega) (by omega)) dX8_run_17 ?_
        refine lv_topi (fun x13581 ex13581 => ?_)
        refine lv_sipush (v := 10000) hx hb dX8_run_18 (by decide) ?_
        refine lv_idiv hx hb dX8_run_21 (by decide +kernel) ?_
        refine lv_topi (fun x13582 ex13582 => ?_)
        refine lv_istore (lv' := [(5, .int x13582), (4, .int x13531), (3, .int x13532), (0, .ref z1), (1, .int p1), (2, .int p2)]) hx hb dX8_run_22 hl (by decide) rfl (fun ls hl => ?_)
        refine lv_iload hx hb dX8_run_24 (lv_at hl 0 rfl) ?_
        refine lv_iconst (v := 2) hx hb dX8_run_26 (by decide) ?_
        have J13586 : ∀ (x13585 : Int32) (H : Heap) (locs : List Loc) (ls : Array Slot), (0 ≤ x13585.toInt ∧ x13585.toInt ≤ 2) → va_P D vwCl [(z1, .inr (8, [.ref z2, .ref z3, .ref z4, .ref z5, .ref z6, .ref z7, .ref z8, .ref z9, .ref z10, .int x12595, .int x12596, .int x12597, .int x12598])), (z2, .inl (T 1, 8, .inr (.inl f12599))), (z3, .inl (T 0, 32, .inl f12600)), (z4, .inl (T 0, 24, .inl f12601)), (z5, .inl (T 0, 24, .inl f12602)), (z6, .inl (T 0, 24, .inl f12604)), (z7, .inl (T 0, 24, .inl f12606)), (z8, .inl (T 0, 700, .inl f12608)), (z9, .inl (T 0, 8, .inl f12609)), (z10, .inl (T 0, 64, .inl f13533))] H → va_D A [(z1, .inr (8, [.ref z2, .ref z3, .ref z4, .ref z5, .ref z6, .ref z7, .ref z8, .ref z9, .ref z10, .int x12595, .int x12596, .int x12597, .int x12598])), (z2, .inl (T 1, 8, .inr (.inl f12599))), (z3, .inl (T 0, 32, .inl f12600)), (z4, .inl (T 0, 24, .inl f12601)), (z5, .inl (T 0, 24, .inl f12602)), (z6, .inl (T 0, 24, .inl f12604)), (z7, .inl (T 0, 24, .inl f12606)), (z8, .inl (T 0, 700, .inl f12608)), (z9, .inl (T 0, 8, .inl f12609)), (z10, .inl (T 0, 64, .inl f13533))] → va_S A s.heap H locs → lv_has ls 11 [(5, .int x13582), (4, .int x13531), (3, .int x13532), (0, .ref z1), (1, .int p1), (2, .int p2)] → W p l e { frames := 2, cells := 0, slots := 0, locals := 44 } s m args below meth c H locs 0 0 (MQ below ((Qi (S := va_W) (fun (r : Int32) (u0 : va_W) => B_X8 T z1 z2 z3 z4 z5 z6 z7 z8 z9 z10 u0 ∧ fv u0 9 = fv ([(z1, .inr (8, [.ref z2, .ref z3, .ref z4, .ref z5, .ref z6, .ref z7, .ref z8, .ref z9, .ref z10, .int x12595, .int x12596, .int x12597, .int x12598])), (z2, .inl (T 1, 8, .inr (.inl f12599))), (z3, .inl (T 0, 32, .inl f12600)), (z4, .inl (T 0, 24, .inl f12601)), (z5, .inl (T 0, 24, .inl f12602)), (z6, .inl (T 0, 24, .inl f12604)), (z7, .inl (T 0, 24, .inl f12606)), (z8, .inl (T 0, 700, .inl f12608)), (z9, .inl (T 0, 8, .inl f12609)), (z10, .inl (T 0, 64, .inl f12610))] : va_W) 9 ∧ fv u0 10 = fv ([(z1, .inr (8, [.ref z2, .ref z3, .ref z4, .ref z5, .ref z6, .ref z7, .ref z8, .ref z9, .ref z10, .int x12595, .int x12596, .int x12597, .int x12598])), (z2, .inl (T 1, 8, .inr (.inl f12599))), (z3, .inl (T 0, 32, .inl f12600)), (z4, .inl (T 0, 24, .inl f12601)), (z5, .inl (T 0, 24, .inl f12602)), (z6, .inl (T 0, 24, .inl f12604)), (z7, .inl (T 0, 24, .inl f12606)), (z8, .inl (T 0, 700, .inl f12608)), (z9, .inl (T 0, 8, .inl f12609)), (z10, .inl (T 0, 64, .inl f12610))] : va_W) 10 ∧ fv u0 11 = fv ([(z1, .inr (8, [.ref z2, .ref z3, .ref z4, .ref z5, .ref z6, .ref z7, .ref z8, .ref z9, .ref z10, .int x12595, .int x12596, .int x12597, .int x12598])), (z2, .inl (T 1, 8, .inr (.inl f12599))), (z3, .inl (T 0, 32, .inl f12600)), (z4, .inl (T 0, 24, .inl f12601)), (z5, .inl (T 0, 24, .inl f12602)), (z6, .inl (T 0, 24, .inl f12604)), (z7, .inl (T 0, 24, .inl f12606)), (z8, .inl (T 0, 700, .inl f12608)), (z9, .inl (T 0, 8, .inl f12609)), (z10, .inl (T 0, 64, .inl f12610))] : va_W) 11 ∧ fv u0 12 = fv ([(z1, .inr (8, [.ref z2, .ref z3, .ref z4, .ref z5, .ref z6, .ref z7, .ref z8, .ref z9, .ref z10, .int x12595, .int x12596, .int x12597, .int x12598])), (z2, .inl (T 1, 8, .inr (.inl f12599))), (z3, .inl (T 0, 32, .inl f12600)), (z4, .inl (T 0, 24, .inl f12601)), (z5, .inl (T 0, 24, .inl f12602)), (z6, .inl (T 0, 24, .inl f12604)), (z7, .inl (T 0, 24, .inl f12606)), (z8, .inl (T 0, 700, .inl f12608)), (z9, .inl (T 0, 8, .inl f12609)), (z10, .inl (T 0, 64, .inl f12610))] : va_W) 12) (fun (u0 : va_W) => u0) D) A) args s 0 0 A) (F0 m 45 ls [.int x13585]) := by
          intro x13585 H locs ls hx13585 hP hD hS hl
          refine lv_istore (lv' := [(6, .int x13585), (5, .int x13582), (4, .int x13531), (3, .int x13532), (0, .ref z1), (1, .int p1), (2, .int p2)]) hx hb dX8_run_45 hl (by decide) rfl (fun ls hl => ?_)
          refine lv_iload_n hx hb dX8_run_47 rfl (lv_at hl 3 rfl) ?_
          refine lv_iload hx hb dX8_run_48 (lv_at hl 0 rfl) ?_
          refine lv_icmp_lt (tgt := 62) hx hb dX8_run_50 (by decide) (fun c13587 => ?_) (fun c13587 => ?_)
          · skip
            have kc13587 : x13532.toInt < x13585.toInt := lt_ti rfl rfl c13587
            refine lv_iconst (v := 0) hx hb dX8_run_62 (by decide) ?_
            exact r_iret ([(z1, .inr (8, [.ref z2, .ref z3, .ref z4, .ref z5, .ref z6, .ref z7, .ref z8, .ref z9, .ref z10, .int x12595, .int x12596, .int x12597, .int x12598])), (z2, .inl (T 1, 8, .inr (.inl f12599))), (z3, .inl (T 0, 32, .inl f12600)), (z4, .inl (T 0, 24, .inl f12601)), (z5, .inl (T 0, 24, .inl f12602)), (z6, .inl (T 0, 24, .inl f12604)), (z7, .inl (T 0, 24, .inl f12606)), (z8, .inl (T 0, 700, .inl f12608)), (z9, .inl (T 0, 8, .inl f12609)), (z10, .inl (T 0, 64, .inl f13533))] : va_W) C0 hr hlocks hS (Nat.le_refl _) (Nat.le_refl _) dX8_run_63 ⟨⟨x12595, x12596, x12597, x12598, f12599, f12600, f12601, f12602, f12604, f12606, f12608, f12609, f13533, rfl, ⟨by omega, by omega⟩, ⟨by omega, by omega⟩, ⟨by omega, by omega⟩, hb12603, hb12605, hb12607⟩, rfl, rfl, rfl, rfl⟩ (hP.sub (ws' := [(z1, .inr (8, [.ref z2, .ref z3, .ref z4, .ref z5, .ref z6, .ref z7, .ref z8, .ref z9, .ref z10, .int x12595, .int x12596, .int x12597, .int x12598])), (z2, .inl (T 1, 8, .inr (.inl f12599))), (z3, .inl (T 0, 32, .inl f12600)), (z4, .inl (T 0, 24, .inl f12601)), (z5, .inl (T 0, 24, .inl f12602)), (z6, .inl (T 0, 24, .inl f12604)), (z7, .inl (T 0, 24, .inl f12606)), (z8, .inl (T 0, 700, .inl f12608)), (z9, .inl (T 0, 8, .inl f12609)), (z10, .inl (T 0, 64, .inl f13533))]) [0, 1, 2, 3, 4, 5, 6, 7, 8, 9] rfl) (hD.sub (ws' := [(z1, .inr (8, [.ref z2, .ref z3, .ref z4, .ref z5, .ref z6, .ref z7, .ref z8, .ref z9, .ref z10, .int x12595, .int x12596, .int x12597, .int x12598])), (z2, .inl (T 1, 8, .inr (.inl f12599))), (z3, .inl (T 0, 32, .inl f12600)), (z4, .inl (T 0, 24, .inl f12601)), (z5, .inl (T 0, 24, .inl f12602)), (z6, .inl (T 0, 24, .inl f12604)), (z7, .inl (T 0, 24, .inl f12606)), (z8, .inl (T 0, 700, .inl f12608)), (z9, .inl (T 0, 8, .inl f12609)), (z10, .inl (T 0, 64, .inl f13533))]) [0, 1, 2, 3, 4, 5, 6, 7, 8, 9] (by decide +kernel) rfl)
          · skip
            have kc13587 : x13585.toInt ≤ x13532.toInt := nlt_ti rfl rfl c13587
            refine lv_iload_n hx hb dX8_run_53 rfl (lv_at hl 3 rfl) ?_
            refine lv_iload hx hb dX8_run_54 (lv_at hl 0 rfl) ?_
            refine lv_isub hx hb dX8_run_56 ?_
            refine lv_topi (fun x13588 ex13588 => ?_)
            have hx13588 : x13588.toInt = x13532.toInt - x13585.toInt := ti_sub ex13588 rfl rfl (by omega) (by omega)
            refine lv_bipush (v := 64) hx hb dX8_run_57 (by decide) ?_
            refine lv_icmp_lt (tgt := 64) hx hb dX8_run_59 (by decide) (fun c13589 => ?_) (fun c13589 => ?_)
            · skip
              have kc13589 : x13588.toInt < 64 := lt_ti rfl (by decide) c13589
              refine lv_iload hx hb dX8_run_64 (lv_at hl 0 rfl) ?_
              have J13597 : ∀ (x13596 : Int32) (H : Heap) (locs : List Loc) (ls : Array Slot), va_P D vwCl [(z1, .inr (8, [.ref z2, .ref z3, .ref z4, .ref z5, .ref z6, .ref z7, .ref z8, .ref z9, .ref z10, .int x12595, .int x12596, .int x12597, .int x12598])), (z2, .inl (T 1, 8, .inr (.inl f12599))), (z3, .inl (T 0, 32, .inl f12600)), (z4, .inl (T 0, 24, .inl f12601)), (z5, .inl (T 0, 24, .inl f12602)), (z6, .inl (T 0, 24, .inl f12604)), (z7, .inl (T 0, 24, .inl f12606)), (z8, .inl (T 0, 700, .inl f12608)), (z9, .inl (T 0, 8, .inl f12609)), (z10, .inl (T 0, 64, .inl f13533))] H → va_D A [(z1, .inr (8, [.ref z2, .ref z3, .ref z4, .ref z5, .ref z6, .ref z7, .ref z8, .ref z9, .ref z10, .int x12595, .int x12596, .int x12597, .int x12598])), (z2, .inl (T 1, 8, .inr (.inl f12599))), (z3, .inl (T 0, 32, .inl f12600)), (z4, .inl (T 0, 24, .inl f12601)), (z5, .inl (T 0, 24, .inl f12602)), (z6, .inl (T 0, 24, .inl f12604)), (z7, .inl (T 0, 24, .inl f12606)), (z8, .inl (T 0, 700, .inl f12608)), (z9, .inl (T 0, 8, .inl f12609)), (z10, .inl (T 0, 64, .inl f13533))] → va_S A s.heap H locs → lv_has ls 11 [(6, .int x13585), (5, .int x13582), (4, .int x13531), (3, .int x13532), (0, .ref z1), (1, .int p1), (2, .int p2)] → W p l e { frames := 2, cells := 0, slots := 0, locals := 44 } s m args below meth c H locs 0 0 (MQ below ((Qi (S := va_W) (fun (r : Int32) (u0 : va_W) => B_X8 T z1 z2 z3 z4 z5 z6 z7 z8 z9 z10 u0 ∧ fv u0 9 = fv ([(z1, .inr (8, [.ref z2, .ref z3, .ref z4, .ref z5, .ref z6, .ref z7, .ref z8, .ref z9, .ref z10, .int x12595, .int x12596, .int x12597, .int x12598])), (z2, .inl (T 1, 8, .inr (.inl f12599))), (z3, .inl (T 0, 32, .inl f12600)), (z4, .inl (T 0, 24, .inl f12601)), (z5, .inl (T 0, 24, .inl f12602)), (z6, .inl (T 0, 24, .inl f12604)), (z7, .inl (T 0, 24, .inl f12606)), (z8, .inl (T 0, 700, .inl f12608)), (z9, .inl (T 0, 8, .inl f12609)), (z10, .inl (T 0, 64, .inl f12610))] : va_W) 9 ∧ fv u0 10 = fv ([(z1, .inr (8, [.ref z2, .ref z3, .ref z4, .ref z5, .ref z6, .ref z7, .ref z8, .ref z9, .ref z10, .int x12595, .int x12596, .int x12597, .int x12598])), (z2, .inl (T 1, 8, .inr (.inl f12599))), (z3, .inl (T 0, 32, .inl f12600)), (z4, .inl (T 0, 24, .inl f12601)), (z5, .inl (T 0, 24, .inl f12602)), (z6, .inl (T 0, 24, .inl f12604)), (z7, .inl (T 0, 24, .inl f12606)), (z8, .inl (T 0, 700, .inl f12608)), (z9, .inl (T 0, 8, .inl f12609)), (z10, .inl (T 0, 64, .inl f12610))] : va_W) 10 ∧ fv u0 11 = fv ([(z1, .inr (8, [.ref z2, .ref z3, .ref z4, .ref z5, .ref z6, .ref z7, .ref z8, .ref z9, .ref z10, .int x12595, .int x12596, .int x12597, .int x12598])), (z2, .inl (T 1, 8, .inr (.inl f12599))), (z3, .inl (T 0, 32, .inl f12600)), (z4, .inl (T 0, 24, .inl f12601)), (z5, .inl (T 0, 24, .inl f12602)), (z6, .inl (T 0, 24, .inl f12604)), (z7, .inl (T 0, 24, .inl f12606)), (z8, .inl (T 0, 700, .inl f12608)), (z9, .inl (T 0, 8, .inl f12609)), (z10, .inl (T 0, 64, .inl f12610))] : va_W) 11 ∧ fv u0 12 = fv ([(z1, .inr (8, [.ref z2, .ref z3, .ref z4, .ref z5, .ref z6, .ref z7, .ref z8, .ref z9, .ref z10, .int x12595, .int x12596, .int x12597, .int x12598])), (z2, .inl (T 1, 8, .inr (.inl f12599))), (z3, .inl (T 0, 32, .inl f12600)), (z4, .inl (T 0, 24, .inl f12601)), (z5, .inl (T 0, 24, .inl f12602)), (z6, .inl (T 0, 24, .inl f12604)), (z7, .inl (T 0, 24, .inl f12606)), (z8, .inl (T 0, 700, .inl f12608)), (z9, .inl (T 0, 8, .inl f12609)), (z10, .inl (T 0, 64, .inl f12610))] : va_W) 12) (fun (u0 : va_W) => u0) D) A) args s 0 0 A) (F0 m 91 ls [.int x13596]) := by
                intro x13596 H locs ls hP hD hS hl
                refine lv_istore (lv' := [(7, .int x13596), (6, .int x13585), (5, .int x13582), (4, .int x13531), (3, .int x13532), (0, .ref z1), (1, .int p1), (2, .int p2)]) hx hb dX8_run_91 hl (by decide) rfl (fun ls hl => ?_)
                refine lv_iload hx hb dX8_run_93 (lv_at hl 1 rfl) ?_
                refine lv_iconst (v := 1) hx hb dX8_run_95 (by decide) ?_
                have J13603 : ∀ (x13602 : Int32) (H : Heap) (locs : List Loc) (ls : Array Slot), va_P D vwCl [(z1, .inr (8, [.ref z2, .ref z3, .ref z4, .ref z5, .ref z6, .ref z7, .ref z8, .ref z9, .ref z10, .int x12595, .int x12596, .int x12597, .int x12598])), (z2, .inl (T 1, 8, .inr (.inl f12599))), (z3, .inl (T 0, 32, .inl f12600)), (z4, .inl (T 0, 24, .inl f12601)), (z5, .inl (T 0, 24, .inl f12602)), (z6, .inl (T 0, 24, .inl f12604)), (z7, .inl (T 0, 24, .inl f12606)), (z8, .inl (T 0, 700, .inl f12608)), (z9, .inl (T 0, 8, .inl f12609)), (z10, .inl (T 0, 64, .inl f13533))] H → va_D A [(z1, .inr (8, [.ref z2, .ref z3, .ref z4, .ref z5, .ref z6, .ref z7, .ref z8, .ref z9, .ref z10, .int x12595, .int x12596, .int x12597, .int x12598])), (z2, .inl (T 1, 8, .inr (.inl f12599))), (z3, .inl (T 0, 32, .inl f12600)), (z4, .inl (T 0, 24, .inl f12601)), (z5, .inl (T 0, 24, .inl f12602)), (z6, .inl (T 0, 24, .inl f12604)), (z7, .inl (T 0, 24, .inl f12606)), (z8, .inl (T 0, 700, .inl f12608)), (z9, .inl (T 0, 8, .inl f12609)), (z10, .inl (T 0, 64, .inl f13533))] → va_S A s.heap H locs → lv_has ls 11 [(7, .int x13596), (6, .int x13585), (5, .int x13582), (4, .int x13531), (3, .int x13532), (0, .ref z1), (1, .int p1), (2, .int p2)] → W p l e { frames := 2, cells := 0, slots := 0, locals := 44 } s m args below meth c H locs 0 0 (MQ below ((Qi (S := va_W) (fun (r : Int32) (u0 : va_W) => B_X8 T z1 z2 z3 z4 z5 z6 z7 z8 z9 z10 u0 ∧ fv u0 9 = fv ([(z1, .inr (8, [.ref z2, .ref z3, .ref z4, .ref z5, .ref z6, .ref z7, .ref z8, .ref z9, .ref z10, .int x12595, .int x12596, .int x12597, .int x12598])), (z2, .inl (T 1, 8, .inr (.inl f12599))), (z3, .inl (T 0, 32, .inl f12600)), (z4, .inl (T 0, 24, .inl f12601)), (z5, .inl (T 0, 24, .inl f12602)), (z6, .inl (T 0, 24, .inl f12604)), (z7, .inl (T 0, 24, .inl f12606)), (z8, .inl (T 0, 700, .inl f12608)), (z9, .inl (T 0, 8, .inl f12609)), (z10, .inl (T 0, 64, .inl f12610))] : va_W) 9 ∧ fv u0 10 = fv ([(z1, .inr (8, [.ref z2, .ref z3, .ref z4, .ref z5, .ref z6, .ref z7, .ref z8, .ref z9, .ref z10, .int x12595, .int x12596, .int x12597, .int x12598])), (z2, .inl (T 1, 8, .inr (.inl f12599))), (z3, .inl (T 0, 32, .inl f12600)), (z4, .inl (T 0, 24, .inl f12601)), (z5, .inl (T 0, 24, .inl f12602)), (z6, .inl (T 0, 24, .inl f12604)), (z7, .inl (T 0, 24, .inl f12606)), (z8, .inl (T 0, 700, .inl f12608)), (z9, .inl (T 0, 8, .inl f12609)), (z10, .inl (T 0, 64, .inl f12610))] : va_W) 10 ∧ fv u0 11 = fv ([(z1, .inr (8, [.ref z2, .ref z3, .ref z4, .ref z5, .ref z6, .ref z7, .ref z8, .ref z9, .ref z10, .int x12595, .int x12596, .int x12597, .int x12598])), (z2, .inl (T 1, 8, .inr (.inl f12599))), (z3, .inl (T 0, 32, .inl f12600)), (z4, .inl (T 0, 24, .inl f12601)), (z5, .inl (T 0, 24, .inl f12602)), (z6, .inl (T 0, 24, .inl f12604)), (z7, .inl (T 0, 24, .inl f12606)), (z8, .inl (T 0, 700, .inl f12608)), (z9, .inl (T 0, 8, .inl f12609)), (z10, .inl (T 0, 64, .inl f12610))] : va_W) 11 ∧ fv u0 12 = fv ([(z1, .inr (8, [.ref z2, .ref z3, .ref z4, .ref z5, .ref z6, .ref z7, .ref z8, .ref z9, .ref z10, .int x12595, .int x12596, .int x12597, .int x12598])), (z2, .inl (T 1, 8, .inr (.inl f12599))), (z3, .inl (T 0, 32, .inl f12600)), (z4, .inl (T 0, 24, .inl f12601)), (z5, .inl (T 0, 24, .inl f12602)), (z6, .inl (T 0, 24, .inl f12604)), (z7, .inl (T 0, 24, .inl f12606)), (z8, .inl (T 0, 700, .inl f12608)), (z9, .inl (T 0, 8, .inl f12609)), (z10, .inl (T 0, 64, .inl f12610))] : va_W) 12) (fun (u0 : va_W) => u0) D) A) args s 0 0 A) (F0 m 111 ls [.int x13602]) := by
                  intro x13602 H locs ls hP hD hS hl
                  refine lv_istore (lv' := [(8, .int x13602), (7, .int x13596), (6, .int x13585), (5, .int x13582), (4, .int x13531), (3, .int x13532), (0, .ref z1), (1, .int p1), (2, .int p2)]) hx hb dX8_run_111 hl (by decide) rfl (fun ls hl => ?_)
                  refine lv_iload_n hx hb dX8_run_113 rfl (lv_at hl 5 rfl) ?_
                  refine lv_iload hx hb dX8_run_114 (lv_at hl 2 rfl) ?_
                  refine lv_isub hx hb dX8_run_116 ?_
                  refine lv_topi (fun x13604 ex13604 => ?_)
                  have hx13604 : x13604.toInt = x13532.toInt - x13585.toInt := ti_sub ex13604 rfl rfl (by omega) (by omega)
                  have ha13605 : 0 ≤ x13604.toInt ∧ x13604.toInt ≤ 63 := ⟨by omega, by omega⟩
                  refine lv_istore_n (lv' := [(3, .int x13604), (8, .int x13602), (7, .int x13596), (6, .int x13585), (5, .int x13582), (4, .int x13531), (0, .ref z1), (1, .int p1), (2, .int p2)]) hx hb dX8_run_117 rfl hl (by decide) rfl (fun ls hl => ?_)
                  refine lv_iload hx hb dX8_run_118 (lv_at hl 3 rfl) ?_
                  refine lv_iconst (v := 1) hx hb dX8_run_120 (by decide) ?_
                  have J13611 : ∀ (x13610 : Int64) (H : Heap) (locs : List Loc) (ls : Array Slot), va_P D vwCl [(z1, .inr (8, [.ref z2, .ref z3, .ref z4, .ref z5, .ref z6, .ref z7, .ref z8, .ref z9, .ref z10, .int x12595, .int x12596, .int x12597, .int x12598])), (z2, .inl (T 1, 8, .inr (.inl f12599))), (z3, .inl (T 0, 32, .inl f12600)), (z4, .inl (T 0, 24, .inl f12601)), (z5, .inl (T 0, 24, .inl f12602)), (z6, .inl (T 0, 24, .inl f12604)), (z7, .inl (T 0, 24, .inl f12606)), (z8, .inl (T 0, 700, .inl f12608)), (z9, .inl (T 0, 8, .inl f12609)), (z10, .inl (T 0, 64, .inl f13533))] H → va_D A [(z1, .inr (8, [.ref z2, .ref z3, .ref z4, .ref z5, .ref z6, .ref z7, .ref z8, .ref z9, .ref z10, .int x12595, .int x12596, .int x12597, .int x12598])), (z2, .inl (T 1, 8, .inr (.inl f12599))), (z3, .inl (T 0, 32, .inl f12600)), (z4, .inl (T 0, 24, .inl f12601)), (z5, .inl (T 0, 24, .inl f12602)), (z6, .inl (T 0, 24, .inl f12604)), (z7, .inl (T 0, 24, .inl f12606)), (z8, .inl (T 0, 700, .inl f12608)), (z9, .inl (T 0, 8, .inl f12609)), (z10, .inl (T 0, 64, .inl f13533))] → va_S A s.heap H locs → lv_has ls 11 [(3, .int x13604), (8, .int x13602), (7, .int x13596), (6, .int x13585), (5, .int x13582), (4, .int x13531), (0, .ref z1), (1, .int p1), (2, .int p2)] → W p l e { frames := 2, cells := 0, slots := 0, locals := 44 } s m args below meth c H locs 0 0 (MQ below ((Qi (S := va_W) (fun (r : Int32) (u0 : va_W) => B_X8 T z1 z2 z3 z4 z5 z6 z7 z8 z9 z10 u0 ∧ fv u0 9 = fv ([(z1, .inr (8, [.ref z2, .ref z3, .ref z4, .ref z5, .ref z6, .ref z7, .ref z8, .ref z9, .ref z10, .int x12595, .int x12596, .int x12597, .int x12598])), (z2, .inl (T 1, 8, .inr (.inl f12599))), (z3, .inl (T 0, 32, .inl f12600)), (z4, .inl (T 0, 24, .inl f12601)), (z5, .inl (T 0, 24, .inl f12602)), (z6, .inl (T 0, 24, .inl f12604)), (z7, .inl (T 0, 24, .inl f12606)), (z8, .inl (T 0, 700, .inl f12608)), (z9, .inl (T 0, 8, .inl f12609)), (z10, .inl (T 0, 64, .inl f12610))] : va_W) 9 ∧ fv u0 10 = fv ([(z1, .inr (8, [.ref z2, .ref z3, .ref z4, .ref z5, .ref z6, .ref z7, .ref z8, .ref z9, .ref z10, .int x12595, .int x12596, .int x12597, .int x12598])), (z2, .inl (T 1, 8, .inr (.inl f12599))), (z3, .inl (T 0, 32, .inl f12600)), (z4, .inl (T 0, 24, .inl f12601)), (z5, .inl (T 0, 24, .inl f12602)), (z6, .inl (T 0, 24, .inl f12604)), (z7, .inl (T 0, 24, .inl f12606)), (z8, .inl (T 0, 700, .inl f12608)), (z9, .inl (T 0, 8, .inl f12609)), (z10, .inl (T 0, 64, .inl f12610))] : va_W) 10 ∧ fv u0 11 = fv ([(z1, .inr (8, [.ref z2, .ref z3, .ref z4, .ref z5, .ref z6, .ref z7, .ref z8, .ref z9, .ref z10, .int x12595, .int x12596, .int x12597, .int x12598])), (z2, .inl (T 1, 8, .inr (.inl f12599))), (z3, .inl (T 0, 32, .inl f12600)), (z4, .inl (T 0, 24, .inl f12601)), (z5, .inl (T 0, 24, .inl f12602)), (z6, .inl (T 0, 24, .inl f12604)), (z7, .inl (T 0, 24, .inl f12606)), (z8, .inl (T 0, 700, .inl f12608)), (z9, .inl (T 0, 8, .inl f12609)), (z10, .inl (T 0, 64, .inl f12610))] : va_W) 11 ∧ fv u0 12 = fv ([(z1, .inr (8, [.ref z2, .ref z3, .ref z4, .ref z5, .ref z6, .ref z7, .ref z8, .ref z9, .ref z10, .int x12595, .int x12596, .int x12597, .int x12598])), (z2, .inl (T 1, 8, .inr (.inl f12599))), (z3, .inl (T 0, 32, .inl f12600)), (z4, .inl (T 0, 24, .inl f12601)), (z5, .inl (T 0, 24, .inl f12602)), (z6, .inl (T 0, 24, .inl f12604)), (z7, .inl (T 0, 24, .inl f12606)), (z8, .inl (T 0, 700, .inl f12608)), (z9, .inl (T 0, 8, .inl f12609)), (z10, .inl (T 0, 64, .inl f12610))] : va_W) 12) (fun (u0 : va_W) => u0) D) A) args s 0 0 A) (F0 m 145 ls [.long x13610]) := by
                    intro x13610 H locs ls hP hD hS hl
                    refine lv_lstore (lv' := [(9, .long x13610), (3, .int x13604), (8, .int x13602), (7, .int x13596), (6, .int x13585), (5, .int x13582), (4, .int x13531), (0, .ref z1), (1, .int p1), (2, .int p2)]) hx hb dX8_run_145 hl (by decide) rfl (fun ls hl => ?_)
                    refine lv_aload_n hx hb dX8_run_147 rfl (lv_at hl 7 rfl) ?_
                    refine r_get (v := .ref z10) C0 hE ffX8_8 mw_207 hP 0 rfl rfl dX8_run_148 ?_
                    refine lv_iload_n hx hb dX8_run_151 rfl (lv_at hl 1 rfl) ?_
                    refine lv_ldc2 hx hb hown (hT _ mw_561) dX8_run_152 ?_
                    refine lv_ldc2 hx hb hown (hT _ mw_562) dX8_run_155 ?_
                    refine lv_lload hx hb dX8_run_158 (lv_at hl 0 rfl) ?_
                    refine va_mmin_long hx hb (by rw [hml]; exact hl.1.symm) hown (hT _ mw_563) (hT _ mw_564) (hT _ mw_12) (hT _ mw_565) (Nat.le_of_ble_eq_true rfl) (Nat.le_of_ble_eq_true rfl) (Nat.le_of_ble_eq_true rfl) (Nat.le_of_ble_eq_true rfl) dX8_run_160 ?_
                    refine lv_topl (fun x13612 ex13612 => ?_)
                    refine va_mmax_long hx hb (by rw [hml]; exact hl.1.symm) hown (hT _ mw_566) (hT _ mw_567) (hT _ mw_12) (hT _ mw_568) (Nat.le_of_ble_eq_true rfl) (Nat.le_of_ble_eq_true rfl) (Nat.le_of_ble_eq_true rfl) (Nat.le_of_ble_eq_true rfl) dX8_run_163 ?_
                    refine lv_topl (fun x13613 ex13613 => ?_)
                    refine lv_l2i hx hb dX8_run_166 rfl ?_
                    refine lv_topi (fun x13614 ex13614 => ?_)
                    refine r_iastO hx hb hK hP hD hS 9 rfl (in_ti rfl (by omega) (by omega)) dX8_run_167 (fun f13615 H locs hP hD hS => ?_)
                    have hP : va_P D vwCl [(z1, .inr (8, [.ref z2, .ref z3, .ref z4, .ref z5, .ref z6, .ref z7, .ref z8, .ref z9, .ref z10, .int x12595, .int x12596, .int x12597, .int x12598])), (z2, .inl (T 1, 8, .inr (.inl f12599))), (z3, .inl (T 0, 32, .inl f12600)), (z4, .inl (T 0, 24, .inl f12601)), (z5, .inl (T 0, 24, .inl f12602)), (z6, .inl (T 0, 24, .inl f12604)), (z7, .inl (T 0, 24, .inl f12606)), (z8, .inl (T 0, 700, .inl f12608)), (z9, .inl (T 0, 8, .inl f12609)), (z10, .inl (T 0, 64, .inl f13615))] H := hP
                    have hD : va_D A [(z1, .inr (8, [.ref z2, .ref z3, .ref z4, .ref z5, .ref z6, .ref z7, .ref z8, .ref z9, .ref z10, .int x12595, .int x12596, .int x12597, .int x12598])), (z2, .inl (T 1, 8, .inr (.inl f12599))), (z3, .inl (T 0, 32, .inl f12600)), (z4, .inl (T 0, 24, .inl f12601)), (z5, .inl (T 0, 24, .inl f12602)), (z6, .inl (T 0, 24, .inl f12604)), (z7, .inl (T 0, 24, .inl f12606)), (z8, .inl (T 0, 700, .inl f12608)), (z9, .inl (T 0, 8, .inl f12609)), (z10, .inl (T 0, 64, .inl f13615))] := hD
                    obtain ⟨x13616, ex13616⟩ : ∃ y : Int32, y = x13604 + 1 := ⟨_, rfl⟩
                    have hx13616 : x13616.toInt = x13604.toInt + 1 := ti_add ex13616 rfl (by decide) (by omega) (by omega)
                    refine lv_iinc (v := x13616) (lv' := [(3, .int x13616), (9, .long x13610), (8, .int x13602), (7, .int x13596), (6, .int x13585), (5, .int x13582), (4, .int x13531), (0, .ref z1), (1, .int p1), (2, .int p2)]) hx hb dX8_run_168 hl (k := 1) rfl (by rw [ex13616]; rfl) (by decide) rfl (fun ls hl => ?_)
                    obtain ⟨x13617, ex13617⟩ : ∃ y : Int32, y = x13531 + 1 := ⟨_, rfl⟩
                    have hx13617 : x13617.toInt = x13531.toInt + 1 := ti_add ex13617 rfl (by decide) (by omega) (by omega)
                    refine lv_iinc (v := x13617) (lv' := [(4, .int x13617), (3, .int x13616), (9, .long x13610), (8, .int x13602), (7, .int x13596), (6, .int x13585), (5, .int x13582), (0, .ref z1), (1, .int p1), (2, .int p2)]) hx hb dX8_run_171 hl (k := 6) rfl (by rw [ex13617]; rfl) (by decide) rfl (fun ls hl => ?_)
                    refine lv_goto (tgt := 5) hx hb dX8_run_174 (by decide) ?_
                    exact ih x13617 x13616 f13615 _ _ ls ⟨by omega, by omega⟩ ⟨by omega, by omega⟩ (by omega) (hP.sub (ws' := [(z1, .inr (8, [.ref z2, .ref z3, .ref z4, .ref z5, .ref z6, .ref z7, .ref z8, .ref z9, .ref z10, .int x12595, .int x12596, .int x12597, .int x12598])), (z2, .inl (T 1, 8, .inr (.inl f12599))), (z3, .inl (T 0, 32, .inl f12600)), (z4, .inl (T 0, 24, .inl f12601)), (z5, .inl (T 0, 24, .inl f12602)), (z6, .inl (T 0, 24, .inl f12604)), (z7, .inl (T 0, 24, .inl f12606)), (z8, .inl (T 0, 700, .inl f12608)), (z9, .inl (T 0, 8, .inl f12609)), (z10, .inl (T 0, 64, .inl f13615))]) [0, 1, 2, 3, 4, 5, 6, 7, 8, 9] rfl) (hD.sub (ws' := [(z1, .inr (8, [.ref z2, .ref z3, .ref z4, .ref z5, .ref z6, .ref z7, .ref z8, .ref z9, .ref z10, .int x12595, .int x12596, .int x12597, .int x12598])), (z2, .inl (T 1, 8, .inr (.inl f12599))), (z3, .inl (T 0, 32, .inl f12600)), (z4, .inl (T 0, 24, .inl f12601)), (z5, .inl (T 0, 24, .inl f12602)), (z6, .inl (T 0, 24, .inl f12604)), (z7, .inl (T 0, 24, .inl f12606)), (z8, .inl (T 0, 700, .inl f12608)), (z9, .inl (T 0, 8, .inl f12609)), (z10, .inl (T 0, 64, .inl f13615))]) [0, 1, 2, 3, 4, 5, 6, 7, 8, 9] (by decide +kernel) rfl) hS (lv_sub hl [0, 1, 7, 8, 9] rfl)
                  refine lv_icmp_le (tgt := 136) hx hb dX8_run_121 (by decide) (fun c13606 => ?_) (fun c13606 => ?_)
                  · skip
                    have kc13606 : x13585.toInt ≤ 1 := le_ti rfl (by decide) c13606
                    refine lv_aload_n hx hb dX8_run_136 rfl (lv_at hl 6 rfl) ?_
                    refine lv_iload hx hb dX8_run_137 (lv_at hl 4 rfl) ?_
                    refine lv_iload hx hb dX8_run_139 (lv_at hl 2 rfl) ?_
                    refine r_calli (wr := []) (r_runV2 (As := [.int x13582, .int x13596]) (rest := []) (wc := [(z1, .inr (8, [.ref z2, .ref z3, .ref z4, .ref z5, .ref z6, .ref z7, .ref z8, .ref z9, .ref z10, .int x12595, .int x12596, .int x12597, .int x12598])), (z2, .inl (T 1, 8, .inr (.inl f12599))), (z3, .inl (T 0, 32, .inl f12600)), (z4, .inl (T 0, 24, .inl f12601)), (z5, .inl (T 0, 24, .inl f12602)), (z6, .inl (T 0, 24, .inl f12604)), (z7, .inl (T 0, 24, .inl f12606)), (z8, .inl (T 0, 700, .inl f12608)), (z9, .inl (T 0, 8, .inl f12609)), (z10, .inl (T 0, 64, .inl f13533))]) (ci := 8) C0 hE hStr hS (va_free (wc := [(z1, .inr (8, [.ref z2, .ref z3, .ref z4, .ref z5, .ref z6, .ref z7, .ref z8, .ref z9, .ref z10, .int x12595, .int x12596, .int x12597, .int x12598])), (z2, .inl (T 1, 8, .inr (.inl f12599))), (z3, .inl (T 0, 32, .inl f12600)), (z4, .inl (T 0, 24, .inl f12601)), (z5, .inl (T 0, 24, .inl f12602)), (z6, .inl (T 0, 24, .inl f12604)), (z7, .inl (T 0, 24, .inl f12606)), (z8, .inl (T 0, 700, .inl f12608)), (z9, .inl (T 0, 8, .inl f12609)), (z10, .inl (T 0, 64, .inl f13533))]) hD hS hA [0, 1, 2, 3, 4, 5, 6, 7, 8, 9] rfl) (g_X8_told_9917 l D T sq sv H.size z1 z2 z3 z4 z5 z6 z7 z8 z9 z10 x13582 x13596 [(z1, .inr (8, [.ref z2, .ref z3, .ref z4, .ref z5, .ref z6, .ref z7, .ref z8, .ref z9, .ref z10, .int x12595, .int x12596, .int x12597, .int x12598])), (z2, .inl (T 1, 8, .inr (.inl f12599))), (z3, .inl (T 0, 32, .inl f12600)), (z4, .inl (T 0, 24, .inl f12601)), (z5, .inl (T 0, 24, .inl f12602)), (z6, .inl (T 0, 24, .inl f12604)), (z7, .inl (T 0, 24, .inl f12606)), (z8, .inl (T 0, 700, .inl f12608)), (z9, .inl (T 0, 8, .inl f12609)), (z10, .inl (T 0, 64, .inl f13533))] (⟨x12595, x12596, x12597, x12598, f12599, f12600, f12601, f12602, f12604, f12606, f12608, f12609, f13533, rfl, ⟨by omega, by omega⟩, ⟨by omega, by omega⟩, ⟨by omega, by omega⟩, hb12603, hb12605, hb12607⟩)) mw_558 mw_559 mw_1288 mw_10 mw_560 dn_1650 rfl rfl ⟨Nat.le_of_ble_eq_true rfl, Nat.le_of_ble_eq_true rfl⟩ (hP.sub (ws' := [(z1, .inr (8, [.ref z2, .ref z3, .ref z4, .ref z5, .ref z6, .ref z7, .ref z8, .ref z9, .ref z10, .int x12595, .int x12596, .int x12597, .int x12598])), (z2, .inl (T 1, 8, .inr (.inl f12599))), (z3, .inl (T 0, 32, .inl f12600)), (z4, .inl (T 0, 24, .inl f12601)), (z5, .inl (T 0, 24, .inl f12602)), (z6, .inl (T 0, 24, .inl f12604)), (z7, .inl (T 0, 24, .inl f12606)), (z8, .inl (T 0, 700, .inl f12608)), (z9, .inl (T 0, 8, .inl f12609)), (z10, .inl (T 0, 64, .inl f13533))]) [0, 1, 2, 3, 4, 5, 6, 7, 8, 9] rfl) (hD.sub (ws' := [(z1, .inr (8, [.ref z2, .ref z3, .ref z4, .ref z5, .ref z6, .ref z7, .ref z8, .ref z9, .ref z10, .int x12595, .int x12596, .int x12597, .int x12598])), (z2, .inl (T 1, 8, .inr (.inl f12599))), (z3, .inl (T 0, 32, .inl f12600)), (z4, .inl (T 0, 24, .inl f12601)), (z5, .inl (T 0, 24, .inl f12602)), (z6, .inl (T 0, 24, .inl f12604)), (z7, .inl (T 0, 24, .inl f12606)), (z8, .inl (T 0, 700, .inl f12608)), (z9, .inl (T 0, 8, .inl f12609)), (z10, .inl (T 0, 64, .inl f13533))]) [0, 1, 2, 3, 4, 5, 6, 7, 8, 9] (by decide +kernel) rfl) rfl rfl rfl hl.1 rfl (Nat.le_of_ble_eq_true rfl) dX8_run_141 ⟨Nat.le_of_ble_eq_true rfl, Nat.le_of_ble_eq_true rfl⟩) hP hD hS hA [0, 1, 2, 3, 4, 5, 6, 7, 8, 9] [] rfl rfl (by decide +kernel) (by decide +kernel) (fun x13618 u H locs hq hP hD hS => ?_)
                    have hP : va_P D vwCl [(z1, .inr (8, [.ref z2, .ref z3, .ref z4, .ref z5, .ref z6, .ref z7, .ref z8, .ref z9, .ref z10, .int x12595, .int x12596, .int x12597, .int x12598])), (z2, .inl (T 1, 8, .inr (.inl f12599))), (z3, .inl (T 0, 32, .inl f12600)), (z4, .inl (T 0, 24, .inl f12601)), (z5, .inl (T 0, 24, .inl f12602)), (z6, .inl (T 0, 24, .inl f12604)), (z7, .inl (T 0, 24, .inl f12606)), (z8, .inl (T 0, 700, .inl f12608)), (z9, .inl (T 0, 8, .inl f12609)), (z10, .inl (T 0, 64, .inl f13533))] H := hP
                    have hD : va_D A [(z1, .inr (8, [.ref z2, .ref z3, .ref z4, .ref z5, .ref z6, .ref z7, .ref z8, .ref z9, .ref z10, .int x12595, .int x12596, .int x12597, .int x12598])), (z2, .inl (T 1, 8, .inr (.inl f12599))), (z3, .inl (T 0, 32, .inl f12600)), (z4, .inl (T 0, 24, .inl f12601)), (z5, .inl (T 0, 24, .inl f12602)), (z6, .inl (T 0, 24, .inl f12604)), (z7, .inl (T 0, 24, .inl f12606)), (z8, .inl (T 0, 700, .inl f12608)), (z9, .inl (T 0, 8, .inl f12609)), (z10, .inl (T 0, 64, .inl f13533))] := hD
                    refine W.widen (k := 0) (n := 0) (Nat.le_refl _) (Nat.le_refl _) ?_
                    refine lv_i2l hx hb dX8_run_144 rfl ?_
                    refine lv_topl (fun x13619 ex13619 => ?_)
                    exact J13611 x13619 _ _ ls (hP.sub (ws' := [(z1, .inr (8, [.ref z2, .ref z3, .ref z4, .ref z5, .ref z6, .ref z7, .ref z8, .ref z9, .ref z10, .int x12595, .int x12596, .int x12597, .int x12598])), (z2, .inl (T 1, 8, .inr (.inl f12599))), (z3, .inl (T 0, 32, .inl f12600)), (z4, .inl (T 0, 24, .inl f12601)), (z5, .inl (T 0, 24, .inl f12602)), (z6, .inl (T 0, 24, .inl f12604)), (z7, .inl (T 0, 24, .inl f12606)), (z8, .inl (T 0, 700, .inl f12608)), (z9, .inl (T 0, 8, .inl f12609)), (z10, .inl (T 0, 64, .inl f13533))]) [0, 1, 2, 3, 4, 5, 6, 7, 8, 9] rfl) (hD.sub (ws' := [(z1, .inr (8, [.ref z2, .ref z3, .ref z4, .ref z5, .ref z6, .ref z7, .ref z8, .ref z9, .ref z10, .int x12595, .int x12596, .int x12597, .int x12598])), (z2, .inl (T 1, 8, .inr (.inl f12599))), (z3, .inl (T 0, 32, .inl f12600)), (z4, .inl (T 0, 24, .inl f12601)), (z5, .inl (T 0, 24, .inl f12602)), (z6, .inl (T 0, 24, .inl f12604)), (z7, .inl (T 0, 24, .inl f12606)), (z8, .inl (T 0, 700, .inl f12608)), (z9, .inl (T 0, 8, .inl f12609)), (z10, .inl (T 0, 64, .inl f13533))]) [0, 1, 2, 3, 4, 5, 6, 7, 8, 9] (by decide +kernel) rfl) hS (lv_sub hl [0, 1, 2, 3, 4, 5, 6, 7, 8] rfl)
                  · skip
                    have kc13606 : 1 < x13585.toInt := nle_ti rfl (by decide) c13606
                    refine lv_iload hx hb dX8_run_124 (lv_at hl 4 rfl) ?_
                    refine lv_iload hx hb dX8_run_126 (lv_at hl 1 rfl) ?_
                    refine lv_iload hx hb dX8_run_128 (lv_at hl 2 rfl) ?_
                    refine r_calll (wr := [(z1, .inr (8, [.ref z2, .ref z3, .ref z4, .ref z5, .ref z6, .ref z7, .ref z8, .ref z9, .ref z10, .int x12595, .int x12596, .int x12597, .int x12598])), (z2, .inl (T 1, 8, .inr (.inl f12599))), (z3, .inl (T 0, 32, .inl f12600)), (z4, .inl (T 0, 24, .inl f12601)), (z5, .inl (T 0, 24, .inl f12602)), (z6, .inl (T 0, 24, .inl f12604)), (z7, .inl (T 0, 24, .inl f12606)), (z8, .inl (T 0, 700, .inl f12608)), (z9, .inl (T 0, 8, .inl f12609)), (z10, .inl (T 0, 64, .inl f13533))]) (r_runS2 (As := [.int x13582, .int x13602, .int x13596]) (rest := []) (wc := []) C0 hE hStr hS (va_free (wc := []) hD hS hA [] rfl) (g_X8_joined_10300 l D T sq sv H.size x13582 x13602 x13596) mw_550 mw_551 mw_10 mw_552 dn_1651 rfl rfl ⟨Nat.le_of_ble_eq_true rfl, Nat.le_of_ble_eq_true rfl⟩ (hP.sub (ws' := []) [] rfl) (hD.sub (ws' := []) [] (by decide +kernel) rfl) hl.1 rfl (Nat.le_of_ble_eq_true rfl) dX8_run_130 ⟨Nat.le_of_ble_eq_true rfl, Nat.le_of_ble_eq_true rfl⟩) hP hD hS hA [] [0, 1, 2, 3, 4, 5, 6, 7, 8, 9] rfl rfl (by decide +kernel) (by decide +kernel) (fun x13620 u H locs hq hP hD hS => ?_)
                    have hP : va_P D vwCl [(z1, .inr (8, [.ref z2, .ref z3, .ref z4, .ref z5, .ref z6, .ref z7, .ref z8, .ref z9, .ref z10, .int x12595, .int x12596, .int x12597, .int x12598])), (z2, .inl (T 1, 8, .inr (.inl f12599))), (z3, .inl (T 0, 32, .inl f12600)), (z4, .inl (T 0, 24, .inl f12601)), (z5, .inl (T 0, 24, .inl f12602)), (z6, .inl (T 0, 24, .inl f12604)), (z7, .inl (T 0, 24, .inl f12606)), (z8, .inl (T 0, 700, .inl f12608)), (z9, .inl (T 0, 8, .inl f12609)), (z10, .inl (T 0, 64, .inl f13533))] H := hP
                    have hD : va_D A [(z1, .inr (8, [.ref z2, .ref z3, .ref z4, .ref z5, .ref z6, .ref z7, .ref z8, .ref z9, .ref z10, .int x12595, .int x12596, .int x12597, .int x12598])), (z2, .inl (T 1, 8, .inr (.inl f12599))), (z3, .inl (T 0, 32, .inl f12600)), (z4, .inl (T 0, 24, .inl f12601)), (z5, .inl (T 0, 24, .inl f12602)), (z6, .inl (T 0, 24, .inl f12604)), (z7, .inl (T 0, 24, .inl f12606)), (z8, .inl (T 0, 700, .inl f12608)), (z9, .inl (T 0, 8, .inl f12609)), (z10, .inl (T 0, 64, .inl f13533))] := hD
                    refine W.widen (k := 0) (n := 0) (Nat.le_refl _) (Nat.le_refl _) ?_
                    refine lv_goto (tgt := 145) hx hb dX8_run_133 (by decide) ?_
                    exact J13611 x13620 _ _ ls (hP.sub (ws' := [(z1, .inr (8, [.ref z2, .ref z3, .ref z4, .ref z5, .ref z6, .ref z7, .ref z8, .ref z9, .ref z10, .int x12595, .int x12596, .int x12597, .int x12598])), (z2, .inl (T 1, 8, .inr (.inl f12599))), (z3, .inl (T 0, 32, .inl f12600)), (z4, .inl (T 0, 24, .inl f12601)), (z5, .inl (T 0, 24, .inl f12602)), (z6, .inl (T 0, 24, .inl f12604)), (z7, .inl (T 0, 24, .inl f12606)), (z8, .inl (T 0, 700, .inl f12608)), (z9, .inl (T 0, 8, .inl f12609)), (z10, .inl (T 0, 64, .inl f13533))]) [0, 1, 2, 3, 4, 5, 6, 7, 8, 9] rfl) (hD.sub (ws' := [(z1, .inr (8, [.ref z2, .ref z3, .ref z4, .ref z5, .ref z6, .ref z7, .ref z8, .ref z9, .ref z10, .int x12595, .int x12596, .int x12597, .int x12598])), (z2, .inl (T 1, 8, .inr (.inl f12599))), (z3, .inl (T 0, 32, .inl f12600)), (z4, .inl (T 0, 24, .inl f12601)), (z5, .inl (T 0, 24, .inl f12602)), (z6, .inl (T 0, 24, .inl f12604)), (z7, .inl (T 0, 24, .inl f12606)), (z8, .inl (T 0, 700, .inl f12608)), (z9, .inl (T 0, 8, .inl f12609)), (z10, .inl (T 0, 64, .inl f13533))]) [0, 1, 2, 3, 4, 5, 6, 7, 8, 9] (by decide +kernel) rfl) hS (lv_sub hl [0, 1, 2, 3, 4, 5, 6, 7, 8] rfl)
                refine lv_icmp_le (tgt := 110) hx hb dX8_run_96 (by decide) (fun c13598 => ?_) (fun c13598 => ?_)
                · skip
                  have kc13598 : x13585.toInt ≤ 1 := le_ti rfl (by decide) c13598
                  refine lv_iconst (v := 0) hx hb dX8_run_110 (by decide) ?_
                  exact J13603 0 _ _ ls (hP.sub (ws' := [(z1, .inr (8, [.ref z2, .ref z3, .ref z4, .ref z5, .ref z6, .ref z7, .ref z8, .ref z9, .ref z10, .int x12595, .int x12596, .int x12597, .int x12598])), (z2, .inl (T 1, 8, .inr (.inl f12599))), (z3, .inl (T 0, 32, .inl f12600)), (z4, .inl (T 0, 24, .inl f12601)), (z5, .inl (T 0, 24, .inl f12602)), (z6, .inl (T 0, 24, .inl f12604)), (z7, .inl (T 0, 24, .inl f12606)), (z8, .inl (T 0, 700, .inl f12608)), (z9, .inl (T 0, 8, .inl f12609)), (z10, .inl (T 0, 64, .inl f13533))]) [0, 1, 2, 3, 4, 5, 6, 7, 8, 9] rfl) (hD.sub (ws' := [(z1, .inr (8, [.ref z2, .ref z3, .ref z4, .ref z5, .ref z6, .ref z7, .ref z8, .ref z9, .ref z10, .int x12595, .int x12596, .int x12597, .int x12598])), (z2, .inl (T 1, 8, .inr (.inl f12599))), (z3, .inl (T 0, 32, .inl f12600)), (z4, .inl (T 0, 24, .inl f12601)), (z5, .inl (T 0, 24, .inl f12602)), (z6, .inl (T 0, 24, .inl f12604)), (z7, .inl (T 0, 24, .inl f12606)), (z8, .inl (T 0, 700, .inl f12608)), (z9, .inl (T 0, 8, .inl f12609)), (z10, .inl (T 0, 64, .inl f13533))]) [0, 1, 2, 3, 4, 5, 6, 7, 8, 9] (by decide +kernel) rfl) hS (lv_sub hl [0, 1, 2, 3, 4, 5, 6, 7] rfl)
                · skip
                  have kc13598 : 1 < x13585.toInt := nle_ti rfl (by decide) c13598
                  refine lv_aload_n hx hb dX8_run_99 rfl (lv_at hl 5 rfl) ?_
                  refine r_get (v := .ref z10) C0 hE ffX8_8 mw_207 hP 0 rfl rfl dX8_run_100 ?_
                  refine lv_iload_n hx hb dX8_run_103 rfl (lv_at hl 4 rfl) ?_
                  refine lv_iconst (v := 2) hx hb dX8_run_104 (by decide) ?_
                  refine lv_isub hx hb dX8_run_105 ?_
                  refine lv_topi (fun x13621 ex13621 => ?_)
                  have hx13621 : x13621.toInt = x13532.toInt - 2 := ti_sub ex13621 rfl (by decide) (by omega) (by omega)
                  have ha13622 : 0 ≤ x13621.toInt ∧ x13621.toInt ≤ 63 := ⟨by omega, by omega⟩
                  refine va_iald hx hb hK hP 9 0 rfl rfl (in_ti rfl (by omega) (by omega)) dX8_run_106 ?_
                  refine lv_topi (fun x13623 ex13623 => ?_)
                  refine lv_goto (tgt := 111) hx hb dX8_run_107 (by decide) ?_
                  exact J13603 x13623 _ _ ls (hP.sub (ws' := [(z1, .inr (8, [.ref z2, .ref z3, .ref z4, .ref z5, .ref z6, .ref z7, .ref z8, .ref z9, .ref z10, .int x12595, .int x12596, .int x12597, .int x12598])), (z2, .inl (T 1, 8, .inr (.inl f12599))), (z3, .inl (T 0, 32, .inl f12600)), (z4, .inl (T 0, 24, .inl f12601)), (z5, .inl (T 0, 24, .inl f12602)), (z6, .inl (T 0, 24, .inl f12604)), (z7, .inl (T 0, 24, .inl f12606)), (z8, .inl (T 0, 700, .inl f12608)), (z9, .inl (T 0, 8, .inl f12609)), (z10, .inl (T 0, 64, .inl f13533))]) [0, 1, 2, 3, 4, 5, 6, 7, 8, 9] rfl) (hD.sub (ws' := [(z1, .inr (8, [.ref z2, .ref z3, .ref z4, .ref z5, .ref z6, .ref z7, .ref z8, .ref z9, .ref z10, .int x12595, .int x12596, .int x12597, .int x12598])), (z2, .inl (T 1, 8, .inr (.inl f12599))), (z3, .inl (T 0, 32, .inl f12600)), (z4, .inl (T 0, 24, .inl f12601)), (z5, .inl (T 0, 24, .inl f12602)), (z6, .inl (T 0, 24, .inl f12604)), (z7, .inl (T 0, 24, .inl f12606)), (z8, .inl (T 0, 700, .inl f12608)), (z9, .inl (T 0, 8, .inl f12609)), (z10, .inl (T 0, 64, .inl f13533))]) [0, 1, 2, 3, 4, 5, 6, 7, 8, 9] (by decide +kernel) rfl) hS (lv_sub hl [0, 1, 2, 3, 4, 5, 6, 7] rfl)
              refine lv_if_le (tgt := 80) hx hb dX8_run_66 (by decide) (fun c13590 => ?_) (fun c13590 => ?_)
              · skip
                have kc13590 : x13585.toInt ≤ 0 := le_ti rfl (by decide) c13590
                refine lv_aload_n hx hb dX8_run_80 rfl (lv_at hl 4 rfl) ?_
                refine r_get (v := .ref z8) C0 hE ffX8_6 mw_204 hP 0 rfl rfl dX8_run_81 ?_
                refine lv_iload hx hb dX8_run_84 (lv_at hl 2 rfl) ?_
                refine va_iald hx hb hK hP 7 0 rfl rfl (in_ti rfl (by omega) (by omega)) dX8_run_86 ?_
                refine lv_topi (fun x13624 ex13624 => ?_)
                refine lv_sipush (v := 10000) hx hb dX8_run_87 (by decide) ?_
                refine lv_irem hx hb dX8_run_90 (by decide +kernel) ?_
                refine lv_topi (fun x13625 ex13625 => ?_)
                exact J13597 x13625 _ _ ls (hP.sub (ws' := [(z1, .inr (8, [.ref z2, .ref z3, .ref z4, .ref z5, .ref z6, .ref z7, .ref z8, .ref z9, .ref z10, .int x12595, .int x12596, .int x12597, .int x12598])), (z2, .inl (T 1, 8, .inr (.inl f12599))), (z3, .inl (T 0, 32, .inl f12600)), (z4, .inl (T 0, 24, .inl f12601)), (z5, .inl (T 0, 24, .inl f12602)), (z6, .inl (T 0, 24, .inl f12604)), (z7, .inl (T 0, 24, .inl f12606)), (z8, .inl (T 0, 700, .inl f12608)), (z9, .inl (T 0, 8, .inl f12609)), (z10, .inl (T 0, 64, .inl f13533))]) [0, 1, 2, 3, 4, 5, 6, 7, 8, 9] rfl) (hD.sub (ws' := [(z1, .inr (8, [.ref z2, .ref z3, .ref z4, .ref z5, .ref z6, .ref z7, .ref z8, .ref z9, .ref z10, .int x12595, .int x12596, .int x12597, .int x12598])), (z2, .inl (T 1, 8, .inr (.inl f12599))), (z3, .inl (T 0, 32, .inl f12600)), (z4, .inl (T 0, 24, .inl f12601)), (z5, .inl (T 0, 24, .inl f12602)), (z6, .inl (T 0, 24, .inl f12604)), (z7, .inl (T 0, 24, .inl f12606)), (z8, .inl (T 0, 700, .inl f12608)), (z9, .inl (T 0, 8, .inl f12609)), (z10, .inl (T 0, 64, .inl f13533))]) [0, 1, 2, 3, 4, 5, 6, 7, 8, 9] (by decide +kernel) rfl) hS (lv_sub hl [0, 1, 2, 3, 4, 5, 6] rfl)
              · skip
                have kc13590 : 0 < x13585.toInt := nle_ti rfl (by decide) c13590
                refine lv_aload_n hx hb dX8_run_69 rfl (lv_at hl 4 rfl) ?_
                refine r_get (v := .ref z10) C0 hE ffX8_8 mw_207 hP 0 rfl rfl dX8_run_70 ?_
                refine lv_iload_n hx hb dX8_run_73 rfl (lv_at hl 3 rfl) ?_
                refine lv_iconst (v := 1) hx hb dX8_run_74 (by decide) ?_
                refine lv_isub hx hb dX8_run_75 ?_
                refine lv_topi (fun x13626 ex13626 => ?_)
                have hx13626 : x13626.toInt = x13532.toInt - 1 := ti_sub ex13626 rfl (by decide) (by omega) (by omega)
                have ha13627 : 0 ≤ x13626.toInt ∧ x13626.toInt ≤ 63 := ⟨by omega, by omega⟩
                refine va_iald hx hb hK hP 9 0 rfl rfl (in_ti rfl (by omega) (by omega)) dX8_run_76 ?_
                refine lv_topi (fun x13628 ex13628 => ?_)
                refine lv_goto (tgt := 91) hx hb dX8_run_77 (by decide) ?_
                exact J13597 x13628 _ _ ls (hP.sub (ws' := [(z1, .inr (8, [.ref z2, .ref z3, .ref z4, .ref z5, .ref z6, .ref z7, .ref z8, .ref z9, .ref z10, .int x12595, .int x12596, .int x12597, .int x12598])), (z2, .inl (T 1, 8, .inr (.inl f12599))), (z3, .inl (T 0, 32, .inl f12600)), (z4, .inl (T 0, 24, .inl f12601)), (z5, .inl (T 0, 24, .inl f12602)), (z6, .inl (T 0, 24, .inl f12604)), (z7, .inl (T 0, 24, .inl f12606)), (z8, .inl (T 0, 700, .inl f12608)), (z9, .inl (T 0, 8, .inl f12609)), (z10, .inl (T 0, 64, .inl f13533))]) [0, 1, 2, 3, 4, 5, 6, 7, 8, 9] rfl) (hD.sub (ws' := [(z1, .inr (8, [.ref z2, .ref z3, .ref z4, .ref z5, .ref z6, .ref z7, .ref z8, .ref z9, .ref z10, .int x12595, .int x12596, .int x12597, .int x12598])), (z2, .inl (T 1, 8, .inr (.inl f12599))), (z3, .inl (T 0, 32, .inl f12600)), (z4, .inl (T 0, 24, .inl f12601)), (z5, .inl (T 0, 24, .inl f12602)), (z6, .inl (T 0, 24, .inl f12604)), (z7, .inl (T 0, 24, .inl f12606)), (z8, .inl (T 0, 700, .inl f12608)), (z9, .inl (T 0, 8, .inl f12609)), (z10, .inl (T 0, 64, .inl f13533))]) [0, 1, 2, 3, 4, 5, 6, 7, 8, 9] (by decide +kernel) rfl) hS (lv_sub hl [0, 1, 2, 3, 4, 5, 6] rfl)
            · skip
              have kc13589 : 64 ≤ x13588.toInt := nlt_ti rfl (by decide) c13589
              refine lv_iconst (v := 0) hx hb dX8_run_62 (by decide) ?_
              exact r_iret ([(z1, .inr (8, [.ref z2, .ref z3, .ref z4, .ref z5, .ref z6, .ref z7, .ref z8, .ref z9, .ref z10, .int x12595, .int x12596, .int x12597, .int x12598])), (z2, .inl (T 1, 8, .inr (.inl f12599))), (z3, .inl (T 0, 32, .inl f12600)), (z4, .inl (T 0, 24, .inl f12601)), (z5, .inl (T 0, 24, .inl f12602)), (z6, .inl (T 0, 24, .inl f12604)), (z7, .inl (T 0, 24, .inl f12606)), (z8, .inl (T 0, 700, .inl f12608)), (z9, .inl (T 0, 8, .inl f12609)), (z10, .inl (T 0, 64, .inl f13533))] : va_W) C0 hr hlocks hS (Nat.le_refl _) (Nat.le_refl _) dX8_run_63 ⟨⟨x12595, x12596, x12597, x12598, f12599, f12600, f12601, f12602, f12604, f12606, f12608, f12609, f13533, rfl, ⟨by omega, by omega⟩, ⟨by omega, by omega⟩, ⟨by omega, by omega⟩, hb12603, hb12605, hb12607⟩, rfl, rfl, rfl, rfl⟩ (hP.sub (ws' := [(z1, .inr (8, [.ref z2, .ref z3, .ref z4, .ref z5, .ref z6, .ref z7, .ref z8, .ref z9, .ref z10, .int x12595, .int x12596, .int x12597, .int x12598])), (z2, .inl (T 1, 8, .inr (.inl f12599))), (z3, .inl (T 0, 32, .inl f12600)), (z4, .inl (T 0, 24, .inl f12601)), (z5, .inl (T 0, 24, .inl f12602)), (z6, .inl (T 0, 24, .inl f12604)), (z7, .inl (T 0, 24, .inl f12606)), (z8, .inl (T 0, 700, .inl f12608)), (z9, .inl (T 0, 8, .inl f12609)), (z10, .inl (T 0, 64, .inl f13533))]) [0, 1, 2, 3, 4, 5, 6, 7, 8, 9] rfl) (hD.sub (ws' := [(z1, .inr (8, [.ref z2, .ref z3, .ref z4, .ref z5, .ref z6, .ref z7, .ref z8, .ref z9, .ref z10, .int x12595, .int x12596, .int x12597, .int x12598])), (z2, .inl (T 1, 8, .inr (.inl f12599))), (z3, .inl (T 0, 32, .inl f12600)), (z4, .inl (T 0, 24, .inl f12601)), (z5, .inl (T 0, 24, .inl f12602)), (z6, .inl (T 0, 24, .inl f12604)), (z7, .inl (T 0, 24, .inl f12606)), (z8, .inl (T 0, 700, .inl f12608)), (z9, .inl (T 0, 8, .inl f12609)), (z10, .inl (T 0, 64, .inl f13533))]) [0, 1, 2, 3, 4, 5, 6, 7, 8, 9] (by decide +kernel) rfl)
        refine lv_icmp_gt (tgt := 34) hx hb dX8_run_27 (by decide) (fun c13583 => ?_) (fun c13583 => ?_)
        · skip
          have kc13583 : 2 < x13582.toInt := lt_ti (by decide) rfl c13583
          refine lv_iload hx hb dX8_run_34 (lv_at hl 0 rfl) ?_
          refine lv_iconst (v := 3) hx hb dX8_run_36 (by decide) ?_
          refine lv_icmp_ne (tgt := 44) hx hb dX8_run_37 (by decide) (fun c13629 => ?_) (fun c13629 => ?_)
          · skip
            have kc13629 : x13582.toInt ≠ 3 := ne_ti rfl (by decide) c13629
            refine lv_iconst (v := 2) hx hb dX8_run_44 (by decide) ?_
            exact J13586 2 _ _ ls ⟨by decide, by decide⟩ (hP.sub (ws' := [(z1, .inr (8, [.ref z2, .ref z3, .ref z4, .ref z5, .ref z6, .ref z7, .ref z8, .ref z9, .ref z10, .int x12595, .int x12596, .int x12597, .int x12598])), (z2, .inl (T 1, 8, .inr (.inl f12599))), (z3, .inl (T 0, 32, .inl f12600)), (z4, .inl (T 0, 24, .inl f12601)), (z5, .inl (T 0, 24, .inl f12602)), (z6, .inl (T 0, 24, .inl f12604)), (z7, .inl (T 0, 24, .inl f12606)), (z8, .inl (T 0, 700, .inl f12608)), (z9, .inl (T 0, 8, .inl f12609)), (z10, .inl (T 0, 64, .inl f13533))]) [0, 1, 2, 3, 4, 5, 6, 7, 8, 9] rfl) (hD.sub (ws' := [(z1, .inr (8, [.ref z2, .ref z3, .ref z4, .ref z5, .ref z6, .ref z7, .ref z8, .ref z9, .ref z10, .int x12595, .int x12596, .int x12597, .int x12598])), (z2, .inl (T 1, 8, .inr (.inl f12599))), (z3, .inl (T 0, 32, .inl f12600)), (z4, .inl (T 0, 24, .inl f12601)), (z5, .inl (T 0, 24, .inl f12602)), (z6, .inl (T 0, 24, .inl f12604)), (z7, .inl (T 0, 24, .inl f12606)), (z8, .inl (T 0, 700, .inl f12608)), (z9, .inl (T 0, 8, .inl f12609)), (z10, .inl (T 0, 64, .inl f13533))]) [0, 1, 2, 3, 4, 5, 6, 7, 8, 9] (by decide +kernel) rfl) hS (lv_sub hl [0, 1, 2, 3, 4, 5] rfl)
          · skip
            have kc13629 : x13582.toInt = 3 := eq_ti rfl (by decide) c13629
            refine lv_iconst (v := 1) hx hb dX8_run_40 (by decide) ?_
            refine lv_goto (tgt := 45) hx hb dX8_run_41 (by decide) ?_
            exact J13586 1 _ _ ls ⟨by decide, by decide⟩ (hP.sub (ws' := [(z1, .inr (8, [.ref z2, .ref z3, .ref z4, .ref z5, .ref z6, .ref z7, .ref z8, .ref z9, .ref z10, .int x12595, .int x12596, .int x12597, .int x12598])), (z2, .inl (T 1, 8, .inr (.inl f12599))), (z3, .inl (T 0, 32, .inl f12600)), (z4, .inl (T 0, 24, .inl f12601)), (z5, .inl (T 0, 24, .inl f12602)), (z6, .inl (T 0, 24, .inl f12604)), (z7, .inl (T 0, 24, .inl f12606)), (z8, .inl (T 0, 700, .inl f12608)), (z9, .inl (T 0, 8, .inl f12609)), (z10, .inl (T 0, 64, .inl f13533))]) [0, 1, 2, 3, 4, 5, 6, 7, 8, 9] rfl) (hD.sub (ws' := [(z1, .inr (8, [.ref z2, .ref z3, .ref z4, .ref z5, .ref z6, .ref z7, .ref z8, .ref z9, .ref z10, .int x12595, .int x12596, .int x12597, .int x12598])), (z2, .inl (T 1, 8, .inr (.inl f12599))), (z3, .inl (T 0, 32, .inl f12600)), (z4, .inl (T 0, 24, .inl f12601)), (z5, .inl (T 0, 24, .inl f12602)), (z6, .inl (T 0, 24, .inl f12604)), (z7, .inl (T 0, 24, .inl f12606)), (z8, .inl (T 0, 700, .inl f12608)), (z9, .inl (T 0, 8, .inl f12609)), (z10, .inl (T 0, 64, .inl f13533))]) [0, 1, 2, 3, 4, 5, 6, 7, 8, 9] (by decide +kernel) rfl) hS (lv_sub hl [0, 1, 2, 3, 4, 5] rfl)
        · skip
          have kc13583 : x13582.toInt ≤ 2 := nlt_ti (by decide) rfl c13583
          refine lv_iconst (v := 0) hx hb dX8_run_30 (by decide) ?_
          refine lv_goto (tgt := 45) hx hb dX8_run_31 (by decide) ?_
          exact J13586 0 _ _ ls ⟨by decide, by decide⟩ (hP.sub (ws' := [(z1, .inr (8, [.ref z2, .ref z3, .ref z4, .ref z5, .ref z6, .ref z7, .ref z8, .ref z9, .ref z10, .int x12595, .int x12596, .int x12597, .int x12598])), (z2, .inl (T 1, 8, .inr (.inl f12599))), (z3, .inl (T 0, 32, .inl f12600)), (z4, .inl (T 0, 24, .inl f12601)), (z5, .inl (T 0, 24, .inl f12602)), (z6, .inl (T 0, 24, .inl f12604)), (z7, .inl (T 0, 24, .inl f12606)), (z8, .inl (T 0, 700, .inl f12608)), (z9, .inl (T 0, 8, .inl f12609)), (z10, .inl (T 0, 64, .inl f13533))]) [0, 1, 2, 3, 4, 5, 6, 7, 8, 9] rfl) (hD.sub (ws' := [(z1, .inr (8, [.ref z2, .ref z3, .ref z4, .ref z5, .ref z6, .ref z7, .ref z8, .ref z9, .ref z10, .int x12595, .int x12596, .int x12597, .int x12598])), (z2, .inl (T 1, 8, .inr (.inl f12599))), (z3, .inl (T 0, 32, .inl f12600)), (z4, .inl (T 0, 24, .inl f12601)), (z5, .inl (T 0, 24, .inl f12602)), (z6, .inl (T 0, 24, .inl f12604)), (z7, .inl (T 0, 24, .inl f12606)), (z8, .inl (T 0, 700, .inl f12608)), (z9, .inl (T 0, 8, .inl f12609)), (z10, .inl (T 0, 64, .inl f13533))]) [0, 1, 2, 3, 4, 5, 6, 7, 8, 9] (by decide +kernel) rfl) hS (lv_sub hl [0, 1, 2, 3, 4, 5] rfl)
  exact L13572 _ p1 0 f12610 _ _ ls ⟨by omega, by omega⟩ ⟨by decide, by decide⟩ (Nat.lt_succ_self _) (hP.sub (ws' := [(z1, .inr (8, [.ref z2, .ref z3, .ref z4, .ref z5, .ref z6, .ref z7, .ref z8, .ref z9, .ref z10, .int x12595, .int x12596, .int x12597, .int x12598])), (z2, .inl (T 1, 8, .inr (.inl f12599))), (z3, .inl (T 0, 32, .inl f12600)), (z4, .inl (T 0, 24, .inl f12601)), (z5, .inl (T 0, 24, .inl f12602)), (z6, .inl (T 0, 24, .inl f12604)), (z7, .inl (T 0, 24, .inl f12606)), (z8, .inl (T 0, 700, .inl f12608)), (z9, .inl (T 0, 8, .inl f12609)), (z10, .inl (T 0, 64, .inl f12610))]) [0, 1, 2, 3, 4, 5, 6, 7, 8, 9] rfl) (hD.sub (ws' := [(z1, .inr (8, [.ref z2, .ref z3, .ref z4, .ref z5, .ref z6, .ref z7, .ref z8, .ref z9, .ref z10, .int x12595, .int x12596, .int x12597, .int x12598])), (z2, .inl (T 1, 8, .inr (.inl f12599))), (z3, .inl (T 0, 32, .inl f12600)), (z4, .inl (T 0, 24, .inl f12601)), (z5, .inl (T 0, 24, .inl f12602)), (z6, .inl (T 0, 24, .inl f12604)), (z7, .inl (T 0, 24, .inl f12606)), (z8, .inl (T 0, 700, .inl f12608)), (z9, .inl (T 0, 8, .inl f12609)), (z10, .inl (T 0, 64, .inl f12610))]) [0, 1, 2, 3, 4, 5, 6, 7, 8, 9] (by decide +kernel) rfl) hS (lv_sub hl [0, 1, 2, 3, 4] rfl)
