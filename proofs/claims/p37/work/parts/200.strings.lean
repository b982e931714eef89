theorem char_nar {x : Int32} (h : 0 ≤ x.toInt ∧ x.toInt ≤ 255) : narrow .char (.int x) = .int x := by
  obtain ⟨j, hj, e⟩ := nI_of (x := x) (fun c => by have := Int32.lt_iff_toInt_lt.mp c; have h0 : (0 : Int32).toInt = 0 := rfl; omega)
  rw [e, nI_toInt hj] at h
  rw [e]
  exact (pk_charN (by omega)).1
theorem r_runO2 {p : Program} {l : Launch} {e : Env} {R : Room} {s : State} {m : MethodId} {args : Array Value} {below : List Frame} {meth : Method} {c : Code} {H : Heap} {locs : List Loc} {cells slots : Nat} {D : va_G} {T : Nat → ClassId} {A : Nat → Prop} {cc cb : ByteArray} {nL maxL pc index sq sv : Nat} {ls : Array Slot} {rest st0 As : List Value} {own : String} {y : MethodName} {ret : Option FieldType} {rm : Room} {Qc : Array Value → State → Outcome → State → Prop} (C0 : CallFix p m c cc nL s args TB own) (hE : EV D T s) (hStr : STR A sq sv s) (hS : va_S A s.heap H locs) (hA : ∀ q, s.heap.size ≤ q → A q) (hyc : y.cls = "java/lang/String") (hM : Met l y (.code y cb maxL ret :: TB) rm (PC2 D T sq sv (.ref sq :: As) [] H.size) Qc 0 0 (va_A [] H.size))
    (w1 : Cond.methodLink own index y ∈ TB) (w2 : Cond.instanceMethod y ∈ TB) (w3 : Cond.selects y.cls y y ∈ TB) (w4 : Cond.initialized y.cls ∈ TB) (w5 : Cond.code y cb maxL ret ∈ TB) (hd : DescN y As.length) (hrc : rm.cells = 0) (hrs : rm.slots = 0) (hR : rm.frames + 1 ≤ R.frames ∧ 8 + (maxL + 11) + rm.locals ≤ R.locals)
    (hsz : ls.size = nL) (hst : st0 = As.reverse ++ .ref sq :: rest) (hro : (rest.map fun v => v.category).sum ≤ 8) (hdg : decode cc pc = .ok (.invokevirtual index, 3)) (hf : cells + 0 ≤ R.cells ∧ slots + 0 ≤ R.slots) :
    va_Run p l e R s m args below meth c H locs cells slots 0 0 (F0 m pc ls st0) rest (Qc (Value.ref sq :: As).toArray) (va_A [] H.size) := by
  have hF : ∀ q, va_A [] H.size q → A q := fun q h => by
    rcases h with ⟨k, e, h⟩ | h
    · simp at h
    · exact hA q (Nat.le_trans hS.1 h)
  have hO := hStr.2.1.kept hS.2.1
  exact va_runV (C := y.cls) (b := sq) (As := As) C0 hM (cwV As.length C0.2.2.2.2 (r_wV (fun _ h => h) w1 w2 w3 w4 w5) rfl hrc hrs ⟨rfl, hd⟩ hR) ⟨PC2.blind, (by rw [hyc]; obtain ⟨cell, h1, h2, h3, -⟩ := hO; exact ⟨cell, h1, h2, h3⟩), PC2.at hE hStr hS hF P_nil (D_nil (A := A))⟩ rfl rfl hsz hst (lv_room hro) hdg hf
set_option maxHeartbeats 4000000 in
set_option maxRecDepth 100000 in
theorem c_coder (l : Launch) (D : va_G) (T : Nat → ClassId) (sq sv sz : Nat) : Met l yJ0_coder_7d493 (.code yJ0_coder_7d493 cJ0_coder_7d493 1 (some .byte) :: TB) { frames := 0, cells := 0, slots := 0, locals := 0 } (PC2 D T sq sv [.ref sq] [] sz) (Qi (S := Unit) (fun r _ => r = 0) (fun _ => []) D (va_A [] sz)) 0 0 (va_A [] sz) := by
  refine ct_begin2F (Qc := Qi (S := Unit) (fun r _ => r = 0) (fun _ => []) D) (by decide +kernel) (Nat.le_of_ble_eq_true rfl) ?_
  intro p e s m below meth c A ls C0 hr hlocks hnm hE hStr hA hP hD hl
  have hx := C0.1
  have hb := C0.2.1
  have hml := C0.2.2.1
  have hown := C0.2.2.2.1
  have hT := C0.2.2.2.2
  have hS : va_S A s.heap s.heap [] := va_S.rf
  have hl : lv_has ls 1 [(0, .ref sq)] := hl
  refine va_gets hx hb hStr.2.2.2.2.2.1 hS hown (hT _ mw_317) (fun _ h => h) dJ0_coder_7d493_0 ?_
  refine lv_if_eq (tgt := 13) hx hb dJ0_coder_7d493_3 (by decide) (fun hc => absurd hc (by decide +kernel)) (fun _ => ?_)
  refine lv_aload_n hx hb dJ0_coder_7d493_6 rfl (lv_at hl 0 rfl) ?_
  refine vk_getf hx hb hStr.2.2.1 hS hown (hT _ mw_1258) (fun _ h => h) dJ0_coder_7d493_7 ?_
  refine lv_goto (tgt := 14) hx hb dJ0_coder_7d493_10 (by decide) ?_
  exact r_zret () C0 hr (by decide +kernel) hlocks hS (Nat.le_refl _) (Nat.le_refl _) dJ0_coder_7d493_14 rfl P_nil D_nil
set_option maxHeartbeats 4000000 in
set_option maxRecDepth 100000 in
theorem c_isLatin1 (l : Launch) (D : va_G) (T : Nat → ClassId) (sq sv sz : Nat) : Met l yJ0_isLatin1_aae02 (.code yJ0_isLatin1_aae02 cJ0_isLatin1_aae02 1 (some .boolean) :: TB) { frames := 0, cells := 0, slots := 0, locals := 0 } (PC2 D T sq sv [.ref sq] [] sz) (Qi (S := Unit) (fun r _ => r = 1) (fun _ => []) D (va_A [] sz)) 0 0 (va_A [] sz) := by
  refine ct_begin2F (Qc := Qi (S := Unit) (fun r _ => r = 1) (fun _ => []) D) (by decide +kernel) (Nat.le_of_ble_eq_true rfl) ?_
  intro p e s m below meth c A ls C0 hr hlocks hnm hE hStr hA hP hD hl
  have hx := C0.1
  have hb := C0.2.1
  have hml := C0.2.2.1
  have hown := C0.2.2.2.1
  have hT := C0.2.2.2.2
  have hS : va_S A s.heap s.heap [] := va_S.rf
  have hl : lv_has ls 1 [(0, .ref sq)] := hl
  refine va_gets hx hb hStr.2.2.2.2.2.1 hS hown (hT _ mw_317) (fun _ h => h) dJ0_isLatin1_aae02_0 ?_
  refine lv_if_eq (tgt := 17) hx hb dJ0_isLatin1_aae02_3 (by decide) (fun hc => absurd hc (by decide +kernel)) (fun _ => ?_)
  refine lv_aload_n hx hb dJ0_isLatin1_aae02_6 rfl (lv_at hl 0 rfl) ?_
  refine vk_getf hx hb hStr.2.2.1 hS hown (hT _ mw_1258) (fun _ h => h) dJ0_isLatin1_aae02_7 ?_
  refine lv_if_ne (tgt := 17) hx hb dJ0_isLatin1_aae02_10 (by decide) (fun hc => absurd rfl hc) (fun _ => ?_)
  refine lv_iconst (v := 1) hx hb dJ0_isLatin1_aae02_13 (by decide) ?_
  refine lv_goto (tgt := 18) hx hb dJ0_isLatin1_aae02_14 (by decide) ?_
  exact r_zret () C0 hr (by decide +kernel) hlocks hS (Nat.le_refl _) (Nat.le_refl _) dJ0_isLatin1_aae02_18 rfl P_nil D_nil
set_option maxHeartbeats 4000000 in
set_option maxRecDepth 100000 in
theorem c_strLength (l : Launch) (D : va_G) (T : Nat → ClassId) (sq sv sz : Nat) : Met l yJ0_length_8abf5 (.code yJ0_length_8abf5 cJ0_length_8abf5 1 (some .int) :: TB) { frames := 1, cells := 0, slots := 0, locals := 20 } (PC2 D T sq sv [.ref sq] [] sz) (Qi (S := Unit) (fun r _ => r = 105) (fun _ => []) D (va_A [] sz)) 0 0 (va_A [] sz) := by
  refine ct_begin2F (Qc := Qi (S := Unit) (fun r _ => r = 105) (fun _ => []) D) (by decide +kernel) (Nat.le_of_ble_eq_true rfl) ?_
  intro p e s m below meth c A ls C0 hr hlocks hnm hE hStr hA hP hD hl
  have hx := C0.1
  have hb := C0.2.1
  have hml := C0.2.2.1
  have hown := C0.2.2.2.1
  have hT := C0.2.2.2.2
  have hS : va_S A s.heap s.heap [] := va_S.rf
  have hl : lv_has ls 1 [(0, .ref sq)] := hl
  refine lv_aload_n hx hb dJ0_length_8abf5_0 rfl (lv_at hl 0 rfl) ?_
  refine vk_getf hx hb hStr.2.2.2.1 hS hown (hT _ mw_1257) (fun _ h => h) dJ0_length_8abf5_1 ?_
  refine va_tlen (v := 105) hx hb hStr.2.2.2.2.1 hS rfl dJ0_length_8abf5_4 ?_
  refine lv_aload_n hx hb dJ0_length_8abf5_5 rfl (lv_at hl 0 rfl) ?_
  refine r_calli (wr := []) (r_runO2 (As := []) (rest := [.int 105]) C0 hE hStr hS hA rfl (c_coder l D T sq sv s.heap.size) mw_313 mw_314 mw_315 mw_15 mw_316 dn_1812 rfl rfl ⟨Nat.le_of_ble_eq_true rfl, Nat.le_of_ble_eq_true rfl⟩ hl.1 rfl (Nat.le_of_ble_eq_true rfl) dJ0_length_8abf5_6 ⟨Nat.le_of_ble_eq_true rfl, Nat.le_of_ble_eq_true rfl⟩) P_nil (D_nil (A := A)) hS hA [] [] rfl rfl (by decide) (by decide) (fun r1 u H locs hq hP hD hS => ?_)
  have hq : r1 = 0 := hq
  subst hq
  refine W.widen (k := 0) (n := 0) (Nat.le_refl _) (Nat.le_refl _) ?_
  refine lv_ishr hx hb dJ0_length_8abf5_9 ?_
  exact r_iret () C0 hr hlocks hS (Nat.le_refl _) (Nat.le_refl _) dJ0_length_8abf5_10 (by decide +kernel) P_nil D_nil
set_option maxHeartbeats 4000000 in
set_option maxRecDepth 100000 in
theorem c_preN (l : Launch) (D : va_G) (T : Nat → ClassId) (sq sv sz : Nat) (i0 n0 : Int32) (h0 : ¬ i0 < 0) (h1 : i0 < n0) : Met l yJ3_checkIndex_8e157 (.code yJ3_checkIndex_8e157 cJ3_checkIndex_8e157 3 (some .int) :: TB) { frames := 0, cells := 0, slots := 0, locals := 0 } (PC2 D T sq sv [.int i0, .int n0, .null] [] sz) (Qi (S := Unit) (fun r _ => r = i0) (fun _ => []) D (va_A [] sz)) 0 0 (va_A [] sz) := by
  refine ct_begin2F (Qc := Qi (S := Unit) (fun r _ => r = i0) (fun _ => []) D) (by decide +kernel) (Nat.le_of_ble_eq_true rfl) ?_
  intro p e s m below meth c A ls C0 hr hlocks hnm hE hStr hA hP hD hl
  have hx := C0.1
  have hb := C0.2.1
  have hml := C0.2.2.1
  have hown := C0.2.2.2.1
  have hT := C0.2.2.2.2
  have hS : va_S A s.heap s.heap [] := va_S.rf
  have hl : lv_has ls 3 [(0, .int i0), (1, .int n0), (2, .null)] := hl
  refine lv_iload_n hx hb dJ3_checkIndex_8e157_0 rfl (lv_at hl 0 rfl) ?_
  refine lv_if_lt (tgt := 9) hx hb dJ3_checkIndex_8e157_1 (by decide) (fun hc => absurd hc h0) (fun _ => ?_)
  refine lv_iload_n hx hb dJ3_checkIndex_8e157_4 rfl (lv_at hl 0 rfl) ?_
  refine lv_iload_n hx hb dJ3_checkIndex_8e157_5 rfl (lv_at hl 1 rfl) ?_
  refine lv_icmp_lt (tgt := 16) hx hb dJ3_checkIndex_8e157_6 (by decide) (fun _ => ?_) (fun hc => absurd h1 hc)
  refine lv_iload_n hx hb dJ3_checkIndex_8e157_16 rfl (lv_at hl 0 rfl) ?_
  exact r_iret () C0 hr hlocks hS (Nat.le_refl _) (Nat.le_refl _) dJ3_checkIndex_8e157_17 rfl P_nil D_nil
set_option maxHeartbeats 4000000 in
set_option maxRecDepth 100000 in
theorem c_preR (l : Launch) (D : va_G) (T : Nat → ClassId) (sq sv sz : Nat) (fa : Nat) (i0 n0 : Int32) (h0 : ¬ i0 < 0) (h1 : i0 < n0) : Met l yJ3_checkIndex_8e157 (.code yJ3_checkIndex_8e157 cJ3_checkIndex_8e157 3 (some .int) :: TB) { frames := 0, cells := 0, slots := 0, locals := 0 } (PC2 D T sq sv [.int i0, .int n0, .ref fa] [] sz) (Qi (S := Unit) (fun r _ => r = i0) (fun _ => []) D (va_A [] sz)) 0 0 (va_A [] sz) := by
  refine ct_begin2F (Qc := Qi (S := Unit) (fun r _ => r = i0) (fun _ => []) D) (by decide +kernel) (Nat.le_of_ble_eq_true rfl) ?_
  intro p e s m below meth c A ls C0 hr hlocks hnm hE hStr hA hP hD hl
  have hx := C0.1
  have hb := C0.2.1
  have hml := C0.2.2.1
  have hown := C0.2.2.2.1
  have hT := C0.2.2.2.2
  have hS : va_S A s.heap s.heap [] := va_S.rf
  have hl : lv_has ls 3 [(0, .int i0), (1, .int n0), (2, .ref fa)] := hl
  refine lv_iload_n hx hb dJ3_checkIndex_8e157_0 rfl (lv_at hl 0 rfl) ?_
  refine lv_if_lt (tgt := 9) hx hb dJ3_checkIndex_8e157_1 (by decide) (fun hc => absurd hc h0) (fun _ => ?_)
  refine lv_iload_n hx hb dJ3_checkIndex_8e157_4 rfl (lv_at hl 0 rfl) ?_
  refine lv_iload_n hx hb dJ3_checkIndex_8e157_5 rfl (lv_at hl 1 rfl) ?_
  refine lv_icmp_lt (tgt := 16) hx hb dJ3_checkIndex_8e157_6 (by decide) (fun _ => ?_) (fun hc => absurd h1 hc)
  refine lv_iload_n hx hb dJ3_checkIndex_8e157_16 rfl (lv_at hl 0 rfl) ?_
  exact r_iret () C0 hr hlocks hS (Nat.le_refl _) (Nat.le_refl _) dJ3_checkIndex_8e157_17 rfl P_nil D_nil
set_option maxHeartbeats 4000000 in
set_option maxRecDepth 100000 in
theorem c_strCheck (l : Launch) (D : va_G) (T : Nat → ClassId) (sq sv sz : Nat) (i0 n0 : Int32) (h0 : ¬ i0 < 0) (h1 : i0 < n0) : Met l yJ0_checkIndex_df160 (.code yJ0_checkIndex_df160 cJ0_checkIndex_df160 2 none :: TB) { frames := 1, cells := 0, slots := 0, locals := 22 } (PC2 D T sq sv [.int i0, .int n0] [] sz) (Qv (S := Unit) (fun _ => []) D (va_A [] sz)) 0 0 (va_A [] sz) := by
  refine ct_begin2F (Qc := Qv (S := Unit) (fun _ => []) D) (by decide +kernel) (Nat.le_of_ble_eq_true rfl) ?_
  intro p e s m below meth c A ls C0 hr hlocks hnm hE hStr hA hP hD hl
  have hx := C0.1
  have hb := C0.2.1
  have hml := C0.2.2.1
  have hown := C0.2.2.2.1
  have hT := C0.2.2.2.2
  have hS : va_S A s.heap s.heap [] := va_S.rf
  have hl : lv_has ls 2 [(0, .int i0), (1, .int n0)] := hl
  refine lv_iload_n hx hb dJ0_checkIndex_df160_0 rfl (lv_at hl 0 rfl) ?_
  refine lv_iload_n hx hb dJ0_checkIndex_df160_1 rfl (lv_at hl 1 rfl) ?_
  rcases hStr.2.2.2.2.2.2 with hZ | ⟨fa, hZ⟩
  · refine va_gets hx hb hZ hS hown (hT _ mw_332) (fun _ h => h) dJ0_checkIndex_df160_2 ?_
    refine r_calli (wr := []) (r_runS2 (As := [.int i0, .int n0, .null]) (rest := []) (wc := []) C0 hE hStr hS (fun q h => by rcases h with ⟨k, e, h⟩ | h; (· simp at h); exact hA q (Nat.le_trans hS.1 h)) (c_preN l D T sq sv s.heap.size i0 n0 h0 h1) mw_333 mw_334 mw_17 mw_335 dn_1821 rfl rfl ⟨Nat.le_of_ble_eq_true rfl, Nat.le_of_ble_eq_true rfl⟩ P_nil (D_nil (A := A)) hl.1 rfl (Nat.le_of_ble_eq_true rfl) dJ0_checkIndex_df160_5 ⟨Nat.le_of_ble_eq_true rfl, Nat.le_of_ble_eq_true rfl⟩) P_nil (D_nil (A := A)) hS hA [] [] rfl rfl (by decide) (by decide) (fun r1 u H locs hq hP hD hS => ?_)
    refine W.widen (k := 0) (n := 0) (Nat.le_refl _) (Nat.le_refl _) ?_
    refine lv_pop hx hb dJ0_checkIndex_df160_8 rfl ?_
    exact r_vret () C0 hr hlocks hS (Nat.le_refl _) (Nat.le_refl _) dJ0_checkIndex_df160_9 P_nil D_nil
  · refine va_gets hx hb hZ hS hown (hT _ mw_332) (fun _ h => h) dJ0_checkIndex_df160_2 ?_
    refine r_calli (wr := []) (r_runS2 (As := [.int i0, .int n0, .ref fa]) (rest := []) (wc := []) C0 hE hStr hS (fun q h => by rcases h with ⟨k, e, h⟩ | h; (· simp at h); exact hA q (Nat.le_trans hS.1 h)) (c_preR l D T sq sv s.heap.size fa i0 n0 h0 h1) mw_333 mw_334 mw_17 mw_335 dn_1821 rfl rfl ⟨Nat.le_of_ble_eq_true rfl, Nat.le_of_ble_eq_true rfl⟩ P_nil (D_nil (A := A)) hl.1 rfl (Nat.le_of_ble_eq_true rfl) dJ0_checkIndex_df160_5 ⟨Nat.le_of_ble_eq_true rfl, Nat.le_of_ble_eq_true rfl⟩) P_nil (D_nil (A := A)) hS hA [] [] rfl rfl (by decide) (by decide) (fun r1 u H locs hq hP hD hS => ?_)
    refine W.widen (k := 0) (n := 0) (Nat.le_refl _) (Nat.le_refl _) ?_
    refine lv_pop hx hb dJ0_checkIndex_df160_8 rfl ?_
    exact r_vret () C0 hr hlocks hS (Nat.le_refl _) (Nat.le_refl _) dJ0_checkIndex_df160_9 P_nil D_nil
set_option maxHeartbeats 4000000 in
set_option maxRecDepth 100000 in
theorem c_latinAt (l : Launch) (D : va_G) (T : Nat → ClassId) (sq sv sz : Nat) (i0 : Int32) (hi : vp_in i0 105) : Met l yJ1_charAt_3b067 (.code yJ1_charAt_3b067 cJ1_charAt_3b067 2 (some .char) :: TB) { frames := 2, cells := 0, slots := 0, locals := 50 } (PC2 D T sq sv [.ref sv, .int i0] [] sz) (Qi (S := Unit) (fun r _ => 0 ≤ r.toInt ∧ r.toInt ≤ 255) (fun _ => []) D (va_A [] sz)) 0 0 (va_A [] sz) := by
  refine ct_begin2F (Qc := Qi (S := Unit) (fun r _ => 0 ≤ r.toInt ∧ r.toInt ≤ 255) (fun _ => []) D) (by decide +kernel) (Nat.le_of_ble_eq_true rfl) ?_
  intro p e s m below meth c A ls C0 hr hlocks hnm hE hStr hA hP hD hl
  have hx := C0.1
  have hb := C0.2.1
  have hml := C0.2.2.1
  have hown := C0.2.2.2.1
  have hT := C0.2.2.2.2
  have hS : va_S A s.heap s.heap [] := va_S.rf
  have hl : lv_has ls 2 [(0, .ref sv), (1, .int i0)] := hl
  have h0 : ¬ i0 < 0 := fun h => hi (Or.inl h)
  have h1 : i0 < 105 := Int32.lt_iff_toInt_lt.mpr (vp_in_iff.mp hi).2
  refine lv_iload_n hx hb dJ1_charAt_3b067_0 rfl (lv_at hl 1 rfl) ?_
  refine lv_aload_n hx hb dJ1_charAt_3b067_1 rfl (lv_at hl 0 rfl) ?_
  refine va_tlen (v := 105) hx hb hStr.2.2.2.2.1 hS rfl dJ1_charAt_3b067_2 ?_
  refine r_callv (wr := []) (r_runS2 (As := [.int i0, .int 105]) (rest := []) (wc := []) C0 hE hStr hS (fun q h => by rcases h with ⟨k, e, h⟩ | h; (· simp at h); exact hA q (Nat.le_trans hS.1 h)) (c_strCheck l D T sq sv s.heap.size i0 105 h0 h1) mw_329 mw_330 mw_15 mw_331 dn_1814 rfl rfl ⟨Nat.le_of_ble_eq_true rfl, Nat.le_of_ble_eq_true rfl⟩ P_nil (D_nil (A := A)) hl.1 rfl (Nat.le_of_ble_eq_true rfl) dJ1_charAt_3b067_3 ⟨Nat.le_of_ble_eq_true rfl, Nat.le_of_ble_eq_true rfl⟩) P_nil (D_nil (A := A)) hS hA [] [] rfl rfl (by decide) (by decide) (fun u H locs hP hD hS => ?_)
  refine W.widen (k := 0) (n := 0) (Nat.le_refl _) (Nat.le_refl _) ?_
  refine lv_aload_n hx hb dJ1_charAt_3b067_6 rfl (lv_at hl 0 rfl) ?_
  refine lv_iload_n hx hb dJ1_charAt_3b067_7 rfl (lv_at hl 1 rfl) ?_
  refine va_tb hx hb hStr.2.2.2.2.1 hS hi rfl dJ1_charAt_3b067_8 ?_
  refine lv_sipush (v := 255) hx hb dJ1_charAt_3b067_9 (by decide) ?_
  refine lv_iand hx hb dJ1_charAt_3b067_12 ?_
  refine lv_i2c hx hb dJ1_charAt_3b067_13 (sc_c2 _) ?_
  exact r_zret () C0 hr (sc_nar _) hlocks hS (Nat.le_refl _) (Nat.le_refl _) dJ1_charAt_3b067_14 (and_ti 255 8 (by decide) (by decide) (by decide) rfl) P_nil D_nil
set_option maxHeartbeats 4000000 in
set_option maxRecDepth 100000 in
theorem c_strCharAt (l : Launch) (D : va_G) (T : Nat → ClassId) (sq sv sz : Nat) (i0 : Int32) (hi : vp_in i0 105) : Met l yJ0_charAt_5068e (.code yJ0_charAt_5068e cJ0_charAt_5068e 2 (some .char) :: TB) { frames := 3, cells := 0, slots := 0, locals := 80 } (PC2 D T sq sv [.ref sq, .int i0] [] sz) (Qi (S := Unit) (fun r _ => 0 ≤ r.toInt ∧ r.toInt ≤ 255) (fun _ => []) D (va_A [] sz)) 0 0 (va_A [] sz) := by
  refine ct_begin2F (Qc := Qi (S := Unit) (fun r _ => 0 ≤ r.toInt ∧ r.toInt ≤ 255) (fun _ => []) D) (by decide +kernel) (Nat.le_of_ble_eq_true rfl) ?_
  intro p e s m below meth c A ls C0 hr hlocks hnm hE hStr hA hP hD hl
  have hx := C0.1
  have hb := C0.2.1
  have hml := C0.2.2.1
  have hown := C0.2.2.2.1
  have hT := C0.2.2.2.2
  have hS : va_S A s.heap s.heap [] := va_S.rf
  have hl : lv_has ls 2 [(0, .ref sq), (1, .int i0)] := hl
  refine lv_aload_n hx hb dJ0_charAt_5068e_0 rfl (lv_at hl 0 rfl) ?_
  refine r_calli (wr := []) (r_runO2 (As := []) (rest := []) C0 hE hStr hS hA rfl (c_isLatin1 l D T sq sv s.heap.size) mw_322 mw_323 mw_324 mw_15 mw_325 dn_1813 rfl rfl ⟨Nat.le_of_ble_eq_true rfl, Nat.le_of_ble_eq_true rfl⟩ hl.1 rfl (Nat.le_of_ble_eq_true rfl) dJ0_charAt_5068e_1 ⟨Nat.le_of_ble_eq_true rfl, Nat.le_of_ble_eq_true rfl⟩) P_nil (D_nil (A := A)) hS hA [] [] rfl rfl (by decide) (by decide) (fun r1 u H locs hq hP hD hS => ?_)
  have hq : r1 = 1 := hq
  subst hq
  refine W.widen (k := 0) (n := 0) (Nat.le_refl _) (Nat.le_refl _) ?_
  refine lv_if_eq (tgt := 16) hx hb dJ0_charAt_5068e_4 (by decide) (fun hc => absurd hc (by decide +kernel)) (fun _ => ?_)
  refine lv_aload_n hx hb dJ0_charAt_5068e_7 rfl (lv_at hl 0 rfl) ?_
  refine vk_getf hx hb hStr.2.2.2.1 hS hown (hT _ mw_1257) (fun _ h => h) dJ0_charAt_5068e_8 ?_
  refine lv_iload_n hx hb dJ0_charAt_5068e_11 rfl (lv_at hl 1 rfl) ?_
  refine r_calli (wr := []) (r_runS2 (As := [.ref sv, .int i0]) (rest := []) (wc := []) C0 hE hStr hS (fun q h => by rcases h with ⟨k, e, h⟩ | h; (· simp at h); exact hA q (Nat.le_trans hS.1 h)) (c_latinAt l D T sq sv H.size i0 hi) mw_326 mw_327 mw_16 mw_328 dn_1815 rfl rfl ⟨Nat.le_of_ble_eq_true rfl, Nat.le_of_ble_eq_true rfl⟩ P_nil (D_nil (A := A)) hl.1 rfl (Nat.le_of_ble_eq_true rfl) dJ0_charAt_5068e_12 ⟨Nat.le_of_ble_eq_true rfl, Nat.le_of_ble_eq_true rfl⟩) P_nil (D_nil (A := A)) hS hA [] [] rfl rfl (by decide) (by decide) (fun r2 u H locs hq hP hD hS => ?_)
  refine W.widen (k := 0) (n := 0) (Nat.le_refl _) (Nat.le_refl _) ?_
  exact r_zret () C0 hr (char_nar hq) hlocks hS (Nat.le_refl _) (Nat.le_refl _) dJ0_charAt_5068e_15 hq P_nil D_nil
