set_option maxHeartbeats 4000000 in
set_option maxRecDepth 100000 in
theorem c_ways_loop {p : Program} {l : Launch} {e : Env} {R : Room} {s : State} {m : MethodId} {args : Array Value} {below : List Frame} {meth : Method} {c : Code} {D : va_G} {A : Nat → Prop} {H : Heap} {locs : List Loc} {N K : Nat} (hN : N ≤ 50) (hKN : K ≤ N) (C0 : CallFix p m c cX10_ways 5 s args TB yX10_ways.cls) (hr : meth.sig.returnType = some .long) (hlocks : meth.locks = false) (hS : va_S A s.heap H locs) :
    ∀ (k j : Nat), j + k = K → ∀ (ls : Array Slot), lv_has ls 5 [(4, .int (nI (j + 1))), (2, .long (lN (ch (N - K + j) j))), (0, .int (nI N)), (1, .int (nI K))] → W p l e R s m args below meth c H locs 0 0 (MQ below (Ql (S := Unit) (fun r _ => r = lN (ch N K)) (fun _ => []) D A) args s 0 0 A) (F0 m 16 ls []) := by
  have hx := C0.1
  have hb := C0.2.1
  intro k
  induction k with
  | zero =>
    intro j hj ls hl
    have hj2 : j = K := by omega
    subst hj2
    refine lv_iload hx hb dX10_ways_16 (lv_at hl 0 rfl) ?_
    refine lv_iload_n hx hb dX10_ways_18 rfl (lv_at hl 3 rfl) ?_
    refine lv_icmp_gt (tgt := 42) hx hb dX10_ways_19 (by decide) (fun _ => ?_) (fun hc => absurd (nI_lt (by omega) (by omega)) hc)
    refine lv_lload_n hx hb dX10_ways_42 rfl (lv_at hl 1 rfl) ?_
    exact r_lret () C0 hr hlocks hS (Nat.le_refl _) (Nat.le_refl _) dX10_ways_43 (by rw [Nat.sub_add_cancel hKN]) P_nil D_nil
  | succ k ih =>
    intro j hj ls hl
    have hjK : j < K := by omega
    refine lv_iload hx hb dX10_ways_16 (lv_at hl 0 rfl) ?_
    refine lv_iload_n hx hb dX10_ways_18 rfl (lv_at hl 3 rfl) ?_
    refine lv_icmp_gt (tgt := 42) hx hb dX10_ways_19 (by decide) (fun hc => absurd hc (nI_nlt (by omega) (by omega))) (fun _ => ?_)
    refine lv_lload_n hx hb dX10_ways_22 rfl (lv_at hl 1 rfl) ?_
    refine lv_iload_n hx hb dX10_ways_23 rfl (lv_at hl 2 rfl) ?_
    refine lv_iload_n hx hb dX10_ways_24 rfl (lv_at hl 3 rfl) ?_
    refine lv_isub hx hb dX10_ways_25 ?_
    refine r_ci (v := nI (N - K)) (pk_sub hKN) ?_
    refine lv_iload hx hb dX10_ways_26 (lv_at hl 0 rfl) ?_
    refine lv_iadd hx hb dX10_ways_28 ?_
    refine r_ci (v := nI (N - K + (j + 1))) (nI_add _ _) ?_
    refine lv_i2l (v := lN (N - K + (j + 1))) hx hb dX10_ways_29 (nI_l (by omega)) ?_
    refine lv_lmul hx hb dX10_ways_30 ?_
    refine r_cl (v := lN (ch (N - K + j) j * (N - K + (j + 1)))) (lN_mul _ _) ?_
    refine lv_iload hx hb dX10_ways_31 (lv_at hl 0 rfl) ?_
    refine lv_i2l (v := lN (j + 1)) hx hb dX10_ways_33 (nI_l (by omega)) ?_
    refine lv_ldiv hx hb dX10_ways_34 (fun h => absurd ((pk_lEQ (b := 0) (by omega) (by decide)).mp h) (by omega)) ?_
    refine r_cl (v := lN (ch (N - K + (j + 1)) (j + 1))) (by have hb1 := ch_lt (n := N - K + j) (k := j) (by omega); have hb2 := Nat.mul_le_mul_left (ch (N - K + j) j) (show N - K + (j + 1) ≤ 51 by omega); rw [pk_lDiv (by omega) (by omega) (by omega)]; congr 1; have h := ch_step (N - K + j) j; have e1 : N - K + (j + 1) = N - K + j + 1 := (by omega); rw [e1, h]; exact Nat.mul_div_cancel _ (by omega)) ?_
    refine lv_lstore_n (lv' := [(2, .long (lN (ch (N - K + (j + 1)) (j + 1)))), (4, .int (nI (j + 1))), (0, .int (nI N)), (1, .int (nI K))]) hx hb dX10_ways_35 rfl hl (by decide) rfl (fun ls hl => ?_)
    refine lv_iinc (v := nI (j + 1 + 1)) (lv' := [(4, .int (nI (j + 1 + 1))), (2, .long (lN (ch (N - K + (j + 1)) (j + 1)))), (0, .int (nI N)), (1, .int (nI K))]) hx hb dX10_ways_36 hl (k := 1) rfl (by rw [nI_succ (j + 1)]; rfl) (by decide) rfl (fun ls hl => ?_)
    refine lv_goto (tgt := 16) hx hb dX10_ways_39 (by decide) ?_
    exact ih (j + 1) (by omega) ls hl
set_option maxHeartbeats 4000000 in
set_option maxRecDepth 100000 in
theorem c_ways (l : Launch) (D : va_G) (T : Nat → ClassId) (sz : Nat) (N K : Nat) (hN : N ≤ 50) (hK : K ≤ 50) : Met l yX10_ways (.code yX10_ways cX10_ways 5 (some .long) :: TB) { frames := 0, cells := 0, slots := 0, locals := 0 } (PC D T [.int (nI N), .int (nI K)] [] sz) (Ql (S := Unit) (fun r _ => r = lN (ch N K)) (fun _ => []) D (va_A [] sz)) 0 0 (va_A [] sz) := by
  refine ct_begin (Qc := Ql (S := Unit) (fun r _ => r = lN (ch N K)) (fun _ => []) D) (by decide +kernel) (Nat.le_of_ble_eq_true rfl) ?_
  intro p e s m below meth c A ls C0 hr hlocks hnm hE hA hP hD hS hl
  have hx := C0.1
  have hb := C0.2.1
  have hl : lv_has ls 5 [(0, .int (nI N)), (1, .int (nI K))] := hl
  refine lv_iload_n hx hb dX10_ways_0 rfl (lv_at hl 1 rfl) ?_
  refine lv_if_lt (tgt := 9) hx hb dX10_ways_1 (by decide) (fun hc => absurd hc (nI_pos (by omega))) (fun _ => ?_)
  refine lv_iload_n hx hb dX10_ways_4 rfl (lv_at hl 1 rfl) ?_
  refine lv_iload_n hx hb dX10_ways_5 rfl (lv_at hl 0 rfl) ?_
  refine lv_icmp_le (tgt := 11) hx hb dX10_ways_6 (by decide) (fun hc => ?_) (fun hc => ?_)
  · have hKN : K ≤ N := (nI_leI (by omega) (by omega)).mp hc
    refine lv_lconst (v := 1) hx hb dX10_ways_11 (by decide) ?_
    refine lv_lstore_n (lv' := [(2, .long 1), (0, .int (nI N)), (1, .int (nI K))]) hx hb dX10_ways_12 rfl hl (by decide) rfl (fun ls hl => ?_)
    refine lv_iconst (v := 1) hx hb dX10_ways_13 (by decide) ?_
    refine lv_istore (lv' := [(4, .int 1), (2, .long 1), (0, .int (nI N)), (1, .int (nI K))]) hx hb dX10_ways_14 hl (by decide) rfl (fun ls hl => ?_)
    exact c_ways_loop hN hKN C0 hr hlocks hS K 0 (by omega) ls (by rw [ch_0]; exact hl)
  · have hKN : ¬ K ≤ N := fun h => hc ((nI_leI (by omega) (by omega)).mpr h)
    refine lv_lconst (v := 0) hx hb dX10_ways_9 (by decide) ?_
    exact r_lret () C0 hr hlocks hS (Nat.le_refl _) (Nat.le_refl _) dX10_ways_10 (by rw [ch_big N K (by omega)]; rfl) P_nil D_nil
set_option maxHeartbeats 4000000 in
set_option maxRecDepth 100000 in
theorem c_over_loop {p : Program} {l : Launch} {e : Env} {R : Room} {s : State} {m : MethodId} {args : Array Value} {below : List Frame} {meth : Method} {c : Code} {D : va_G} {A : Nat → Prop} {H : Heap} {locs : List Loc} {N K : Nat} (hN : N ≤ 50) (hKN : K ≤ N) (C0 : CallFix p m c cX11_over 5 s args TB yX11_over.cls) (hr : meth.sig.returnType = some .long) (hlocks : meth.locks = false) (hS : va_S A s.heap H locs) :
    ∀ (k j : Nat), j + k = K → ∀ (ls : Array Slot), lv_has ls 5 [(4, .int (nI (j + 1))), (2, .long (lN (ch N j))), (0, .int (nI N)), (1, .int (nI K))] → W p l e R s m args below meth c H locs 0 0 (MQ below (Ql (S := Unit) (fun r _ => r = lN (ch N K)) (fun _ => []) D A) args s 0 0 A) (F0 m 16 ls []) := by
  have hx := C0.1
  have hb := C0.2.1
  intro k
  induction k with
  | zero =>
    intro j hj ls hl
    have hj2 : j = K := by omega
    subst hj2
    refine lv_iload hx hb dX11_over_16 (lv_at hl 0 rfl) ?_
    refine lv_iload_n hx hb dX11_over_18 rfl (lv_at hl 3 rfl) ?_
    refine lv_icmp_gt (tgt := 42) hx hb dX11_over_19 (by decide) (fun _ => ?_) (fun hc => absurd (nI_lt (by omega) (by omega)) hc)
    refine lv_lload_n hx hb dX11_over_42 rfl (lv_at hl 1 rfl) ?_
    exact r_lret () C0 hr hlocks hS (Nat.le_refl _) (Nat.le_refl _) dX11_over_43 (rfl) P_nil D_nil
  | succ k ih =>
    intro j hj ls hl
    have hjK : j < K := by omega
    refine lv_iload hx hb dX11_over_16 (lv_at hl 0 rfl) ?_
    refine lv_iload_n hx hb dX11_over_18 rfl (lv_at hl 3 rfl) ?_
    refine lv_icmp_gt (tgt := 42) hx hb dX11_over_19 (by decide) (fun hc => absurd hc (nI_nlt (by omega) (by omega))) (fun _ => ?_)
    refine lv_lload_n hx hb dX11_over_22 rfl (lv_at hl 1 rfl) ?_
    refine lv_iload_n hx hb dX11_over_23 rfl (lv_at hl 2 rfl) ?_
    refine lv_iconst (v := 1) hx hb dX11_over_24 (by decide) ?_
    refine lv_iadd hx hb dX11_over_25 ?_
    refine r_ci (v := nI (N + 1)) (nI_1 N) ?_
    refine lv_iload hx hb dX11_over_26 (lv_at hl 0 rfl) ?_
    refine lv_isub hx hb dX11_over_28 ?_
    refine r_ci (v := nI (N - j)) ((pk_sub (by omega)).trans (congrArg nI (by omega))) ?_
    refine lv_i2l (v := lN (N - j)) hx hb dX11_over_29 (nI_l (by omega)) ?_
    refine lv_lmul hx hb dX11_over_30 ?_
    refine r_cl (v := lN (ch N j * (N - j))) (lN_mul _ _) ?_
    refine lv_iload hx hb dX11_over_31 (lv_at hl 0 rfl) ?_
    refine lv_i2l (v := lN (j + 1)) hx hb dX11_over_33 (nI_l (by omega)) ?_
    refine lv_ldiv hx hb dX11_over_34 (fun h => absurd ((pk_lEQ (b := 0) (by omega) (by decide)).mp h) (by omega)) ?_
    refine r_cl (v := lN (ch N (j + 1))) (by have hb1 := ch_lt (n := N) (k := j) hN; have hb2 := Nat.mul_le_mul_left (ch N j) (show N - j ≤ 51 by omega); rw [pk_lDiv (by omega) (by omega) (by omega)]; congr 1; rw [← ch_step2 N j (by omega)]; exact Nat.mul_div_cancel _ (by omega)) ?_
    refine lv_lstore_n (lv' := [(2, .long (lN (ch N (j + 1)))), (4, .int (nI (j + 1))), (0, .int (nI N)), (1, .int (nI K))]) hx hb dX11_over_35 rfl hl (by decide) rfl (fun ls hl => ?_)
    refine lv_iinc (v := nI (j + 1 + 1)) (lv' := [(4, .int (nI (j + 1 + 1))), (2, .long (lN (ch N (j + 1)))), (0, .int (nI N)), (1, .int (nI K))]) hx hb dX11_over_36 hl (k := 1) rfl (by rw [nI_succ (j + 1)]; rfl) (by decide) rfl (fun ls hl => ?_)
    refine lv_goto (tgt := 16) hx hb dX11_over_39 (by decide) ?_
    exact ih (j + 1) (by omega) ls hl
set_option maxHeartbeats 4000000 in
set_option maxRecDepth 100000 in
theorem c_over (l : Launch) (D : va_G) (T : Nat → ClassId) (sz : Nat) (N K : Nat) (hN : N ≤ 50) (hK : K ≤ 50) : Met l yX11_over (.code yX11_over cX11_over 5 (some .long) :: TB) { frames := 0, cells := 0, slots := 0, locals := 0 } (PC D T [.int (nI N), .int (nI K)] [] sz) (Ql (S := Unit) (fun r _ => r = lN (ch N K)) (fun _ => []) D (va_A [] sz)) 0 0 (va_A [] sz) := by
  refine ct_begin (Qc := Ql (S := Unit) (fun r _ => r = lN (ch N K)) (fun _ => []) D) (by decide +kernel) (Nat.le_of_ble_eq_true rfl) ?_
  intro p e s m below meth c A ls C0 hr hlocks hnm hE hA hP hD hS hl
  have hx := C0.1
  have hb := C0.2.1
  have hl : lv_has ls 5 [(0, .int (nI N)), (1, .int (nI K))] := hl
  refine lv_iload_n hx hb dX11_over_0 rfl (lv_at hl 1 rfl) ?_
  refine lv_if_lt (tgt := 9) hx hb dX11_over_1 (by decide) (fun hc => absurd hc (nI_pos (by omega))) (fun _ => ?_)
  refine lv_iload_n hx hb dX11_over_4 rfl (lv_at hl 1 rfl) ?_
  refine lv_iload_n hx hb dX11_over_5 rfl (lv_at hl 0 rfl) ?_
  refine lv_icmp_le (tgt := 11) hx hb dX11_over_6 (by decide) (fun hc => ?_) (fun hc => ?_)
  · have hKN : K ≤ N := (nI_leI (by omega) (by omega)).mp hc
    refine lv_lconst (v := 1) hx hb dX11_over_11 (by decide) ?_
    refine lv_lstore_n (lv' := [(2, .long 1), (0, .int (nI N)), (1, .int (nI K))]) hx hb dX11_over_12 rfl hl (by decide) rfl (fun ls hl => ?_)
    refine lv_iconst (v := 1) hx hb dX11_over_13 (by decide) ?_
    refine lv_istore (lv' := [(4, .int 1), (2, .long 1), (0, .int (nI N)), (1, .int (nI K))]) hx hb dX11_over_14 hl (by decide) rfl (fun ls hl => ?_)
    exact c_over_loop hN hKN C0 hr hlocks hS K 0 (by omega) ls (by rw [ch_0]; exact hl)
  · have hKN : ¬ K ≤ N := fun h => hc ((nI_leI (by omega) (by omega)).mpr h)
    refine lv_lconst (v := 0) hx hb dX11_over_9 (by decide) ?_
    exact r_lret () C0 hr hlocks hS (Nat.le_refl _) (Nat.le_refl _) dX11_over_10 (by rw [ch_big N K (by omega)]; rfl) P_nil D_nil
set_option maxHeartbeats 4000000 in
set_option maxRecDepth 100000 in
theorem waysFrom_loop {p : Program} {l : Launch} {e : Env} {R : Room} {s : State} {m : MethodId} {args : Array Value} {below : List Frame} {meth : Method} {c : Code} {D : va_G} {T : Nat → ClassId} {A : Nat → Prop} {Na Nb Nn Nk : Nat} {V : Int64} (hNa : Na ≤ 50) (hNb : Nb ≤ Na) (hNn : Nn ≤ Na) (hNk : Nk ≤ Nn + 1) (hRf : 1 ≤ R.frames) (hRl : 24 ≤ R.locals) (C0 : CallFix p m c cX11_waysFrom 7 s args TB yX11_waysFrom.cls) (hE : EV D T s) (hA : ∀ q, s.heap.size ≤ q → A q) (hr : meth.sig.returnType = some .long) (hlocks : meth.locks = false) (hV : lN (sms Nb (Na - Nb) Nn Nk (Nn + 1 - Nk)) = V) :
    ∀ (k m' : Nat), Nk + m' + k = Nn + 1 → ∀ (H : Heap) (locs : List Loc) (ls : Array Slot), va_S A s.heap H locs → lv_has ls 7 [(6, .int (nI (Nk + m'))), (4, .long (lN (sms Nb (Na - Nb) Nn Nk m'))), (0, .int (nI Na)), (1, .int (nI Nb)), (2, .int (nI Nn))] → W p l e R s m args below meth c H locs 0 0 (MQ below (Ql (S := Unit) (fun r _ => r = V) (fun _ => []) D A) args s 0 0 A) (F0 m 6 ls []) := by
  have hx := C0.1
  have hb := C0.2.1
  have hown := C0.2.2.2.1
  have hT := C0.2.2.2.2
  intro k
  induction k with
  | zero =>
    intro m hm H locs ls hS hl
    refine lv_iload hx hb dX11_waysFrom_6 (lv_at hl 0 rfl) ?_
    refine lv_iload_n hx hb dX11_waysFrom_8 rfl (lv_at hl 4 rfl) ?_
    refine lv_icmp_gt (tgt := 40) hx hb dX11_waysFrom_9 (by decide) (fun _ => ?_) (fun hc => absurd (nI_lt (by omega) (by omega)) hc)
    refine lv_lload hx hb dX11_waysFrom_40 (lv_at hl 1 rfl) ?_
    exact r_lret () C0 hr hlocks hS (Nat.le_refl _) (Nat.le_refl _) dX11_waysFrom_42 (by rw [← hV]; congr 2; omega) P_nil D_nil
  | succ k ih =>
    intro m hm H locs ls hS hl
    refine lv_iload hx hb dX11_waysFrom_6 (lv_at hl 0 rfl) ?_
    refine lv_iload_n hx hb dX11_waysFrom_8 rfl (lv_at hl 4 rfl) ?_
    refine lv_icmp_gt (tgt := 40) hx hb dX11_waysFrom_9 (by decide) (fun hc => absurd hc (nI_nlt (by omega) (by omega))) (fun _ => ?_)
    refine lv_lload hx hb dX11_waysFrom_12 (lv_at hl 1 rfl) ?_
    refine lv_iload_n hx hb dX11_waysFrom_14 rfl (lv_at hl 3 rfl) ?_
    refine lv_iload hx hb dX11_waysFrom_15 (lv_at hl 0 rfl) ?_
    refine r_calll (wr := []) (r_runS (As := [.int (nI Nb), .int (nI (Nk + m))]) (rest := [.long (lN (sms Nb (Na - Nb) Nn Nk m))]) (wc := []) C0 hE (c_over l D T H.size Nb (Nk + m) (by omega) (by omega)) mw_1245 mw_1246 mw_14 mw_1247 dn_1799 rfl rfl ⟨hRf, hRl⟩ P_nil (D_nil (A := A)) hl.1 rfl (Nat.le_of_ble_eq_true rfl) dX11_waysFrom_17 ⟨Nat.zero_le _, Nat.zero_le _⟩) P_nil (D_nil (A := A)) hS hA [] [] rfl rfl (by decide) (by decide) (fun r1 u H locs hq hP hD hS => ?_)
    have hq : r1 = lN (ch Nb (Nk + m)) := hq
    subst hq
    refine W.widen (k := 0) (n := 0) (Nat.le_refl _) (Nat.le_refl _) ?_
    refine lv_iload_n hx hb dX11_waysFrom_20 rfl (lv_at hl 2 rfl) ?_
    refine lv_iload_n hx hb dX11_waysFrom_21 rfl (lv_at hl 3 rfl) ?_
    refine lv_isub hx hb dX11_waysFrom_22 ?_
    refine r_ci (v := nI (Na - Nb)) (pk_sub hNb) ?_
    refine lv_iload_n hx hb dX11_waysFrom_23 rfl (lv_at hl 4 rfl) ?_
    refine lv_iload hx hb dX11_waysFrom_24 (lv_at hl 0 rfl) ?_
    refine lv_isub hx hb dX11_waysFrom_26 ?_
    refine r_ci (v := nI (Nn - (Nk + m))) (pk_sub (by omega)) ?_
    refine r_calll (wr := []) (r_runS (As := [.int (nI (Na - Nb)), .int (nI (Nn - (Nk + m)))]) (rest := [.long (lN (ch Nb (Nk + m))), .long (lN (sms Nb (Na - Nb) Nn Nk m))]) (wc := []) C0 hE (c_over l D T H.size (Na - Nb) (Nn - (Nk + m)) (by omega) (by omega)) mw_1245 mw_1246 mw_14 mw_1247 dn_1799 rfl rfl ⟨hRf, hRl⟩ P_nil (D_nil (A := A)) hl.1 rfl (Nat.le_of_ble_eq_true rfl) dX11_waysFrom_27 ⟨Nat.zero_le _, Nat.zero_le _⟩) P_nil (D_nil (A := A)) hS hA [] [] rfl rfl (by decide) (by decide) (fun r2 u H locs hq hP hD hS => ?_)
    have hq : r2 = lN (ch (Na - Nb) (Nn - (Nk + m))) := hq
    subst hq
    refine W.widen (k := 0) (n := 0) (Nat.le_refl _) (Nat.le_refl _) ?_
    refine lv_lmul hx hb dX11_waysFrom_30 ?_
    refine r_cl (v := lN (ch Nb (Nk + m) * ch (Na - Nb) (Nn - (Nk + m)))) (lN_mul _ _) ?_
    refine lv_ladd hx hb dX11_waysFrom_31 ?_
    refine r_cl (v := lN (sms Nb (Na - Nb) Nn Nk (m + 1))) (lN_add _ _) ?_
    refine lv_lstore (lv' := [(4, .long (lN (sms Nb (Na - Nb) Nn Nk (m + 1)))), (6, .int (nI (Nk + m))), (0, .int (nI Na)), (1, .int (nI Nb)), (2, .int (nI Nn))]) hx hb dX11_waysFrom_32 hl (by decide) rfl (fun ls hl => ?_)
    refine lv_iinc (v := nI (Nk + (m + 1))) (lv' := [(6, .int (nI (Nk + (m + 1)))), (4, .long (lN (sms Nb (Na - Nb) Nn Nk (m + 1)))), (0, .int (nI Na)), (1, .int (nI Nb)), (2, .int (nI Nn))]) hx hb dX11_waysFrom_34 hl (k := 1) rfl (by rw [← Nat.add_assoc, nI_succ]; rfl) (by decide) rfl (fun ls hl => ?_)
    refine lv_goto (tgt := 6) hx hb dX11_waysFrom_37 (by decide) ?_
    exact ih (m + 1) (by omega) H locs ls hS hl
set_option maxHeartbeats 4000000 in
set_option maxRecDepth 100000 in
theorem c_waysFrom (l : Launch) (D : va_G) (T : Nat → ClassId) (sz : Nat) (Na Nb Nn Nk : Nat) (hNa : Na ≤ 50) (hNb : Nb ≤ Na) (hNn : Nn ≤ Na) (hNk : Nk ≤ Nn + 1) : Met l yX11_waysFrom (.code yX11_waysFrom cX11_waysFrom 7 (some .long) :: TB) { frames := 1, cells := 0, slots := 0, locals := 24 } (PC D T [.int (nI Na), .int (nI Nb), .int (nI Nn), .int (nI Nk)] [] sz) (Ql (S := Unit) (fun r _ => r = lN (sms Nb (Na - Nb) Nn Nk (Nn + 1 - Nk))) (fun _ => []) D (va_A [] sz)) 0 0 (va_A [] sz) := by
  refine ct_begin (Qc := Ql (S := Unit) (fun r _ => r = lN (sms Nb (Na - Nb) Nn Nk (Nn + 1 - Nk))) (fun _ => []) D) (by decide +kernel) (Nat.le_of_ble_eq_true rfl) ?_
  intro p e s m below meth c A ls C0 hr hlocks hnm hE hA hP hD hS hl
  have hx := C0.1
  have hb := C0.2.1
  have hown := C0.2.2.2.1
  have hT := C0.2.2.2.2
  have hl : lv_has ls 7 [(0, .int (nI Na)), (1, .int (nI Nb)), (2, .int (nI Nn)), (3, .int (nI Nk))] := hl
  refine lv_lconst (v := 0) hx hb dX11_waysFrom_0 (by decide) ?_
  refine lv_lstore (lv' := [(4, .long 0), (0, .int (nI Na)), (1, .int (nI Nb)), (2, .int (nI Nn)), (3, .int (nI Nk))]) hx hb dX11_waysFrom_1 hl (by decide) rfl (fun ls hl => ?_)
  refine lv_iload_n hx hb dX11_waysFrom_3 rfl (lv_at hl 4 rfl) ?_
  refine lv_istore (lv' := [(6, .int (nI Nk)), (4, .long 0), (0, .int (nI Na)), (1, .int (nI Nb)), (2, .int (nI Nn)), (3, .int (nI Nk))]) hx hb dX11_waysFrom_4 hl (by decide) rfl (fun ls hl => ?_)
  exact waysFrom_loop hNa hNb hNn hNk (Nat.le_of_ble_eq_true rfl) (Nat.le_of_ble_eq_true rfl) C0 hE hA hr hlocks rfl (Nn + 1 - Nk) 0 (by omega) _ _ ls hS (lv_sub hl [0, 1, 2, 3, 4] rfl)
set_option maxHeartbeats 4000000 in
set_option maxRecDepth 100000 in
theorem found10_loop {p : Program} {l : Launch} {e : Env} {R : Room} {s : State} {m : MethodId} {args : Array Value} {below : List Frame} {meth : Method} {c : Code} {D : va_G} {T : Nat → ClassId} {A : Nat → Prop} {Na Nb Nn Nk : Nat} {V : Int64} (hNa : Na ≤ 50) (hNb : Nb ≤ Na) (hNn : Nn ≤ Na) (hNk : Nk ≤ Nn + 1) (hRf : 1 ≤ R.frames) (hRl : 24 ≤ R.locals) (C0 : CallFix p m c cX10_found 9 s args TB yX10_found.cls) (hE : EV D T s) (hA : ∀ q, s.heap.size ≤ q → A q) (hr : meth.sig.returnType = some .long) (hlocks : meth.locks = false) (hV : lN (sms Nb (Na - Nb) Nn Nk (Nn + 1 - Nk)) = V) :
    ∀ (k m' : Nat), Nk + m' + k = Nn + 1 → ∀ (H : Heap) (locs : List Loc) (ls : Array Slot), va_S A s.heap H locs → lv_has ls 9 [(8, .int (nI (Nk + m'))), (6, .long (lN (sms Nb (Na - Nb) Nn Nk m'))), (1, .int (nI Na)), (2, .int (nI Nb)), (3, .int (nI Nn))] → W p l e R s m args below meth c H locs 0 0 (MQ below (Ql (S := Unit) (fun r _ => r = V) (fun _ => []) D A) args s 0 0 A) (F0 m 49 ls []) := by
  have hx := C0.1
  have hb := C0.2.1
  have hown := C0.2.2.2.1
  have hT := C0.2.2.2.2
  intro k
  induction k with
  | zero =>
    intro m hm H locs ls hS hl
    refine lv_iload hx hb dX10_found_49 (lv_at hl 0 rfl) ?_
    refine lv_iload_n hx hb dX10_found_51 rfl (lv_at hl 4 rfl) ?_
    refine lv_icmp_gt (tgt := 83) hx hb dX10_found_52 (by decide) (fun _ => ?_) (fun hc => absurd (nI_lt (by omega) (by omega)) hc)
    refine lv_lload hx hb dX10_found_83 (lv_at hl 1 rfl) ?_
    exact r_lret () C0 hr hlocks hS (Nat.le_refl _) (Nat.le_refl _) dX10_found_85 (by rw [← hV]; congr 2; omega) P_nil D_nil
  | succ k ih =>
    intro m hm H locs ls hS hl
    refine lv_iload hx hb dX10_found_49 (lv_at hl 0 rfl) ?_
    refine lv_iload_n hx hb dX10_found_51 rfl (lv_at hl 4 rfl) ?_
    refine lv_icmp_gt (tgt := 83) hx hb dX10_found_52 (by decide) (fun hc => absurd hc (nI_nlt (by omega) (by omega))) (fun _ => ?_)
    refine lv_lload hx hb dX10_found_55 (lv_at hl 1 rfl) ?_
    refine lv_iload_n hx hb dX10_found_57 rfl (lv_at hl 3 rfl) ?_
    refine lv_iload hx hb dX10_found_58 (lv_at hl 0 rfl) ?_
    refine r_calll (wr := []) (r_runS (As := [.int (nI Nb), .int (nI (Nk + m))]) (rest := [.long (lN (sms Nb (Na - Nb) Nn Nk m))]) (wc := []) C0 hE (c_ways l D T H.size Nb (Nk + m) (by omega) (by omega)) mw_768 mw_769 mw_1 mw_770 dn_1702 rfl rfl ⟨hRf, hRl⟩ P_nil (D_nil (A := A)) hl.1 rfl (Nat.le_of_ble_eq_true rfl) dX10_found_60 ⟨Nat.zero_le _, Nat.zero_le _⟩) P_nil (D_nil (A := A)) hS hA [] [] rfl rfl (by decide) (by decide) (fun r1 u H locs hq hP hD hS => ?_)
    have hq : r1 = lN (ch Nb (Nk + m)) := hq
    subst hq
    refine W.widen (k := 0) (n := 0) (Nat.le_refl _) (Nat.le_refl _) ?_
    refine lv_iload_n hx hb dX10_found_63 rfl (lv_at hl 2 rfl) ?_
    refine lv_iload_n hx hb dX10_found_64 rfl (lv_at hl 3 rfl) ?_
    refine lv_isub hx hb dX10_found_65 ?_
    refine r_ci (v := nI (Na - Nb)) (pk_sub hNb) ?_
    refine lv_iload_n hx hb dX10_found_66 rfl (lv_at hl 4 rfl) ?_
    refine lv_iload hx hb dX10_found_67 (lv_at hl 0 rfl) ?_
    refine lv_isub hx hb dX10_found_69 ?_
    refine r_ci (v := nI (Nn - (Nk + m))) (pk_sub (by omega)) ?_
    refine r_calll (wr := []) (r_runS (As := [.int (nI (Na - Nb)), .int (nI (Nn - (Nk + m)))]) (rest := [.long (lN (ch Nb (Nk + m))), .long (lN (sms Nb (Na - Nb) Nn Nk m))]) (wc := []) C0 hE (c_ways l D T H.size (Na - Nb) (Nn - (Nk + m)) (by omega) (by omega)) mw_768 mw_769 mw_1 mw_770 dn_1702 rfl rfl ⟨hRf, hRl⟩ P_nil (D_nil (A := A)) hl.1 rfl (Nat.le_of_ble_eq_true rfl) dX10_found_70 ⟨Nat.zero_le _, Nat.zero_le _⟩) P_nil (D_nil (A := A)) hS hA [] [] rfl rfl (by decide) (by decide) (fun r2 u H locs hq hP hD hS => ?_)
    have hq : r2 = lN (ch (Na - Nb) (Nn - (Nk + m))) := hq
    subst hq
    refine W.widen (k := 0) (n := 0) (Nat.le_refl _) (Nat.le_refl _) ?_
    refine lv_lmul hx hb dX10_found_73 ?_
    refine r_cl (v := lN (ch Nb (Nk + m) * ch (Na - Nb) (Nn - (Nk + m)))) (lN_mul _ _) ?_
    refine lv_ladd hx hb dX10_found_74 ?_
    refine r_cl (v := lN (sms Nb (Na - Nb) Nn Nk (m + 1))) (lN_add _ _) ?_
    refine lv_lstore (lv' := [(6, .long (lN (sms Nb (Na - Nb) Nn Nk (m + 1)))), (8, .int (nI (Nk + m))), (1, .int (nI Na)), (2, .int (nI Nb)), (3, .int (nI Nn))]) hx hb dX10_found_75 hl (by decide) rfl (fun ls hl => ?_)
    refine lv_iinc (v := nI (Nk + (m + 1))) (lv' := [(8, .int (nI (Nk + (m + 1)))), (6, .long (lN (sms Nb (Na - Nb) Nn Nk (m + 1)))), (1, .int (nI Na)), (2, .int (nI Nb)), (3, .int (nI Nn))]) hx hb dX10_found_77 hl (k := 1) rfl (by rw [← Nat.add_assoc, nI_succ]; rfl) (by decide) rfl (fun ls hl => ?_)
    refine lv_goto (tgt := 49) hx hb dX10_found_80 (by decide) ?_
    exact ih (m + 1) (by omega) H locs ls hS hl
set_option maxHeartbeats 4000000 in
set_option maxRecDepth 100000 in
theorem found10_tail {p : Program} {l : Launch} {e : Env} {R : Room} {s : State} {m : MethodId} {args : Array Value} {below : List Frame} {meth : Method} {c : Code} {D : va_G} {T : Nat → ClassId} {A : Nat → Prop} {H : Heap} {locs : List Loc} {Na Nb Nn Nk h0 : Nat} {ab : Int32} {V : Int64} {ls : Array Slot} (hNa : Na ≤ 50) (hNb : Nb ≤ Na) (hNn : Nn ≤ Na) (hNk : Nk ≤ Nn) (hRf : 1 ≤ R.frames) (hRl : 24 ≤ R.locals) (C0 : CallFix p m c cX10_found 9 s args TB yX10_found.cls) (hE : EV D T s) (hA : ∀ q, s.heap.size ≤ q → A q) (hr : meth.sig.returnType = some .long) (hlocks : meth.locks = false) (hV : (if ab = 0 then lN (ch Na Nn) else lN (sms Nb (Na - Nb) Nn Nk (Nn + 1 - Nk))) = V) (hS : va_S A s.heap H locs) (hl : lv_has ls 9 [(0, .ref h0), (1, .int (nI Na)), (2, .int (nI Nb)), (3, .int (nI Nn)), (4, .int (nI Nk)), (5, .int ab)]) : W p l e R s m args below meth c H locs 0 0 (MQ below (Ql (S := Unit) (fun r _ => r = V) (fun _ => []) D A) args s 0 0 A) (F0 m 31 ls []) := by
  have hx := C0.1
  have hb := C0.2.1
  have hown := C0.2.2.2.1
  have hT := C0.2.2.2.2
  refine lv_iload hx hb dX10_found_31 (lv_at hl 5 rfl) ?_
  refine lv_if_ne (tgt := 42) hx hb dX10_found_33 (by decide) (fun hc => ?_) (fun hc => ?_)
  · rw [if_neg hc] at hV
    refine lv_lconst (v := 0) hx hb dX10_found_42 (by decide) ?_
    refine lv_lstore (lv' := [(6, .long 0), (0, .ref h0), (1, .int (nI Na)), (2, .int (nI Nb)), (3, .int (nI Nn)), (4, .int (nI Nk)), (5, .int ab)]) hx hb dX10_found_43 hl (by decide) rfl (fun ls hl => ?_)
    refine lv_iload hx hb dX10_found_45 (lv_at hl 5 rfl) ?_
    refine lv_istore (lv' := [(8, .int (nI Nk)), (6, .long 0), (0, .ref h0), (1, .int (nI Na)), (2, .int (nI Nb)), (3, .int (nI Nn)), (4, .int (nI Nk)), (5, .int ab)]) hx hb dX10_found_47 hl (by decide) rfl (fun ls hl => ?_)
    exact found10_loop hNa hNb hNn (by omega) hRf hRl C0 hE hA hr hlocks hV (Nn + 1 - Nk) 0 (by omega) _ _ ls hS (lv_sub hl [0, 1, 3, 4, 5] rfl)
  · rw [if_pos hc] at hV
    refine lv_iload_n hx hb dX10_found_36 rfl (lv_at hl 1 rfl) ?_
    refine lv_iload_n hx hb dX10_found_37 rfl (lv_at hl 3 rfl) ?_
    refine r_calll (wr := []) (r_runS (As := [.int (nI Na), .int (nI Nn)]) (rest := []) (wc := []) C0 hE (c_ways l D T H.size Na Nn (by omega) (by omega)) mw_768 mw_769 mw_1 mw_770 dn_1702 rfl rfl ⟨hRf, hRl⟩ P_nil (D_nil (A := A)) hl.1 rfl (Nat.le_of_ble_eq_true rfl) dX10_found_38 ⟨Nat.zero_le _, Nat.zero_le _⟩) P_nil (D_nil (A := A)) hS hA [] [] rfl rfl (by decide) (by decide) (fun r1 u H locs hq hP hD hS => ?_)
    have hq : r1 = lN (ch Na Nn) := hq
    subst hq
    refine W.widen (k := 0) (n := 0) (Nat.le_refl _) (Nat.le_refl _) ?_
    exact r_lret () C0 hr hlocks hS (Nat.le_refl _) (Nat.le_refl _) dX10_found_41 hV P_nil D_nil
set_option maxHeartbeats 4000000 in
set_option maxRecDepth 100000 in
theorem found11_tail {p : Program} {l : Launch} {e : Env} {R : Room} {s : State} {m : MethodId} {args : Array Value} {below : List Frame} {meth : Method} {c : Code} {D : va_G} {T : Nat → ClassId} {A : Nat → Prop} {H : Heap} {locs : List Loc} {Na Nb Nn Nk h0 : Nat} {ab : Int32} {V : Int64} {ls : Array Slot} (hNa : Na ≤ 50) (hNb : Nb ≤ Na) (hNn : Nn ≤ Na) (hNk : Nk ≤ Nn) (hRf : 2 ≤ R.frames) (hRl : 50 ≤ R.locals) (C0 : CallFix p m c cX11_found 6 s args TB yX11_found.cls) (hE : EV D T s) (hA : ∀ q, s.heap.size ≤ q → A q) (hr : meth.sig.returnType = some .long) (hlocks : meth.locks = false) (hV : (if ab = 0 then lN (ch Na Nn) else lN (sms Nb (Na - Nb) Nn Nk (Nn + 1 - Nk))) = V) (hS : va_S A s.heap H locs) (hl : lv_has ls 6 [(0, .ref h0), (1, .int (nI Na)), (2, .int (nI Nb)), (3, .int (nI Nn)), (4, .int (nI Nk)), (5, .int ab)]) : W p l e R s m args below meth c H locs 0 0 (MQ below (Ql (S := Unit) (fun r _ => r = V) (fun _ => []) D A) args s 0 0 A) (F0 m 50 ls []) := by
  have hx := C0.1
  have hb := C0.2.1
  have hown := C0.2.2.2.1
  have hT := C0.2.2.2.2
  refine lv_iload hx hb dX11_found_50 (lv_at hl 5 rfl) ?_
  refine lv_if_eq (tgt := 66) hx hb dX11_found_52 (by decide) (fun hc => ?_) (fun hc => ?_)
  · rw [if_pos hc] at hV
    refine lv_iload_n hx hb dX11_found_66 rfl (lv_at hl 1 rfl) ?_
    refine lv_iload_n hx hb dX11_found_67 rfl (lv_at hl 3 rfl) ?_
    refine r_calll (wr := []) (r_runS (As := [.int (nI Na), .int (nI Nn)]) (rest := []) (wc := []) C0 hE (c_over l D T H.size Na Nn (by omega) (by omega)) mw_1245 mw_1246 mw_14 mw_1247 dn_1799 rfl rfl ⟨(Nat.le_trans (by decide) hRf), (Nat.le_trans (by decide) hRl)⟩ P_nil (D_nil (A := A)) hl.1 rfl (Nat.le_of_ble_eq_true rfl) dX11_found_68 ⟨Nat.zero_le _, Nat.zero_le _⟩) P_nil (D_nil (A := A)) hS hA [] [] rfl rfl (by decide) (by decide) (fun r1 u H locs hq hP hD hS => ?_)
    have hq : r1 = lN (ch Na Nn) := hq
    subst hq
    refine W.widen (k := 0) (n := 0) (Nat.le_refl _) (Nat.le_refl _) ?_
    exact r_lret () C0 hr hlocks hS (Nat.le_refl _) (Nat.le_refl _) dX11_found_71 hV P_nil D_nil
  · rw [if_neg hc] at hV
    refine lv_iload_n hx hb dX11_found_55 rfl (lv_at hl 1 rfl) ?_
    refine lv_iload_n hx hb dX11_found_56 rfl (lv_at hl 2 rfl) ?_
    refine lv_iload_n hx hb dX11_found_57 rfl (lv_at hl 3 rfl) ?_
    refine lv_iload hx hb dX11_found_58 (lv_at hl 4 rfl) ?_
    refine r_calll (wr := []) (r_runS (As := [.int (nI Na), .int (nI Nb), .int (nI Nn), .int (nI Nk)]) (rest := []) (wc := []) C0 hE (c_waysFrom l D T H.size Na Nb Nn Nk hNa hNb hNn (by omega)) mw_1242 mw_1243 mw_14 mw_1244 dn_1800 rfl rfl ⟨hRf, hRl⟩ P_nil (D_nil (A := A)) hl.1 rfl (Nat.le_of_ble_eq_true rfl) dX11_found_60 ⟨Nat.zero_le _, Nat.zero_le _⟩) P_nil (D_nil (A := A)) hS hA [] [] rfl rfl (by decide) (by decide) (fun r1 u H locs hq hP hD hS => ?_)
    have hq : r1 = lN (sms Nb (Na - Nb) Nn Nk (Nn + 1 - Nk)) := hq
    subst hq
    refine W.widen (k := 0) (n := 0) (Nat.le_refl _) (Nat.le_refl _) ?_
    refine lv_goto (tgt := 71) hx hb dX11_found_63 (by decide) ?_
    exact r_lret () C0 hr hlocks hS (Nat.le_refl _) (Nat.le_refl _) dX11_found_71 hV P_nil D_nil
def tc (A B : Nat) (p : Int32) (n : Nat) : Bool := decide (lg_cmp (lN (ch A n - ch (A - B) n) * 1000) (lN (ch A n) * p.toInt64) < 0)
def ts (A B : Nat) (p : Int32) : Nat → Nat → Int32
  | 0, _ => -1
  | m + 1, n => if tc A B p n = true then ts A B p m (n + 1) else nI n
set_option maxHeartbeats 4000000 in
set_option maxRecDepth 100000 in
theorem tests10_loop {p : Program} {l : Launch} {e : Env} {R : Room} {s : State} {m : MethodId} {args : Array Value} {below : List Frame} {meth : Method} {c : Code} {D : va_G} {T : Nat → ClassId} {A : Nat → Prop} {Na Nb : Nat} {p0 : Int32} {V : Int32} (hNa : Na ≤ 50) (hNb : Nb ≤ Na) (hRf : 1 ≤ R.frames) (hRl : 24 ≤ R.locals) (C0 : CallFix p m c cX10_tests 9 s args TB yX10_tests.cls) (hE : EV D T s) (hA : ∀ q, s.heap.size ≤ q → A q) (hr : meth.sig.returnType = some .int) (hlocks : meth.locks = false) :
    ∀ (k n : Nat), n + k = Na + 1 → ts Na Nb p0 k n = V → ∀ (H : Heap) (locs : List Loc) (ls : Array Slot), va_S A s.heap H locs → lv_has ls 9 [(4, .int (nI n)), (1, .int (nI Na)), (2, .int (nI Nb)), (3, .int p0)] → W p l e R s m args below meth c H locs 0 0 (MQ below (Qi (S := Unit) (fun r _ => r = V) (fun _ => []) D A) args s 0 0 A) (F0 m 24 ls []) := by
  have hx := C0.1
  have hb := C0.2.1
  have hown := C0.2.2.2.1
  have hT := C0.2.2.2.2
  intro k
  induction k with
  | zero =>
    intro n hn hV H locs ls hS hl
    refine lv_iload hx hb dX10_tests_24 (lv_at hl 0 rfl) ?_
    refine lv_iload_n hx hb dX10_tests_26 rfl (lv_at hl 1 rfl) ?_
    refine lv_icmp_gt (tgt := 75) hx hb dX10_tests_27 (by decide) (fun _ => ?_) (fun hc => absurd (nI_lt (by omega) (by omega)) hc)
    refine lv_iconst (v := (-1)) hx hb dX10_tests_75 (by decide) ?_
    exact r_iret () C0 hr hlocks hS (Nat.le_refl _) (Nat.le_refl _) dX10_tests_76 hV P_nil D_nil
  | succ k ih =>
    intro n hn hV H locs ls hS hl
    refine lv_iload hx hb dX10_tests_24 (lv_at hl 0 rfl) ?_
    refine lv_iload_n hx hb dX10_tests_26 rfl (lv_at hl 1 rfl) ?_
    refine lv_icmp_gt (tgt := 75) hx hb dX10_tests_27 (by decide) (fun hc => absurd hc (nI_nlt (by omega) (by omega))) (fun _ => ?_)
    refine lv_iload_n hx hb dX10_tests_30 rfl (lv_at hl 1 rfl) ?_
    refine lv_iload hx hb dX10_tests_31 (lv_at hl 0 rfl) ?_
    refine r_calll (wr := []) (r_runS (As := [.int (nI Na), .int (nI n)]) (rest := []) (wc := []) C0 hE (c_ways l D T H.size Na n (by omega) (by omega)) mw_768 mw_769 mw_1 mw_770 dn_1702 rfl rfl ⟨hRf, hRl⟩ P_nil (D_nil (A := A)) hl.1 rfl (Nat.le_of_ble_eq_true rfl) dX10_tests_33 ⟨Nat.zero_le _, Nat.zero_le _⟩) P_nil (D_nil (A := A)) hS hA [] [] rfl rfl (by decide) (by decide) (fun r1 u H locs hq hP hD hS => ?_)
    have hq : r1 = lN (ch Na n) := hq
    subst hq
    refine W.widen (k := 0) (n := 0) (Nat.le_refl _) (Nat.le_refl _) ?_
    refine lv_lstore (lv' := [(5, .long (lN (ch Na n))), (4, .int (nI n)), (1, .int (nI Na)), (2, .int (nI Nb)), (3, .int p0)]) hx hb dX10_tests_36 hl (by decide) rfl (fun ls hl => ?_)
    refine lv_lload hx hb dX10_tests_38 (lv_at hl 0 rfl) ?_
    refine lv_iload_n hx hb dX10_tests_40 rfl (lv_at hl 2 rfl) ?_
    refine lv_iload_n hx hb dX10_tests_41 rfl (lv_at hl 3 rfl) ?_
    refine lv_isub hx hb dX10_tests_42 ?_
    refine r_ci (v := nI (Na - Nb)) (pk_sub hNb) ?_
    refine lv_iload hx hb dX10_tests_43 (lv_at hl 1 rfl) ?_
    refine r_calll (wr := []) (r_runS (As := [.int (nI (Na - Nb)), .int (nI n)]) (rest := [.long (lN (ch Na n))]) (wc := []) C0 hE (c_ways l D T H.size (Na - Nb) n (by omega) (by omega)) mw_768 mw_769 mw_1 mw_770 dn_1702 rfl rfl ⟨hRf, hRl⟩ P_nil (D_nil (A := A)) hl.1 rfl (Nat.le_of_ble_eq_true rfl) dX10_tests_45 ⟨Nat.zero_le _, Nat.zero_le _⟩) P_nil (D_nil (A := A)) hS hA [] [] rfl rfl (by decide) (by decide) (fun r2 u H locs hq hP hD hS => ?_)
    have hq : r2 = lN (ch (Na - Nb) n) := hq
    subst hq
    refine W.widen (k := 0) (n := 0) (Nat.le_refl _) (Nat.le_refl _) ?_
    refine lv_lsub hx hb dX10_tests_48 ?_
    have hle : ch (Na - Nb) n ≤ ch Na n := by
      have h := vander_le Nb (Na - Nb) n
      rwa [Nat.add_sub_cancel' hNb] at h
    refine r_cl (v := lN (ch Na n - ch (Na - Nb) n)) (lN_sub hle) ?_
    refine lv_lstore (lv' := [(7, .long (lN (ch Na n - ch (Na - Nb) n))), (5, .long (lN (ch Na n))), (4, .int (nI n)), (1, .int (nI Na)), (2, .int (nI Nb)), (3, .int p0)]) hx hb dX10_tests_49 hl (by decide) rfl (fun ls hl => ?_)
    refine lv_lload hx hb dX10_tests_51 (lv_at hl 0 rfl) ?_
    refine lv_ldc2 hx hb hown (hT _ mw_775) dX10_tests_53 ?_
    refine lv_lmul hx hb dX10_tests_56 ?_
    refine lv_lload hx hb dX10_tests_57 (lv_at hl 1 rfl) ?_
    refine lv_iload_n hx hb dX10_tests_59 rfl (lv_at hl 5 rfl) ?_
    refine lv_i2l hx hb dX10_tests_60 rfl ?_
    refine lv_lmul hx hb dX10_tests_61 ?_
    refine W.lcmp hx hb dX10_tests_62 ?_
    refine lv_if_lt (tgt := 69) hx hb dX10_tests_63 (by decide) (fun hc => ?_) (fun hc => ?_)
    · have hc2 : tc Na Nb p0 n = true := decide_eq_true hc
      refine lv_iinc (v := nI (n + 1)) (lv' := [(4, .int (nI (n + 1))), (7, .long (lN (ch Na n - ch (Na - Nb) n))), (5, .long (lN (ch Na n))), (1, .int (nI Na)), (2, .int (nI Nb)), (3, .int p0)]) hx hb dX10_tests_69 hl (k := 2) rfl (by rw [nI_succ]; rfl) (by decide) rfl (fun ls hl => ?_)
      refine lv_goto (tgt := 24) hx hb dX10_tests_72 (by decide) ?_
      exact ih (n + 1) (by omega) (by rw [← hV]; simp [ts, hc2]) H locs ls hS (lv_sub hl [0, 3, 4, 5] rfl)
    · have hc2 : tc Na Nb p0 n = false := decide_eq_false hc
      refine lv_iload hx hb dX10_tests_66 (lv_at hl 2 rfl) ?_
      exact r_iret () C0 hr hlocks hS (Nat.le_refl _) (Nat.le_refl _) dX10_tests_68 (by rw [← hV]; simp [ts, hc2]) P_nil D_nil
set_option maxHeartbeats 4000000 in
set_option maxRecDepth 100000 in
theorem tests10_tail {p : Program} {l : Launch} {e : Env} {R : Room} {s : State} {m : MethodId} {args : Array Value} {below : List Frame} {meth : Method} {c : Code} {D : va_G} {T : Nat → ClassId} {A : Nat → Prop} {H : Heap} {locs : List Loc} {Na Nb h0 : Nat} {p0 : Int32} {V : Int32} {ls : Array Slot} (hNa : Na ≤ 50) (hNb : Nb ≤ Na) (hRf : 1 ≤ R.frames) (hRl : 24 ≤ R.locals) (C0 : CallFix p m c cX10_tests 9 s args TB yX10_tests.cls) (hE : EV D T s) (hA : ∀ q, s.heap.size ≤ q → A q) (hr : meth.sig.returnType = some .int) (hlocks : meth.locks = false) (hV : ts Na Nb p0 (Na + 1) 0 = V) (hS : va_S A s.heap H locs) (hl : lv_has ls 9 [(0, .ref h0), (1, .int (nI Na)), (2, .int (nI Nb)), (3, .int p0)]) : W p l e R s m args below meth c H locs 0 0 (MQ below (Qi (S := Unit) (fun r _ => r = V) (fun _ => []) D A) args s 0 0 A) (F0 m 21 ls []) := by
  have hx := C0.1
  have hb := C0.2.1
  have hown := C0.2.2.2.1
  have hT := C0.2.2.2.2
  refine lv_iconst (v := 0) hx hb dX10_tests_21 (by decide) ?_
  refine lv_istore (lv' := [(4, .int 0), (0, .ref h0), (1, .int (nI Na)), (2, .int (nI Nb)), (3, .int p0)]) hx hb dX10_tests_22 hl (by decide) rfl (fun ls hl => ?_)
  exact tests10_loop hNa hNb hRf hRl C0 hE hA hr hlocks (Na + 1) 0 (by omega) hV _ _ ls hS (lv_sub hl [0, 2, 3, 4] rfl)
set_option maxHeartbeats 4000000 in
set_option maxRecDepth 100000 in
theorem tests11_loop {p : Program} {l : Launch} {e : Env} {R : Room} {s : State} {m : MethodId} {args : Array Value} {below : List Frame} {meth : Method} {c : Code} {D : va_G} {T : Nat → ClassId} {A : Nat → Prop} {Na Nb : Nat} {p0 : Int32} {V : Int32} (hNa : Na ≤ 50) (hNb : Nb ≤ Na) (hRf : 2 ≤ R.frames) (hRl : 50 ≤ R.locals) (C0 : CallFix p m c cX11_tests 5 s args TB yX11_tests.cls) (hE : EV D T s) (hA : ∀ q, s.heap.size ≤ q → A q) (hr : meth.sig.returnType = some .int) (hlocks : meth.locks = false) :
    ∀ (k n : Nat), n + k = Na + 1 → ts Na Nb p0 k n = V → ∀ (H : Heap) (locs : List Loc) (ls : Array Slot), va_S A s.heap H locs → lv_has ls 5 [(4, .int (nI n)), (1, .int (nI Na)), (2, .int (nI Nb)), (3, .int p0)] → W p l e R s m args below meth c H locs 0 0 (MQ below (Qi (S := Unit) (fun r _ => r = V) (fun _ => []) D A) args s 0 0 A) (F0 m 40 ls []) := by
  have hx := C0.1
  have hb := C0.2.1
  have hown := C0.2.2.2.1
  have hT := C0.2.2.2.2
  intro k
  induction k with
  | zero =>
    intro n hn hV H locs ls hS hl
    refine lv_iload hx hb dX11_tests_40 (lv_at hl 0 rfl) ?_
    refine lv_iload_n hx hb dX11_tests_42 rfl (lv_at hl 1 rfl) ?_
    refine lv_icmp_gt (tgt := 80) hx hb dX11_tests_43 (by decide) (fun _ => ?_) (fun hc => absurd (nI_lt (by omega) (by omega)) hc)
    refine lv_iconst (v := (-1)) hx hb dX11_tests_80 (by decide) ?_
    exact r_iret () C0 hr hlocks hS (Nat.le_refl _) (Nat.le_refl _) dX11_tests_81 hV P_nil D_nil
  | succ k ih =>
    intro n hn hV H locs ls hS hl
    refine lv_iload hx hb dX11_tests_40 (lv_at hl 0 rfl) ?_
    refine lv_iload_n hx hb dX11_tests_42 rfl (lv_at hl 1 rfl) ?_
    refine lv_icmp_gt (tgt := 80) hx hb dX11_tests_43 (by decide) (fun hc => absurd hc (nI_nlt (by omega) (by omega))) (fun _ => ?_)
    refine lv_iload_n hx hb dX11_tests_46 rfl (lv_at hl 1 rfl) ?_
    refine lv_iload_n hx hb dX11_tests_47 rfl (lv_at hl 2 rfl) ?_
    refine lv_iload hx hb dX11_tests_48 (lv_at hl 0 rfl) ?_
    refine lv_iconst (v := 1) hx hb dX11_tests_50 (by decide) ?_
    refine r_calll (wr := []) (r_runS (As := [.int (nI Na), .int (nI Nb), .int (nI n), .int 1]) (rest := []) (wc := []) C0 hE (c_waysFrom l D T H.size Na Nb n 1 hNa hNb (by omega) (by omega)) mw_1242 mw_1243 mw_14 mw_1244 dn_1800 rfl rfl ⟨hRf, hRl⟩ P_nil (D_nil (A := A)) hl.1 rfl (Nat.le_of_ble_eq_true rfl) dX11_tests_51 ⟨Nat.zero_le _, Nat.zero_le _⟩) P_nil (D_nil (A := A)) hS hA [] [] rfl rfl (by decide) (by decide) (fun r1 u H locs hq hP hD hS => ?_)
    have hq : r1 = lN (sms Nb (Na - Nb) n 1 (n + 1 - 1)) := hq
    rw [Nat.add_sub_cancel, sms_1, Nat.add_sub_cancel' hNb] at hq
    subst hq
    refine W.widen (k := 0) (n := 0) (Nat.le_refl _) (Nat.le_refl _) ?_
    refine lv_ldc2 hx hb hown (hT _ mw_1085) dX11_tests_54 ?_
    refine lv_lmul hx hb dX11_tests_57 ?_
    refine lv_iload_n hx hb dX11_tests_58 rfl (lv_at hl 3 rfl) ?_
    refine lv_i2l hx hb dX11_tests_59 rfl ?_
    refine lv_iload_n hx hb dX11_tests_60 rfl (lv_at hl 1 rfl) ?_
    refine lv_iload hx hb dX11_tests_61 (lv_at hl 0 rfl) ?_
    refine r_calll (wr := []) (r_runS (As := [.int (nI Na), .int (nI n)]) (rest := [.long p0.toInt64, .long (lN (ch Na n - ch (Na - Nb) n) * 1000)]) (wc := []) C0 hE (c_over l D T H.size Na n (by omega) (by omega)) mw_1245 mw_1246 mw_14 mw_1247 dn_1799 rfl rfl ⟨(Nat.le_trans (by decide) hRf), (Nat.le_trans (by decide) hRl)⟩ P_nil (D_nil (A := A)) hl.1 rfl (Nat.le_of_ble_eq_true rfl) dX11_tests_63 ⟨Nat.zero_le _, Nat.zero_le _⟩) P_nil (D_nil (A := A)) hS hA [] [] rfl rfl (by decide) (by decide) (fun r2 u H locs hq hP hD hS => ?_)
    have hq : r2 = lN (ch Na n) := hq
    subst hq
    refine W.widen (k := 0) (n := 0) (Nat.le_refl _) (Nat.le_refl _) ?_
    refine lv_lmul hx hb dX11_tests_66 ?_
    refine r_cl (v := lN (ch Na n) * p0.toInt64) (Int64.mul_comm _ _) ?_
    refine W.lcmp hx hb dX11_tests_67 ?_
    refine lv_if_lt (tgt := 74) hx hb dX11_tests_68 (by decide) (fun hc => ?_) (fun hc => ?_)
    · have hc2 : tc Na Nb p0 n = true := decide_eq_true hc
      refine lv_iinc (v := nI (n + 1)) (lv' := [(4, .int (nI (n + 1))), (1, .int (nI Na)), (2, .int (nI Nb)), (3, .int p0)]) hx hb dX11_tests_74 hl (k := 0) rfl (by rw [nI_succ]; rfl) (by decide) rfl (fun ls hl => ?_)
      refine lv_goto (tgt := 40) hx hb dX11_tests_77 (by decide) ?_
      exact ih (n + 1) (by omega) (by rw [← hV]; simp [ts, hc2]) H locs ls hS hl
    · have hc2 : tc Na Nb p0 n = false := decide_eq_false hc
      refine lv_iload hx hb dX11_tests_71 (lv_at hl 0 rfl) ?_
      exact r_iret () C0 hr hlocks hS (Nat.le_refl _) (Nat.le_refl _) dX11_tests_73 (by rw [← hV]; simp [ts, hc2]) P_nil D_nil
set_option maxHeartbeats 4000000 in
set_option maxRecDepth 100000 in
theorem tests11_tail {p : Program} {l : Launch} {e : Env} {R : Room} {s : State} {m : MethodId} {args : Array Value} {below : List Frame} {meth : Method} {c : Code} {D : va_G} {T : Nat → ClassId} {A : Nat → Prop} {H : Heap} {locs : List Loc} {Na Nb h0 : Nat} {p0 : Int32} {V : Int32} {ls : Array Slot} (hNa : Na ≤ 50) (hNb : Nb ≤ Na) (hRf : 2 ≤ R.frames) (hRl : 50 ≤ R.locals) (C0 : CallFix p m c cX11_tests 5 s args TB yX11_tests.cls) (hE : EV D T s) (hA : ∀ q, s.heap.size ≤ q → A q) (hr : meth.sig.returnType = some .int) (hlocks : meth.locks = false) (hV : ts Na Nb p0 (Na + 1) 0 = V) (hS : va_S A s.heap H locs) (hl : lv_has ls 5 [(0, .ref h0), (1, .int (nI Na)), (2, .int (nI Nb)), (3, .int p0)]) : W p l e R s m args below meth c H locs 0 0 (MQ below (Qi (S := Unit) (fun r _ => r = V) (fun _ => []) D A) args s 0 0 A) (F0 m 37 ls []) := by
  have hx := C0.1
  have hb := C0.2.1
  have hown := C0.2.2.2.1
  have hT := C0.2.2.2.2
  refine lv_iconst (v := 0) hx hb dX11_tests_37 (by decide) ?_
  refine lv_istore (lv' := [(4, .int 0), (0, .ref h0), (1, .int (nI Na)), (2, .int (nI Nb)), (3, .int p0)]) hx hb dX11_tests_38 hl (by decide) rfl (fun ls hl => ?_)
  exact tests11_loop hNa hNb hRf hRl C0 hE hA hr hlocks (Na + 1) 0 (by omega) hV _ _ ls hS (lv_sub hl [0, 2, 3, 4] rfl)
/-- what found and tests answer -/
def FO (a b n k ab : Int32) : Int64 := if ((wi a 1 50 && wi b 0 a) && (wi n 0 a && wi k 0 n)) = true then (if ab = 0 then lN (ch a.toNatClampNeg n.toNatClampNeg) else lN (sms b.toNatClampNeg (a.toNatClampNeg - b.toNatClampNeg) n.toNatClampNeg k.toNatClampNeg (n.toNatClampNeg + 1 - k.toNatClampNeg))) else -1
def TS (a b p : Int32) : Int32 := if ((wi a 1 50 && wi b 0 a) && wi p 1 1000) = true then ts a.toNatClampNeg b.toNatClampNeg p (a.toNatClampNeg + 1) 0 else -1
theorem wi_nat {x lo hi : Int32} {L : Nat} (hhi : hi ≤ nI L) (hL : L < 2 ^ 31) (hlo : 0 ≤ lo) (h : wi x lo hi = true) : ∃ N : Nat, N ≤ L ∧ x = nI N := by
  simp only [wi, Bool.and_eq_true, decide_eq_true_eq] at h
  obtain ⟨N, hN, e⟩ := nI_of (x := x) (Int32.not_lt.mpr (Int32.le_trans hlo h.1))
  refine ⟨N, ?_, e⟩
  rw [e] at h
  exact (nI_leI hN hL).mp (Int32.le_trans h.2 hhi)
