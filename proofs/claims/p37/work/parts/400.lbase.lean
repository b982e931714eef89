/-! THE CLAIM OUT OF ONE WALK OF THE LAW'S BODY. Your part is whole_start (and what it stands on); all else here is the same for every law, but numbers. -/
def R_law : String := "HookBoardLaw"
def lw_P (b : Addr) (xs : List Int32) (args : Array Value) (s : State) : Prop := args = #[.ref b] ∧ s.IntsAt b xs ∧ xs.length ≤ 3072 ∧ (Jvm.Cond.and given_1 narrow_1).before args s = true
def lw_Q (_ : Array Value) (s : State) (o : Outcome) (t : State) : Prop := o = .returned (some (.int 1)) ∧ Framed s o t [] 600000 7302250
def lw_Z (below : List Frame) (a : Array Value) (s : State) : State → Prop := fun t => ∃ o, t.status = .running ∧ Ended t below o ∧ lw_Q a s o t
/-- the law's own end, with 1 on the stack, nothing written that was there before, its room as the claim has it -/
theorem lw_ret {p : Program} {l : Launch} {e : Env} {s : State} {m : MethodId} {below : List Frame} {meth : Method} {c : Code} {b : Nat} (hx : p.tables.exec = Jvm.exec) (hb : c.code = code) (hr : meth.sig.returnType = ret) (hlocks : meth.locks = false) {pc : Nat} {H : Heap} {ls : Array Slot} (hdg : decode code pc = .ok (.ireturn, 1)) : W p l e room_1 s m #[Value.ref b] below meth c H [] 600000 7302250 (lw_Z below #[Value.ref b] s) (F0 m pc ls [.int 1]) := by
  intro T hT X
  obtain ⟨fs, hret, hrun, hended, hW, hframe⟩ := X.leave (v := some (.int 1)) (hlocks := hlocks) (fun h => by rw [hr] at h; cases h)
  have hmeth' : T.vm.method? m = some meth := X.method'
  refine ⟨T.setFrames fs, ?_, .returned (some (.int 1)), hrun, hended, rfl, ⟨_, rfl⟩, hW, hframe⟩
  jvm_step X.here [X.here.top, hx, hb, hdg, hmeth', hr, ret, narrow_b1]
  (try refine ⟨rfl, ?_⟩); (try refine ⟨rfl, ?_⟩)
  first | (intro acts; rw [hret _ acts rfl rfl rfl]) | rw [hret _ _ rfl rfl rfl]
  exact Steps.refl _
/-- what holds at the law's entry: the machine, the code, the tables' words (any of lw_tbl by 'hts w (by decide +kernel)'), the script of L ints xs at the cell b, what the Statement gives of the start (any of its parts by flat_of_before) -/
def lw_At (p : Program) (s : State) (m : MethodId) (meth : Method) (c : Code) (b L : Nat) (xs : Nat → Int32) : Prop :=
  p.tables.exec = Jvm.exec ∧ c.code = code ∧ meth.sig.returnType = ret ∧ c.maxLocals = 4 ∧ s.vm.findClass R_law = some m.cls ∧ (∀ w ∈ lw_tbl, w.before #[Value.ref b] s = true) ∧ va_X b L xs s s.heap ∧ b < s.heap.size ∧ meth.locks = false ∧ (Jvm.Cond.and given_1 narrow_1).before #[Value.ref b] s = true
/-! the law: worlds of blocks, calls over them, the String constant at the start -/
theorem P_perm {D : va_G} {cl : List vw_C} {ws ws' : va_W} {H : Heap} (hp : ws.Perm ws') (h : va_P D cl ws H) : va_P D cl ws' H := by
  intro k q hk
  obtain ⟨i, hi⟩ := List.getElem?_of_mem (hp.mem_iff.mpr (List.mem_of_getElem? hk))
  exact h i q hi
theorem D_iff {A : Nat → Prop} {ws : va_W} : va_D A ws ↔ (ws.map Prod.fst).Nodup ∧ ∀ q ∈ ws, A q.1 := by
  constructor
  · intro h
    refine ⟨List.pairwise_iff_getElem.mpr (fun i j hi hj hij => ?_), fun q hq => ?_⟩
    · intro e
      rw [List.length_map] at hi hj
      rw [List.getElem_map, List.getElem_map] at e
      have := h.1 i j ws[i] ws[j] (List.getElem?_eq_getElem hi) (List.getElem?_eq_getElem hj) e
      omega
    · obtain ⟨i, hi⟩ := List.getElem?_of_mem hq
      exact h.2 i q hi
  · intro h
    have key : ∀ (i j : Nat) (p q : Nat × va_E), ws[i]? = some p → ws[j]? = some q → p.1 = q.1 → ¬ i < j := by
      intro i j p q hi hj e hij
      obtain ⟨hi1, hi2⟩ := List.getElem?_eq_some_iff.mp hi
      obtain ⟨hj1, hj2⟩ := List.getElem?_eq_some_iff.mp hj
      refine List.pairwise_iff_getElem.mp h.1 i j (by rw [List.length_map]; exact hi1) (by rw [List.length_map]; exact hj1) hij ?_
      rw [List.getElem_map, List.getElem_map, hi2, hj2, e]
    refine ⟨fun i j p q hi hj e => ?_, fun k q hk => h.2 q (List.mem_of_getElem? hk)⟩
    have h1 := key i j p q hi hj e
    have h2 := key j i q p hj hi e.symm
    omega
theorem D_perm {A : Nat → Prop} {ws ws' : va_W} (hp : ws.Perm ws') (h : va_D A ws) : va_D A ws' := by
  rw [D_iff] at h ⊢
  exact ⟨(hp.map Prod.fst).nodup_iff.mp h.1, fun q hq => h.2 q (hp.mem_iff.mpr hq)⟩
theorem P_left {D : va_G} {cl : List vw_C} {w1 w2 : va_W} {H : Heap} (h : va_P D cl (w1 ++ w2) H) : va_P D cl w1 H := by
  intro k q hk
  obtain ⟨i, hi⟩ := List.getElem?_of_mem (List.mem_append_left w2 (List.mem_of_getElem? hk))
  exact h i q hi
theorem D_left {A : Nat → Prop} {w1 w2 : va_W} (h : va_D A (w1 ++ w2)) : va_D A w1 := by
  rw [D_iff] at h ⊢
  rw [List.map_append] at h
  exact ⟨(List.nodup_append.mp h.1).1, fun q hq => h.2 q (List.mem_append_left _ hq)⟩
theorem ixC (wc wr : va_W) : (List.range wc.length).map (fun i => (wc ++ wr)[i]?) = wc.map some := by
  refine List.ext_getElem (by simp) (fun i h1 h2 => ?_)
  simp only [List.length_map, List.length_range] at h1
  simp only [List.getElem_map, List.getElem_range]
  rw [List.getElem?_append_left h1, List.getElem?_eq_getElem h1]
theorem ixR (wc wr : va_W) : (List.range' wc.length wr.length).map (fun i => (wc ++ wr)[i]?) = wr.map some := by
  refine List.ext_getElem (by simp) (fun i h1 h2 => ?_)
  simp only [List.length_map, List.length_range'] at h1
  simp only [List.getElem_map, List.getElem_range']
  rw [List.getElem?_append_right (by omega)]
  have e : wc.length + 1 * i - wc.length = i := by omega
  rw [e, List.getElem?_eq_getElem h1]
theorem nd_of : ∀ l : List Nat, l.Nodup → va_nd l = true := by
  intro l
  induction l with
  | nil => intro _; rfl
  | cons a l ih =>
    intro h
    rw [List.nodup_cons] at h
    simp only [va_nd, Bool.and_eq_true, decide_eq_true_eq]
    exact ⟨h.1, ih h.2⟩
theorem dsR (wc wr : va_W) : ∀ i ∈ List.range' wc.length wr.length, i ∉ List.range wc.length := by
  intro i hi
  rw [List.mem_range'_1] at hi
  rw [List.mem_range]
  omega
section BW
variable {p : Program} {l : Launch} {e : Env} {R : Room} {s : State} {m : MethodId} {args : Array Value} {below : List Frame} {meth : Method} {c : Code} {H : Heap} {locs : List Loc} {cells slots : Nat} {Q : State → Prop} {D : va_G} {A : Nat → Prop} {wc wr : va_W} {pc : Nat} {ls : Array Slot} {rest st0 : List Value} {a : Array Value}
theorem r_calliA {S : Type} {post : Int32 → S → Prop} {out : S → va_W} (hr : va_Run p l e R s m args below meth c H locs cells slots 0 0 (F0 m pc ls st0) rest (Qi post out D (va_A wc H.size) a) (va_A wc H.size)) (hP : va_P D vwCl (wc ++ wr) H) (hD : va_D A (wc ++ wr)) (hS : va_S A s.heap H locs) (hA : ∀ q, s.heap.size ≤ q → A q)
    (kk : ∀ (r : Int32) (u : S) (H1 : Heap) (locs1 : List Loc), post r u → va_P D vwCl (out u ++ wr) H1 → va_D A (out u ++ wr) → va_S A s.heap H1 locs1 → W p l e R s m args below meth c H1 locs1 cells slots Q (F0 m (pc + 3) ls (.int r :: rest))) : W p l e R s m args below meth c H locs cells slots Q (F0 m pc ls st0) :=
  r_calli hr hP hD hS hA _ _ (ixC wc wr) (ixR wc wr) (nd_of _ List.nodup_range') (dsR wc wr) (fun r u H1 locs1 hq hP hD hS => kk r u H1 locs1 hq (P_perm List.perm_append_comm hP) (D_perm List.perm_append_comm hD) hS)
theorem r_calllA {S : Type} {post : Int64 → S → Prop} {out : S → va_W} (hr : va_Run p l e R s m args below meth c H locs cells slots 0 0 (F0 m pc ls st0) rest (Ql post out D (va_A wc H.size) a) (va_A wc H.size)) (hP : va_P D vwCl (wc ++ wr) H) (hD : va_D A (wc ++ wr)) (hS : va_S A s.heap H locs) (hA : ∀ q, s.heap.size ≤ q → A q)
    (kk : ∀ (r : Int64) (u : S) (H1 : Heap) (locs1 : List Loc), post r u → va_P D vwCl (out u ++ wr) H1 → va_D A (out u ++ wr) → va_S A s.heap H1 locs1 → W p l e R s m args below meth c H1 locs1 cells slots Q (F0 m (pc + 3) ls (.long r :: rest))) : W p l e R s m args below meth c H locs cells slots Q (F0 m pc ls st0) :=
  r_calll hr hP hD hS hA _ _ (ixC wc wr) (ixR wc wr) (nd_of _ List.nodup_range') (dsR wc wr) (fun r u H1 locs1 hq hP hD hS => kk r u H1 locs1 hq (P_perm List.perm_append_comm hP) (D_perm List.perm_append_comm hD) hS)
end BW
theorem r_runV3 {p : Program} {l : Launch} {e : Env} {R : Room} {s : State} {m : MethodId} {args : Array Value} {below : List Frame} {meth : Method} {c : Code} {H : Heap} {locs : List Loc} {cells slots : Nat} {D : va_G} {T : Nat → ClassId} {ws : va_W} {cc cb : ByteArray} {nL maxL pc index : Nat} {ls : Array Slot} {rest st0 As : List Value} {own : String} {y : MethodName} {ret : Option FieldType} {rm : Room} {Qc : Array Value → State → Outcome → State → Prop} {b ci : Nat} {fs : List Value} {q : vw_C} (C0 : CallFix p m c cc nL s args TB own) (hE : EV D T s) (hM : Met l y (.code y cb maxL ret :: TB) rm (PC D T (.ref b :: As) [] H.size) Qc 0 0 (va_A [] H.size))
    (w1 : Cond.methodLink own index y ∈ TB) (w2 : Cond.instanceMethod y ∈ TB) (w3 : Cond.selects y.cls y y ∈ TB) (w4 : Cond.initialized y.cls ∈ TB) (w5 : Cond.code y cb maxL ret ∈ TB) (hd : DescN y As.length) (hrc : rm.cells = 0) (hrs : rm.slots = 0) (hR : rm.frames + 1 ≤ R.frames ∧ 8 + (maxL + 11) + rm.locals ≤ R.locals)
    (hP : va_P D vwCl ws H) (hq : vwCl[ci]? = some q) (hqn : q.1 = y.cls) (he : ws[0]? = some (b, .inr (ci, fs))) (hsz : ls.size = nL) (hst : st0 = As.reverse ++ .ref b :: rest) (hro : (rest.map fun v => v.category).sum ≤ 8) (hdg : decode cc pc = .ok (.invokevirtual index, 3)) (hf : cells + 0 ≤ R.cells ∧ slots + 0 ≤ R.slots) :
    va_Run p l e R s m args below meth c H locs cells slots 0 0 (F0 m pc ls st0) rest (Qc (Value.ref b :: As).toArray) (va_A [] H.size) :=
  va_runV (C := y.cls) (b := b) (As := As) C0 hM (cwV As.length C0.2.2.2.2 (r_wV (fun _ h => h) w1 w2 w3 w4 w5) rfl hrc hrs ⟨rfl, hd⟩ hR) ⟨PC.blind, (by rw [← hqn]; exact va_recv hE.1 hP (ci := ci) (q0 := 0) hq he), PC.at hE P_nil (D_nil (A := fun _ => True))⟩ rfl rfl hsz hst (lv_room hro) hdg hf
theorem fl_perm {bs bs' : List va_W} (h : bs.Perm bs') : bs.flatten.Perm bs'.flatten := by
  induction h with
  | nil => exact List.Perm.refl _
  | cons x _ ih => simp only [List.flatten_cons]; exact ih.append_left x
  | swap x y l => simp only [List.flatten_cons]; exact List.perm_append_comm_assoc _ _ _
  | trans _ _ ih1 ih2 => exact ih1.trans ih2
theorem bs_perm {bs bs' : List va_W} (is : List Nat) (n : Nat) (hn : bs.length = n) (h : bs' = is.map (fun i => bs.getD i [])) (hp : is.isPerm (List.range n) = true) : bs.flatten.Perm bs'.flatten := by
  subst hn
  have e : (List.range bs.length).map (fun i => bs.getD i []) = bs := by
    refine List.ext_getElem (by simp) (fun i h1 h2 => ?_)
    simp only [List.getElem_map, List.getElem_range]
    simp [h2]
  have h2 := (List.isPerm_iff.mp hp).map (fun i => bs.getD i [])
  rw [e, ← h] at h2
  exact fl_perm h2.symm
def SEL (j : Nat) : Cond := .eq (.elem (.field (.string "HookBoard$Reader" 181) "java/lang/String" "value" "[B") (.int (Int32.ofNat j))) (.int (SBY.getD j 0))
theorem str_at {A : Nat → Prop} {s : State} {b : Nat} (hgv : (Jvm.Cond.and given_1 narrow_1).before #[Value.ref b] s = true) (hts : ∀ w ∈ lw_tbl, w.before #[Value.ref b] s = true) (hA : ∀ a : Nat, a < s.heap.size → ¬ A a) : ∃ sq sv : Nat, STR A sq sv s := by
  have hs := flat_of_before _ hgv
  have hex : (Cond.exactly (.string "HookBoard$Reader" 181) "java/lang/String").before #[Value.ref b] s = true := hs _ (by decide +kernel)
  have hco : (Cond.eq (.field (.string "HookBoard$Reader" 181) "java/lang/String" "coder" "B") (.int 0)).before #[Value.ref b] s = true := hs _ (by decide +kernel)
  have har : (Cond.arrayOf (.field (.string "HookBoard$Reader" 181) "java/lang/String" "value" "[B") .byte).before #[Value.ref b] s = true := hs _ (by decide +kernel)
  have hle : (Cond.eq (.length (.field (.string "HookBoard$Reader" 181) "java/lang/String" "value" "[B")) (.int (Int32.ofNat 105))).before #[Value.ref b] s = true := hs _ (by decide +kernel)
  have hmem : ∀ j : Nat, j < 105 → SEL j ∈ flatC (Jvm.Cond.and given_1 narrow_1) := by decide +kernel
  obtain ⟨adK, adV, hS, hE⟩ := vk_Sof (N := 1) (tm := fun _ => .string "HookBoard$Reader" 181) (len := [105]) (byt := [SBY]) (A := A) (args := #[Value.ref b]) (s := s)
    (fun i hi => by have : i = 0 := by omega
                    subst this; decide) (fun i hi => hex) (fun i hi => hco) (fun i hi => har)
    (fun i hi => by have : i = 0 := by omega
                    subst this; exact hle)
    (fun i hi j hj => by have : i = 0 := by omega
                         subst this; exact hs _ (hmem j hj))
    (fun i j hi hj hne => absurd (show i = j by omega) hne) hA
  obtain ⟨h1, h2, h3, h4⟩ := hS.1 0 (by decide)
  refine ⟨adK 0, adV 0, vk_R.of (hts (.stringRef RX7 181 STX) (by decide +kernel)) (hE 0 (by decide)), h1, h2, h3, h4, ?_, ?_⟩
  · exact va_Zof (hts (.laysStatic "java/lang/String" "COMPACT_STRINGS" "Z") (by decide +kernel)) (hts (.initialized "java/lang/String") (by decide +kernel)) (va_eqt (hs (.eq (.static "java/lang/String" "COMPACT_STRINGS" "Z") (.int 1)) (by decide +kernel))) hA
  · exact va_Zqof (hts (.laysStatic "jdk/internal/util/Preconditions" "SIOOBE_FORMATTER" "Ljava/util/function/BiFunction;") (by decide +kernel)) (hts (.initialized "jdk/internal/util/Preconditions") (by decide +kernel)) (hs (.isRef (.static "jdk/internal/util/Preconditions" "SIOOBE_FORMATTER" "Ljava/util/function/BiFunction;")) (by decide +kernel)) hA
theorem Bd.const {lo hi : Int} {c : Int32} (h1 : lo ≤ c.toInt) (h2 : c.toInt ≤ hi) : Bd lo hi (fun _ => c) := fun _ => ⟨h1, h2⟩
set_option maxHeartbeats 4000000 in
set_option maxRecDepth 100000 in
def LINV (D : va_G) (T : Nat → ClassId) (A : Nat → Prop) (xa ma : Nat) (H : Heap) : Prop := ∃ (y : Nat → Nat), ∃ (ys : Nat → Nat), ∃ (yp : Nat → Nat), ∃ (z : Nat → Nat), ∃ (zo : Nat), ∃ (w1 : va_W), ∃ (w2 : va_W), ∃ (w3 : va_W), ∃ (w4 : va_W), ∃ (w5 : va_W), ∃ (w6 : va_W), ∃ (w7 : va_W), ∃ (w8 : va_W), ∃ (w9 : va_W), ∃ (w10 : va_W), ∃ (w11 : va_W), ∃ (w12 : va_W), ∃ (w13 : va_W), ∃ (w14 : va_W), ∃ (i1 : Int32), ∃ (i2 : Int32), ∃ (i3 : Int32), ∃ (i4 : Int32), ∃ (i5 : Int32), ∃ (i6 : Int32), ∃ (i7 : Int32), ∃ (i8 : Int32), ∃ (i30 : Int32), ∃ (i43 : Int32), ∃ (i45 : Int32), ∃ (i46 : Int32), ∃ (i47 : Int32), ∃ (i48 : Int32), ∃ (i49 : Int32), ∃ (i50 : Int32), ∃ (i51 : Int32), ∃ (i58 : Int32), ∃ (i59 : Int32), ∃ (i65 : Int32), ∃ (i68 : Int32), ∃ (i69 : Int32), ∃ (i72 : Int32), ∃ (i78 : Int32), ∃ (i80 : Int32), ∃ (i81 : Int32), ∃ (i82 : Int32), ∃ (i87 : Int32), ∃ (i92 : Int32), ∃ (i96 : Int32), ∃ (i100 : Int32), ∃ (i103 : Int32), ∃ (i104 : Int32), ∃ (g0 : Nat → Int32), ∃ (g9 : Nat → Int32), ∃ (g10 : Nat → Int32), ∃ (g11 : Nat → Int32), ∃ (g12 : Nat → Int32), ∃ (g13 : Nat → Int32), ∃ (g14 : Nat → Int32), ∃ (g15 : Nat → Int32), ∃ (g16 : Nat → Int32), ∃ (g17 : Nat → Int32), ∃ (g18 : Nat → Int32), ∃ (g19 : Nat → Int32), ∃ (g20 : Nat → Int32), ∃ (g21 : Nat → Int32), ∃ (g22 : Nat → Int32), ∃ (g23 : Nat → Int32), ∃ (g24 : Nat → Int32), ∃ (g25 : Nat → Int32), ∃ (g26 : Nat → Int32), ∃ (g27 : Nat → Int32), ∃ (g28 : Nat → Int32), ∃ (g29 : Nat → Int32), ∃ (g31 : Nat → Int32), ∃ (g32 : Nat → Int64), ∃ (g33 : Nat → Int32), ∃ (g34 : Nat → Int32), ∃ (g35 : Nat → Int32), ∃ (g36 : Nat → Int32), ∃ (g37 : Nat → Int32), ∃ (g38 : Nat → Int32), ∃ (g39 : Nat → Int32), ∃ (g40 : Nat → Int32), ∃ (g41 : Nat → Int32), ∃ (g42 : Nat → Int32), ∃ (g44 : Nat → Int32), ∃ (g52 : Nat → Int32), ∃ (g53 : Nat → Int32), ∃ (g54 : Nat → Int32), ∃ (g55 : Nat → Int32), ∃ (g56 : Nat → Int32), ∃ (g57 : Nat → Int32), ∃ (g60 : Nat → Int32), ∃ (g61 : Nat → Int32), ∃ (g62 : Nat → Int32), ∃ (g63 : Nat → Int32), ∃ (g64 : Nat → Int32), ∃ (g66 : Nat → Int64), ∃ (g67 : Nat → Int64), ∃ (g70 : Nat → Int64), ∃ (g71 : Nat → Int32), ∃ (g73 : Nat → Int32), ∃ (g74 : Nat → Int32), ∃ (g75 : Nat → Int32), ∃ (g76 : Nat → Int32), ∃ (g77 : Nat → Int32), ∃ (g79 : Nat → Int32), ∃ (g83 : Nat → Int32), ∃ (g84 : Nat → Int32), ∃ (g85 : Nat → Int32), ∃ (g86 : Nat → Int32), ∃ (g88 : Nat → Int32), ∃ (g89 : Nat → Int64), ∃ (g90 : Nat → Int32), ∃ (g91 : Nat → Int32), ∃ (g93 : Nat → Int32), ∃ (g94 : Nat → Int32), ∃ (g95 : Nat → Int32), ∃ (g97 : Nat → Int32), ∃ (g98 : Nat → Int32), ∃ (g99 : Nat → Int32), ∃ (g101 : Nat → Int32), ∃ (g102 : Nat → Int32), ∃ (vt : Int32), ∃ (vc : Int32), ∃ (vp : Int32), B_X10 T xa (y 0) (y 1) (y 2) (y 3) (y 4) (y 5) (y 6) (y 7) (y 8) (ys 0) (yp 0) w1 ∧ B_X9 T (y 0) (y 9) w2 ∧ B_X7 T (y 1) (y 0) zo w3 ∧ B_X0 T (y 2) (y 10) (y 11) (y 12) (y 13) (y 14) (y 15) w4 ∧ B_X2 T (y 3) (y 16) (y 17) (y 18) (y 19) (y 20) (y 21) (y 22) (y 23) w5 ∧ B_X1 T (y 22) (y 24) (y 25) (y 26) (y 27) w6 ∧ B_X6 T (y 23) (y 28) (y 29) (y 30) (y 31) w7 ∧ B_X3 T (y 4) (y 32) w8 ∧ B_X1 T (y 5) (y 33) (y 34) (y 35) (y 36) w9 ∧ B_X6 T (y 6) (y 37) (y 38) (y 39) (y 40) w10 ∧ B_X5 T (y 7) (y 41) (y 42) (y 43) (y 44) (y 45) w11 ∧ B_X4 T (y 8) (y 46) (y 47) (y 48) (y 49) (y 50) w12 ∧ B_X8 T (ys 0) (ys 1) (ys 2) (ys 3) (ys 4) (ys 5) (ys 6) (ys 7) (ys 8) (ys 9) w13 ∧ B_X8 T (yp 0) (yp 1) (yp 2) (yp 3) (yp 4) (yp 5) (yp 6) (yp 7) (yp 8) (yp 9) w14 ∧ fv w2 1 = some (.int vt) ∧ fv w12 5 = some (.int vc) ∧ fv w12 6 = some (.int vp) ∧ vt.toInt = i1.toInt ∧ vc.toInt = i96.toInt ∧ vp.toInt = i100.toInt ∧ (0 ≤ i1.toInt ∧ i1.toInt ≤ 700) ∧ (0 ≤ i2.toInt ∧ i2.toInt ≤ 700) ∧ (0 ≤ i3.toInt ∧ i3.toInt ≤ 700) ∧ (0 ≤ i43.toInt ∧ i43.toInt ≤ 700) ∧ (0 ≤ i45.toInt ∧ i45.toInt ≤ 800) ∧ (0 ≤ i47.toInt ∧ i47.toInt ≤ 24) ∧ (0 ≤ i48.toInt ∧ i48.toInt ≤ 800) ∧ (1 ≤ i49.toInt ∧ i49.toInt ≤ 8) ∧ (1 ≤ i50.toInt ∧ i50.toInt ≤ 8) ∧ (0 ≤ i51.toInt ∧ i51.toInt ≤ 120) ∧ (-1 ≤ i58.toInt ∧ i58.toInt ≤ 120) ∧ (-1 ≤ i59.toInt ∧ i59.toInt ≤ 120) ∧ (0 ≤ i65.toInt ∧ i65.toInt ≤ 1200) ∧ (-1 ≤ i69.toInt ∧ i69.toInt ≤ 64) ∧ (0 ≤ i72.toInt ∧ i72.toInt ≤ 64) ∧ (0 ≤ i78.toInt ∧ i78.toInt ≤ 1) ∧ (0 ≤ i80.toInt ∧ i80.toInt ≤ 64) ∧ (0 ≤ i81.toInt ∧ i81.toInt ≤ 8) ∧ (0 ≤ i82.toInt ∧ i82.toInt ≤ 8) ∧ (-1 ≤ i87.toInt ∧ i87.toInt ≤ 64) ∧ (-1 ≤ i92.toInt ∧ i92.toInt ≤ 8) ∧ (0 ≤ i96.toInt ∧ i96.toInt ≤ 12) ∧ (0 ≤ i100.toInt ∧ i100.toInt ≤ 8) ∧ Bd (0) (8) g31 ∧ Bd (0) (24) g37 ∧ Bd (0) (700) g39 ∧ Bd (0) (700) g40 ∧ Bd (0) (700) g41 ∧ Bd (0) (63) g53 ∧ Bd (-1) (7) g60 ∧ Bd (0) (1) g71 ∧ Bd (0) (63) g77 ∧ TXT g37 g39 g40 g41 g42 ∧ HK g52 g54 ∧ PS i80.toInt g84 ∧ PS i87.toInt g90 ∧ (i78.toInt = 0 ∨ 1 ≤ i81.toInt) ∧ va_P D vwCl (List.flatten (w1 :: w2 :: w3 :: w4 :: w5 :: w6 :: w7 :: w8 :: w9 :: w10 :: w11 :: w12 :: w13 :: w14 :: [(ma, .inr (11, OX z i1 i2 i3 i4 i5 i6 i7 i8 i30 i43 i45 i46 i47 i48 i49 i50 i51 i58 i59 i65 i68 i69 i72 i78 i80 i81 i82 i87 i92 i96 i100 i103 i104))] :: [(z 0, .inl (T 0, 700, .inl g0))] :: [(z 9, .inl (T 3, 4, .inl g9))] :: [(z 10, .inl (T 3, 5, .inl g10))] :: [(z 11, .inl (T 3, 5, .inl g11))] :: [(z 12, .inl (T 3, 5, .inl g12))] :: [(z 13, .inl (T 3, 5, .inl g13))] :: [(z 14, .inl (T 3, 5, .inl g14))] :: [(z 15, .inl (T 3, 4, .inl g15))] :: [(z 16, .inl (T 3, 4, .inl g16))] :: [(z 17, .inl (T 3, 2, .inl g17))] :: [(z 18, .inl (T 3, 3, .inl g18))] :: [(z 19, .inl (T 3, 3, .inl g19))] :: [(z 20, .inl (T 3, 3, .inl g20))] :: [(z 21, .inl (T 3, 2, .inl g21))] :: [(z 22, .inl (T 3, 5, .inl g22))] :: [(z 23, .inl (T 3, 5, .inl g23))] :: [(z 24, .inl (T 3, 5, .inl g24))] :: [(z 25, .inl (T 3, 4, .inl g25))] :: [(z 26, .inl (T 3, 3, .inl g26))] :: [(z 27, .inl (T 3, 6, .inl g27))] :: [(z 28, .inl (T 3, 3, .inl g28))] :: [(z 29, .inl (T 3, 3, .inl g29))] :: [(z 31, .inl (T 0, 2, .inl g31))] :: [(z 32, .inl (T 1, 8, .inr (.inl g32)))] :: [(z 33, .inl (T 0, 16, .inl g33))] :: [(z 34, .inl (T 0, 16, .inl g34))] :: [(z 35, .inl (T 0, 16, .inl g35))] :: [(z 36, .inl (T 0, 16, .inl g36))] :: [(z 37, .inl (T 0, 2, .inl g37))] :: [(z 38, .inl (T 0, 48, .inl g38))] :: [(z 39, .inl (T 0, 48, .inl g39))] :: [(z 40, .inl (T 0, 48, .inl g40))] :: [(z 41, .inl (T 0, 48, .inl g41))] :: [(z 42, .inl (T 0, 1400, .inl g42))] :: [(z 44, .inl (T 0, 800, .inl g44))] :: [(z 52, .inl (T 0, 121, .inl g52))] :: [(z 53, .inl (T 0, 121, .inl g53))] :: [(z 54, .inl (T 0, 121, .inl g54))] :: [(z 55, .inl (T 0, 121, .inl g55))] :: [(z 56, .inl (T 0, 121, .inl g56))] :: [(z 57, .inl (T 0, 121, .inl g57))] :: [(z 60, .inl (T 0, 64, .inl g60))] :: [(z 61, .inl (T 0, 64, .inl g61))] :: [(z 62, .inl (T 0, 64, .inl g62))] :: [(z 63, .inl (T 0, 64, .inl g63))] :: [(z 64, .inl (T 0, 64, .inl g64))] :: [(z 66, .inl (T 1, 1200, .inr (.inl g66)))] :: [(z 67, .inl (T 1, 800, .inr (.inl g67)))] :: [(z 70, .inl (T 1, 66, .inr (.inl g70)))] :: [(z 71, .inl (T 4, 64, .inl g71))] :: [(z 73, .inl (T 0, 64, .inl g73))] :: [(z 74, .inl (T 0, 64, .inl g74))] :: [(z 75, .inl (T 0, 64, .inl g75))] :: [(z 76, .inl (T 0, 64, .inl g76))] :: [(z 77, .inl (T 0, 64, .inl g77))] :: [(z 79, .inl (T 0, 64, .inl g79))] :: [(z 83, .inl (T 0, 64, .inl g83))] :: [(z 84, .inl (T 0, 64, .inl g84))] :: [(z 85, .inl (T 0, 64, .inl g85))] :: [(z 86, .inl (T 0, 64, .inl g86))] :: [(z 88, .inl (T 0, 64, .inl g88))] :: [(z 89, .inl (T 1, 64, .inr (.inl g89)))] :: [(z 90, .inl (T 0, 64, .inl g90))] :: [(z 91, .inl (T 0, 64, .inl g91))] :: [(z 93, .inl (T 0, 8, .inl g93))] :: [(z 94, .inl (T 0, 8, .inl g94))] :: [(z 95, .inl (T 0, 8, .inl g95))] :: [(z 97, .inl (T 0, 12, .inl g97))] :: [(z 98, .inl (T 0, 12, .inl g98))] :: [(z 99, .inl (T 0, 12, .inl g99))] :: [(z 101, .inl (T 0, 8, .inl g101))] :: [(z 102, .inl (T 0, 8, .inl g102))] :: [])) H ∧ va_D A (List.flatten (w1 :: w2 :: w3 :: w4 :: w5 :: w6 :: w7 :: w8 :: w9 :: w10 :: w11 :: w12 :: w13 :: w14 :: [(ma, .inr (11, OX z i1 i2 i3 i4 i5 i6 i7 i8 i30 i43 i45 i46 i47 i48 i49 i50 i51 i58 i59 i65 i68 i69 i72 i78 i80 i81 i82 i87 i92 i96 i100 i103 i104))] :: [(z 0, .inl (T 0, 700, .inl g0))] :: [(z 9, .inl (T 3, 4, .inl g9))] :: [(z 10, .inl (T 3, 5, .inl g10))] :: [(z 11, .inl (T 3, 5, .inl g11))] :: [(z 12, .inl (T 3, 5, .inl g12))] :: [(z 13, .inl (T 3, 5, .inl g13))] :: [(z 14, .inl (T 3, 5, .inl g14))] :: [(z 15, .inl (T 3, 4, .inl g15))] :: [(z 16, .inl (T 3, 4, .inl g16))] :: [(z 17, .inl (T 3, 2, .inl g17))] :: [(z 18, .inl (T 3, 3, .inl g18))] :: [(z 19, .inl (T 3, 3, .inl g19))] :: [(z 20, .inl (T 3, 3, .inl g20))] :: [(z 21, .inl (T 3, 2, .inl g21))] :: [(z 22, .inl (T 3, 5, .inl g22))] :: [(z 23, .inl (T 3, 5, .inl g23))] :: [(z 24, .inl (T 3, 5, .inl g24))] :: [(z 25, .inl (T 3, 4, .inl g25))] :: [(z 26, .inl (T 3, 3, .inl g26))] :: [(z 27, .inl (T 3, 6, .inl g27))] :: [(z 28, .inl (T 3, 3, .inl g28))] :: [(z 29, .inl (T 3, 3, .inl g29))] :: [(z 31, .inl (T 0, 2, .inl g31))] :: [(z 32, .inl (T 1, 8, .inr (.inl g32)))] :: [(z 33, .inl (T 0, 16, .inl g33))] :: [(z 34, .inl (T 0, 16, .inl g34))] :: [(z 35, .inl (T 0, 16, .inl g35))] :: [(z 36, .inl (T 0, 16, .inl g36))] :: [(z 37, .inl (T 0, 2, .inl g37))] :: [(z 38, .inl (T 0, 48, .inl g38))] :: [(z 39, .inl (T 0, 48, .inl g39))] :: [(z 40, .inl (T 0, 48, .inl g40))] :: [(z 41, .inl (T 0, 48, .inl g41))] :: [(z 42, .inl (T 0, 1400, .inl g42))] :: [(z 44, .inl (T 0, 800, .inl g44))] :: [(z 52, .inl (T 0, 121, .inl g52))] :: [(z 53, .inl (T 0, 121, .inl g53))] :: [(z 54, .inl (T 0, 121, .inl g54))] :: [(z 55, .inl (T 0, 121, .inl g55))] :: [(z 56, .inl (T 0, 121, .inl g56))] :: [(z 57, .inl (T 0, 121, .inl g57))] :: [(z 60, .inl (T 0, 64, .inl g60))] :: [(z 61, .inl (T 0, 64, .inl g61))] :: [(z 62, .inl (T 0, 64, .inl g62))] :: [(z 63, .inl (T 0, 64, .inl g63))] :: [(z 64, .inl (T 0, 64, .inl g64))] :: [(z 66, .inl (T 1, 1200, .inr (.inl g66)))] :: [(z 67, .inl (T 1, 800, .inr (.inl g67)))] :: [(z 70, .inl (T 1, 66, .inr (.inl g70)))] :: [(z 71, .inl (T 4, 64, .inl g71))] :: [(z 73, .inl (T 0, 64, .inl g73))] :: [(z 74, .inl (T 0, 64, .inl g74))] :: [(z 75, .inl (T 0, 64, .inl g75))] :: [(z 76, .inl (T 0, 64, .inl g76))] :: [(z 77, .inl (T 0, 64, .inl g77))] :: [(z 79, .inl (T 0, 64, .inl g79))] :: [(z 83, .inl (T 0, 64, .inl g83))] :: [(z 84, .inl (T 0, 64, .inl g84))] :: [(z 85, .inl (T 0, 64, .inl g85))] :: [(z 86, .inl (T 0, 64, .inl g86))] :: [(z 88, .inl (T 0, 64, .inl g88))] :: [(z 89, .inl (T 1, 64, .inr (.inl g89)))] :: [(z 90, .inl (T 0, 64, .inl g90))] :: [(z 91, .inl (T 0, 64, .inl g91))] :: [(z 93, .inl (T 0, 8, .inl g93))] :: [(z 94, .inl (T 0, 8, .inl g94))] :: [(z 95, .inl (T 0, 8, .inl g95))] :: [(z 97, .inl (T 0, 12, .inl g97))] :: [(z 98, .inl (T 0, 12, .inl g98))] :: [(z 99, .inl (T 0, 12, .inl g99))] :: [(z 101, .inl (T 0, 8, .inl g101))] :: [(z 102, .inl (T 0, 8, .inl g102))] :: []))
theorem b10_head {T : Nat → ClassId} {a0 a1 a2 a3 a4 a5 a6 a7 a8 a9 a10 a11 : Nat} {w : va_W} (h : B_X10 T a0 a1 a2 a3 a4 a5 a6 a7 a8 a9 a10 a11 w) : ∃ fs, w = [(a0, .inr (10, fs))] := by
  obtain ⟨v0, v1, v2, v3, h, _⟩ := h
  exact ⟨_, h⟩
