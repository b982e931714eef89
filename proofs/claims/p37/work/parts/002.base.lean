def TB : List Cond := lw_tbl.filter goodWord
theorem tb_in : ∀ w ∈ TB, w ∈ lw_tbl := fun w h => (List.mem_filter.mp h).1
theorem tb_t {w : Cond} (i : Nat) (h : tables_1[i]? = some w) (g : goodWord w = true) : w ∈ TB := List.mem_filter.mpr ⟨List.mem_append_right _ (List.mem_of_getElem? h), g⟩
theorem tb_p {w : Cond} (i : Nat) (h : (k2_sels lw_privs)[i]? = some w) (g : goodWord w = true) : w ∈ TB := List.mem_filter.mpr ⟨List.mem_append_left _ (List.mem_of_getElem? h), g⟩
theorem tb_goodIn {Ts ws : List Cond} (h : ∀ w ∈ ws, w ∈ TB) (h2 : ∀ w ∈ TB, w ∈ Ts) : GoodIn Ts ws := fun w hw => ⟨h2 w (h w hw), good_of_word (List.mem_filter.mp (h w hw)).2⟩
abbrev TYS (T : Nat → ClassId) : List (ClassId × FieldType) := [(T 0, .int), (T 1, .long), (T 2, .byte), (T 3, .char), (T 4, .boolean)]
def NW (U : State) : Prop := va_Nw (.methodLinkNest RX10 11 yX9_init "HookBoard") U ∧ va_Nw (.methodLinkNest RX10 18 yX0_init "HookBoard") U ∧ va_Nw (.methodLinkNest RX10 25 yX2_init "HookBoard") U ∧ va_Nw (.methodLinkNest RX10 32 yX3_init "HookBoard") U ∧ va_Nw (.methodLinkNest RX10 39 yX1_init "HookBoard") U ∧ va_Nw (.methodLinkNest RX10 46 yX6_init "HookBoard") U ∧ va_Nw (.methodLinkNest RX10 53 yX5_init "HookBoard") U ∧ va_Nw (.methodLinkNest RX10 60 yX4_init "HookBoard") U ∧ va_Nw (.methodLinkNest RX10 67 yX8_init "HookBoard") U ∧ va_Nw (.methodLinkNest RX2 34 yX1_init "HookBoard") U ∧ va_Nw (.methodLinkNest RX2 41 yX6_init "HookBoard") U ∧ va_Nw (.methodLinkNest RX2 133 yX10_clamp "HookBoard") U
theorem NW.warm {s U : State} (hW : s.WarmedH U.vm) (h : NW s) : NW U := ⟨va_Nw.warmM hW h.1, va_Nw.warmM hW h.2.1, va_Nw.warmM hW h.2.2.1, va_Nw.warmM hW h.2.2.2.1, va_Nw.warmM hW h.2.2.2.2.1, va_Nw.warmM hW h.2.2.2.2.2.1, va_Nw.warmM hW h.2.2.2.2.2.2.1, va_Nw.warmM hW h.2.2.2.2.2.2.2.1, va_Nw.warmM hW h.2.2.2.2.2.2.2.2.1, va_Nw.warmM hW h.2.2.2.2.2.2.2.2.2.1, va_Nw.warmM hW h.2.2.2.2.2.2.2.2.2.2.1, va_Nw.warmM hW h.2.2.2.2.2.2.2.2.2.2.2⟩
theorem NW.same {s U : State} (hW : s.vm = U.vm) (h : NW s) : NW U := ⟨va_Nw.same rfl hW h.1, va_Nw.same rfl hW h.2.1, va_Nw.same rfl hW h.2.2.1, va_Nw.same rfl hW h.2.2.2.1, va_Nw.same rfl hW h.2.2.2.2.1, va_Nw.same rfl hW h.2.2.2.2.2.1, va_Nw.same rfl hW h.2.2.2.2.2.2.1, va_Nw.same rfl hW h.2.2.2.2.2.2.2.1, va_Nw.same rfl hW h.2.2.2.2.2.2.2.2.1, va_Nw.same rfl hW h.2.2.2.2.2.2.2.2.2.1, va_Nw.same rfl hW h.2.2.2.2.2.2.2.2.2.2.1, va_Nw.same rfl hW h.2.2.2.2.2.2.2.2.2.2.2⟩
def EV (D : va_G) (T : Nat → ClassId) (U : State) : Prop := va_K D vwCl (TYS T) U ∧ NW U
theorem EV.warm {D : va_G} {T : Nat → ClassId} {s U : State} (hW : s.WarmedH U.vm) (h : EV D T s) : EV D T U := ⟨va_K.moved hW.alike h.1, h.2.warm hW⟩
theorem EV.call {D : va_G} {T : Nat → ClassId} {U : State} {g : JFrame} {mk : MethodId} {a : Array Value} (h : EV D T U) : EV D T (U.calling g mk a) := ⟨va_K.moved (u := U) (U := U.calling g mk a) (Vm.Alike.refl U.vm) h.1, NW.same (s := U) (U := U.calling g mk a) rfl h.2⟩
abbrev PC (D : va_G) (T : Nat → ClassId) (av : List Value) (ws : va_W) (sz : Nat) : Array Value → State → Prop := va_Pc av (fun U => U.heap.size = sz ∧ va_P D vwCl ws U.heap ∧ EV D T U ∧ va_D (fun _ => True) ws)
theorem PC.blind {D : va_G} {T : Nat → ClassId} {av : List Value} {ws : va_W} {sz : Nat} : FrameBlind (PC D T av ws sz) := fun a U g mk q => by
  obtain ⟨q0, q1, qP, qE, qD⟩ := q
  exact ⟨q0, q1, qP, EV.call qE, qD⟩
theorem PC.at {D : va_G} {T : Nat → ClassId} {av : List Value} {ws : va_W} {s : State} {H : Heap} {A : Nat → Prop} (hE : EV D T s) (hP : va_P D vwCl ws H) (hD : va_D A ws) : ∀ U : State, U.heap = H → s.WarmedH U.vm → PC D T av ws H.size av.toArray U :=
  fun U hU hW => ⟨rfl, by rw [hU], by rw [hU]; exact hP, hE.warm hW, hD.weaken (fun _ _ _ _ => trivial)⟩
abbrev WO (D : va_G) (A : Nat → Prop) (ws : va_W) (t : State) : Prop := va_P D vwCl ws t.heap ∧ va_D A ws
abbrev Qi {S : Type} (post : Int32 → S → Prop) (out : S → va_W) (D : va_G) (A : Nat → Prop) : Array Value → State → Outcome → State → Prop := va_Qi post (fun u t => WO D A (out u) t) A
abbrev Ql {S : Type} (post : Int64 → S → Prop) (out : S → va_W) (D : va_G) (A : Nat → Prop) : Array Value → State → Outcome → State → Prop := va_Ql post (fun u t => WO D A (out u) t) A
abbrev Qv {S : Type} (out : S → va_W) (D : va_G) (A : Nat → Prop) : Array Value → State → Outcome → State → Prop := va_Qv (fun _ => True) (fun u t => WO D A (out u) t) A
abbrev Qr {S : Type} (ad : S → Nat) (out : S → va_W) (D : va_G) (A : Nat → Prop) : Array Value → State → Outcome → State → Prop := va_Qr (fun _ => True) (fun u a t => a = ad u ∧ WO D A (out u) t) A
theorem ct_begin {l : Launch} {y : MethodName} {cc : ByteArray} {maxL : Nat} {ret : Option FieldType} {rm : Room} {D : va_G} {T : Nat → ClassId} {av : List Value} {ws : va_W} {sz : Nat} {Qc : (Nat → Prop) → Array Value → State → Outcome → State → Prop} {mc ms : Nat} (hy : plainName y.cls = true) (hlen : (lg_sl av).length ≤ maxL)
    (body : ∀ (p : Program) (e : Env) (s : State) (m : MethodId) (below : List Frame) (meth : Method) (c : Code) (A : Nat → Prop) (ls : Array Slot), CallFix p m c cc maxL s av.toArray TB y.cls → meth.sig.returnType = ret → meth.locks = false → meth.name = y.name → EV D T s → (∀ q, s.heap.size ≤ q → A q) → va_P D vwCl ws s.heap → va_D A ws → va_S A s.heap s.heap [] → lv_has ls maxL (lv_args 0 av) →
      W p l e rm s m av.toArray below meth c s.heap [] 0 0 (MQ below (Qc A) av.toArray s mc ms A) (F0 m 0 ls [])) : Met l y (.code y cc maxL ret :: TB) rm (PC D T av ws sz) (Qc (va_A ws sz)) mc ms (va_A ws sz) := by
  refine Met.ofW (cc := cc) (maxL := maxL) (ret := ret) hy rfl ?_
  intro p e s m args below meth c s₁ B hml hv
  obtain ⟨rfl, hsz, hP, hE, hD0⟩ := hv
  have hts := atoms_spec (ws := .code y cc maxL ret :: TB) B.pre
  have hown : s.vm.findClass y.cls = some m.cls := findClass_of_methodNamed B.named
  have hl := lv_entry av (n := maxL) hlen
  rw [lg_entry_eq]
  refine body p e s m below meth c (va_A ws sz) _ ⟨B.exec, B.bytes, hml, hown, fun w hw => hts w (List.mem_cons_of_mem _ hw)⟩ B.returns B.notSynchronized (name_of_methodNamed B.named B.method).1 hE ?_ hP (hD0.self (sz := sz)) va_S.rf hl
  intro q hq
  exact Or.inr (by rw [← hsz]; exact hq)
section BS
variable {p : Program} {l : Launch} {e : Env} {R : Room} {s : State} {m : MethodId} {args : Array Value} {below : List Frame} {meth : Method} {c : Code} {H : Heap} {locs : List Loc} {cells slots : Nat} {Q : State → Prop} {D : va_G} {T : Nat → ClassId} {A : Nat → Prop} {ws wc wr : va_W} {cc cb : ByteArray} {nL maxL pc mc ms n index : Nat} {ls : Array Slot} {rest st0 As : List Value} {own C : String} {y : MethodName} {ret : Option FieldType} {rm : Room} {a : Array Value}
theorem r_ci {x v : Int32} (h : x = v) (k : W p l e R s m args below meth c H locs cells slots Q (F0 m pc ls (.int v :: rest))) : W p l e R s m args below meth c H locs cells slots Q (F0 m pc ls (.int x :: rest)) := h ▸ k
theorem r_cl {x v : Int64} (h : x = v) (k : W p l e R s m args below meth c H locs cells slots Q (F0 m pc ls (.long v :: rest))) : W p l e R s m args below meth c H locs cells slots Q (F0 m pc ls (.long x :: rest)) := h ▸ k
theorem r_iret {S : Type} {post : Int32 → S → Prop} {out : S → va_W} {v : Int32} {mc ms : Nat} {pc : Nat} {ls : Array Slot} (u : S) (C0 : CallFix p m c cc nL s args TB own) (hr : meth.sig.returnType = some .int) (hlocks : meth.locks = false) (hS : va_S A s.heap H locs) (h1 : cells ≤ mc) (h2 : slots ≤ ms) (hdg : decode cc pc = .ok (.ireturn, 1)) (hq : post v u) (hP : va_P D vwCl (out u) H) (hD : va_D A (out u)) :
    W p l e R s m args below meth c H locs cells slots (MQ below (Qi post out D A) args s mc ms A) (F0 m pc ls [.int v]) := by
  refine W.widen (k := mc) (n := ms) h1 h2 ?_
  exact W.iret C0.1 C0.2.1 hr (fun t ht hW => ⟨⟨v, u, rfl, hq, by rw [ht]; exact hP, hD⟩, hS.F ht⟩) hS.2.2 hdg hlocks
theorem r_zret {S : Type} {post : Int32 → S → Prop} {out : S → va_W} {v : Int32} {mc ms : Nat} {pc : Nat} {ls : Array Slot} {ty : FieldType} (u : S) (C0 : CallFix p m c cc nL s args TB own) (hr : meth.sig.returnType = some ty) (hn : narrow ty (.int v) = .int v) (hlocks : meth.locks = false) (hS : va_S A s.heap H locs) (h1 : cells ≤ mc) (h2 : slots ≤ ms) (hdg : decode cc pc = .ok (.ireturn, 1)) (hq : post v u) (hP : va_P D vwCl (out u) H) (hD : va_D A (out u)) :
    W p l e R s m args below meth c H locs cells slots (MQ below (Qi post out D A) args s mc ms A) (F0 m pc ls [.int v]) := by
  refine W.widen (k := mc) (n := ms) h1 h2 ?_
  exact W.zret C0.1 C0.2.1 hr hn (fun t ht hW => ⟨⟨v, u, rfl, hq, by rw [ht]; exact hP, hD⟩, hS.F ht⟩) hS.2.2 hdg hlocks
theorem r_lret {S : Type} {post : Int64 → S → Prop} {out : S → va_W} {v : Int64} {mc ms : Nat} {pc : Nat} {ls : Array Slot} (u : S) (C0 : CallFix p m c cc nL s args TB own) (hr : meth.sig.returnType = some .long) (hlocks : meth.locks = false) (hS : va_S A s.heap H locs) (h1 : cells ≤ mc) (h2 : slots ≤ ms) (hdg : decode cc pc = .ok (.lreturn, 1)) (hq : post v u) (hP : va_P D vwCl (out u) H) (hD : va_D A (out u)) :
    W p l e R s m args below meth c H locs cells slots (MQ below (Ql post out D A) args s mc ms A) (F0 m pc ls [.long v]) := by
  refine W.widen (k := mc) (n := ms) h1 h2 ?_
  exact W.lret C0.1 C0.2.1 hr (fun t ht hW => ⟨⟨v, u, rfl, hq, by rw [ht]; exact hP, hD⟩, hS.F ht⟩) hS.2.2 hdg hlocks
theorem r_vret {S : Type} {out : S → va_W} {mc ms : Nat} {pc : Nat} {ls : Array Slot} (u : S) (C0 : CallFix p m c cc nL s args TB own) (hr : meth.sig.returnType = none) (hlocks : meth.locks = false) (hS : va_S A s.heap H locs) (h1 : cells ≤ mc) (h2 : slots ≤ ms) (hdg : decode cc pc = .ok (.return_, 1)) (hP : va_P D vwCl (out u) H) (hD : va_D A (out u)) :
    W p l e R s m args below meth c H locs cells slots (MQ below (Qv out D A) args s mc ms A) (F0 m pc ls []) := by
  refine W.widen (k := mc) (n := ms) h1 h2 ?_
  exact W.vret C0.1 C0.2.1 hr (fun t ht hW => ⟨⟨u, rfl, trivial, by rw [ht]; exact hP, hD⟩, hS.F ht⟩) hS.2.2 hdg hlocks
theorem r_aret {S : Type} {ad : S → Nat} {out : S → va_W} {mc ms : Nat} {pc b : Nat} {ls : Array Slot} {cn : String} (u : S) (C0 : CallFix p m c cc nL s args TB own) (hr : meth.sig.returnType = some (.object cn)) (hlocks : meth.locks = false) (hS : va_S A s.heap H locs) (h1 : cells ≤ mc) (h2 : slots ≤ ms) (hdg : decode cc pc = .ok (.areturn, 1)) (ha : b = ad u) (hP : va_P D vwCl (out u) H) (hD : va_D A (out u)) :
    W p l e R s m args below meth c H locs cells slots (MQ below (Qr ad out D A) args s mc ms A) (F0 m pc ls [.ref b]) := by
  refine W.widen (k := mc) (n := ms) h1 h2 ?_
  exact W.aret C0.1 C0.2.1 hr (Or.inl ⟨_, rfl⟩) (Or.inr ⟨_, rfl⟩) (fun t ht hW => ⟨⟨u, b, rfl, trivial, ha, by rw [ht]; exact hP, hD⟩, hS.F ht⟩) hS.2.2 hdg hlocks
/-- the words of a call -/
theorem r_wV {Ts : List Cond} (h2 : ∀ w ∈ TB, w ∈ Ts) (w1 : Cond.methodLink own index y ∈ TB) (w2 : Cond.instanceMethod y ∈ TB) (w3 : Cond.selects C y y ∈ TB) (w4 : Cond.initialized C ∈ TB) (w5 : Cond.code y cb maxL ret ∈ TB) : GoodIn Ts (wsV own index C y (.code y cb maxL ret :: TB)) := tb_goodIn (fun w h => by
  simp only [wsV, List.mem_append, List.mem_cons, List.not_mem_nil, or_false] at h
  rcases h with (rfl | rfl | rfl | rfl) | rfl | h
  · exact w1
  · exact w2
  · exact w3
  · exact w4
  · exact w5
  · exact h) h2
theorem r_wS {Ts : List Cond} (h2 : ∀ w ∈ TB, w ∈ Ts) (w1 : Cond.methodLink own index y ∈ TB) (w2 : Cond.static y ∈ TB) (w4 : Cond.initialized y.cls ∈ TB) (w5 : Cond.code y cb maxL ret ∈ TB) : GoodIn Ts (va_wsS own index y (.code y cb maxL ret :: TB)) := tb_goodIn (fun w h => by
  simp only [va_wsS, List.mem_append, List.mem_cons, List.not_mem_nil, or_false] at h
  rcases h with (rfl | rfl | rfl) | rfl | h
  · exact w1
  · exact w2
  · exact w4
  · exact w5
  · exact h) h2
theorem r_wI {Ts : List Cond} (h2 : ∀ w ∈ TB, w ∈ Ts) (w5 : Cond.code y cb maxL ret ∈ TB) : GoodIn Ts (.code y cb maxL ret :: TB) := tb_goodIn (fun w h => by
  simp only [List.mem_cons] at h
  rcases h with rfl | h
  · exact w5
  · exact h) h2
abbrev DescN (y : MethodName) (n : Nat) : Prop := y.cls ≠ "java/lang/invoke/MethodHandle" ∧ y.cls ≠ "java/lang/invoke/VarHandle" ∧ (parseMethodDescriptor y.desc).map (fun d => d.parameters.length) = some n
theorem r_runV {Qc : Array Value → State → Outcome → State → Prop} {b ci : Nat} {fs : List Value} {q : vw_C} (C0 : CallFix p m c cc nL s args TB own) (hE : EV D T s) (hM : Met l y (.code y cb maxL ret :: TB) rm (PC D T (.ref b :: As) wc H.size) Qc mc ms (va_A wc H.size))
    (w1 : Cond.methodLink own index y ∈ TB) (w2 : Cond.instanceMethod y ∈ TB) (w3 : Cond.selects y.cls y y ∈ TB) (w4 : Cond.initialized y.cls ∈ TB) (w5 : Cond.code y cb maxL ret ∈ TB) (hd : DescN y As.length) (hrc : rm.cells = mc) (hrs : rm.slots = ms) (hR : rm.frames + 1 ≤ R.frames ∧ 8 + (maxL + 11) + rm.locals ≤ R.locals)
    (hP : va_P D vwCl wc H) (hD : va_D A wc) (hq : vwCl[ci]? = some q) (hqn : q.1 = y.cls) (he : wc[0]? = some (b, .inr (ci, fs))) (hsz : ls.size = nL) (hst : st0 = As.reverse ++ .ref b :: rest) (hro : (rest.map fun v => v.category).sum ≤ 8) (hdg : decode cc pc = .ok (.invokevirtual index, 3)) (hf : cells + mc ≤ R.cells ∧ slots + ms ≤ R.slots) :
    va_Run p l e R s m args below meth c H locs cells slots mc ms (F0 m pc ls st0) rest (Qc (Value.ref b :: As).toArray) (va_A wc H.size) :=
  va_runV (C := y.cls) (b := b) (As := As) C0 hM (cwV As.length C0.2.2.2.2 (r_wV (fun _ h => h) w1 w2 w3 w4 w5) rfl hrc hrs ⟨rfl, hd⟩ hR) ⟨PC.blind, (by rw [← hqn]; exact va_recv hE.1 hP (ci := ci) (q0 := 0) hq he), PC.at hE hP hD⟩ rfl rfl hsz hst (lv_room hro) hdg hf
theorem r_runS {Qc : Array Value → State → Outcome → State → Prop} (C0 : CallFix p m c cc nL s args TB own) (hE : EV D T s) (hM : Met l y (.code y cb maxL ret :: TB) rm (PC D T As wc H.size) Qc mc ms (va_A wc H.size))
    (w1 : Cond.methodLink own index y ∈ TB) (w2 : Cond.static y ∈ TB) (w4 : Cond.initialized y.cls ∈ TB) (w5 : Cond.code y cb maxL ret ∈ TB) (hd : DescN y As.length) (hrc : rm.cells = mc) (hrs : rm.slots = ms) (hR : rm.frames + 1 ≤ R.frames ∧ 8 + (maxL + 11) + rm.locals ≤ R.locals)
    (hP : va_P D vwCl wc H) (hD : va_D A wc) (hsz : ls.size = nL) (hst : st0 = As.reverse ++ rest) (hro : (rest.map fun v => v.category).sum ≤ 8) (hdg : decode cc pc = .ok (.invokestatic index, 3)) (hf : cells + mc ≤ R.cells ∧ slots + ms ≤ R.slots) :
    va_Run p l e R s m args below meth c H locs cells slots mc ms (F0 m pc ls st0) rest (Qc As.toArray) (va_A wc H.size) :=
  va_runS (As := As) C0 hM (va_cwS As.length C0.2.2.2.2 (r_wS (fun _ h => h) w1 w2 w4 w5) rfl hrc hrs hd hR) ⟨PC.blind, PC.at hE hP hD⟩ rfl rfl hsz hst (lv_room hro) hdg hf
theorem r_runI {Qc : Array Value → State → Outcome → State → Prop} {b : Nat} (C0 : CallFix p m c cc nL s args TB own) (hE : EV D T s) (hM : Met l y (.code y cb maxL none :: TB) rm (PC D T (.ref b :: As) wc H.size) Qc mc ms (va_A wc H.size))
    (w1 : Cond.methodLink own index y ∈ TB) (w2 : Cond.instanceMethod y ∈ TB) (w4 : Cond.initialized y.cls ∈ TB) (w5 : Cond.code y cb maxL none ∈ TB) (hin : y.name = "<init>") (hd : DescN y As.length) (hrc : rm.cells = mc) (hrs : rm.slots = ms) (hR : rm.frames + 1 ≤ R.frames ∧ 8 + (maxL + 11) + rm.locals ≤ R.locals)
    (hP : va_P D vwCl wc H) (hD : va_D A wc) (hsz : ls.size = nL) (hst : st0 = As.reverse ++ .ref b :: rest) (hro : (rest.map fun v => v.category).sum ≤ 8) (hdg : decode cc pc = .ok (.invokespecial index, 3)) (hf : cells + mc ≤ R.cells ∧ slots + ms ≤ R.slots) :
    va_Run p l e R s m args below meth c H locs cells slots mc ms (F0 m pc ls st0) rest (Qc (Value.ref b :: As).toArray) (va_A wc H.size) :=
  va_runI (b := b) (As := As) C0 hM (cwI As.length C0.2.2.2.2 (r_wI (fun _ h => h) w5) rfl hrc hrs (C0.2.2.2.2 _ w4) (C0.2.2.2.2 _ w1) (C0.2.2.2.2 _ w2) hin hd hR) ⟨PC.blind, PC.at hE hP hD⟩ rfl rfl hsz hst (lv_room hro) hdg hf
theorem r_runIN {Qc : Array Value → State → Outcome → State → Prop} {b : Nat} {host : String} (C0 : CallFix p m c cc nL s args TB own) (hE : EV D T s) (hM : Met l y (.code y cb maxL none :: TB) rm (PC D T (.ref b :: As) wc H.size) Qc mc ms (va_A wc H.size))
    (w1 : va_Nw (.methodLinkNest own index y host) s) (w2 : Cond.instanceMethod y ∈ TB) (w4 : Cond.initialized y.cls ∈ TB) (w5 : Cond.code y cb maxL none ∈ TB) (hin : y.name = "<init>") (hd : DescN y As.length) (hrc : rm.cells = mc) (hrs : rm.slots = ms) (hR : rm.frames + 1 ≤ R.frames ∧ 8 + (maxL + 11) + rm.locals ≤ R.locals)
    (hP : va_P D vwCl wc H) (hD : va_D A wc) (hsz : ls.size = nL) (hst : st0 = As.reverse ++ .ref b :: rest) (hro : (rest.map fun v => v.category).sum ≤ 8) (hdg : decode cc pc = .ok (.invokespecial index, 3)) (hf : cells + mc ≤ R.cells ∧ slots + ms ≤ R.slots) :
    va_Run p l e R s m args below meth c H locs cells slots mc ms (F0 m pc ls st0) rest (Qc (Value.ref b :: As).toArray) (va_A wc H.size) :=
  va_runIN (b := b) (As := As) C0 hM ⟨va_cnB As.length C0.2.2.2.2 (r_wI (fun _ h => h) w5) rfl hrc hrs w1 (C0.2.2.2.2 _ w4) hd hR, hin, C0.2.2.2.2 _ w2⟩ ⟨PC.blind, PC.at hE hP hD⟩ rfl rfl hsz hst (lv_room hro) hdg hf
/-- behind a call -/
theorem r_calli {S : Type} {post : Int32 → S → Prop} {out : S → va_W} (hr : va_Run p l e R s m args below meth c H locs cells slots mc ms (F0 m pc ls st0) rest (Qi post out D (va_A wc H.size) a) (va_A wc H.size)) (hP : va_P D vwCl ws H) (hD : va_D A ws) (hS : va_S A s.heap H locs) (hA : ∀ q, s.heap.size ≤ q → A q) (isC isR : List Nat) (hC : isC.map (fun i => ws[i]?) = wc.map some) (hR : isR.map (fun i => ws[i]?) = wr.map some) (hn : va_nd isR = true) (hdis : ∀ i ∈ isR, i ∉ isC)
    (kk : ∀ (r : Int32) (u : S) (H1 : Heap) (locs1 : List Loc), post r u → va_P D vwCl (wr ++ out u) H1 → va_D A (wr ++ out u) → va_S A s.heap H1 locs1 → W p l e R s m args below meth c H1 locs1 (cells + mc) (slots + ms) Q (F0 m (pc + 3) ls (.int r :: rest))) : W p l e R s m args below meth c H locs cells slots Q (F0 m pc ls st0) := by
  have hF := va_free (wc := wc) hD hS hA isC hC
  refine va_calli hr hS (fun q _ h => hF q h) hF (fun r u t H1 locs1 ht hvm hw hB hz1 hk1 hS1 => ?_)
  obtain ⟨hP1, hD1⟩ := hB
  rw [ht] at hP1
  obtain ⟨hP2, hD2⟩ := va_join (wr := wr) (w1 := out u) hP hD isC isR hC hR hn hdis hk1 hF hP1 hD1
  exact kk r u H1 locs1 hw hP2 hD2 hS1
theorem r_calll {S : Type} {post : Int64 → S → Prop} {out : S → va_W} (hr : va_Run p l e R s m args below meth c H locs cells slots mc ms (F0 m pc ls st0) rest (Ql post out D (va_A wc H.size) a) (va_A wc H.size)) (hP : va_P D vwCl ws H) (hD : va_D A ws) (hS : va_S A s.heap H locs) (hA : ∀ q, s.heap.size ≤ q → A q) (isC isR : List Nat) (hC : isC.map (fun i => ws[i]?) = wc.map some) (hR : isR.map (fun i => ws[i]?) = wr.map some) (hn : va_nd isR = true) (hdis : ∀ i ∈ isR, i ∉ isC)
    (kk : ∀ (r : Int64) (u : S) (H1 : Heap) (locs1 : List Loc), post r u → va_P D vwCl (wr ++ out u) H1 → va_D A (wr ++ out u) → va_S A s.heap H1 locs1 → W p l e R s m args below meth c H1 locs1 (cells + mc) (slots + ms) Q (F0 m (pc + 3) ls (.long r :: rest))) : W p l e R s m args below meth c H locs cells slots Q (F0 m pc ls st0) := by
  have hF := va_free (wc := wc) hD hS hA isC hC
  refine va_calll hr hS (fun q _ h => hF q h) hF (fun r u t H1 locs1 ht hvm hw hB hz1 hk1 hS1 => ?_)
  obtain ⟨hP1, hD1⟩ := hB
  rw [ht] at hP1
  obtain ⟨hP2, hD2⟩ := va_join (wr := wr) (w1 := out u) hP hD isC isR hC hR hn hdis hk1 hF hP1 hD1
  exact kk r u H1 locs1 hw hP2 hD2 hS1
theorem r_callv {S : Type} {out : S → va_W} (hr : va_Run p l e R s m args below meth c H locs cells slots mc ms (F0 m pc ls st0) rest (Qv out D (va_A wc H.size) a) (va_A wc H.size)) (hP : va_P D vwCl ws H) (hD : va_D A ws) (hS : va_S A s.heap H locs) (hA : ∀ q, s.heap.size ≤ q → A q) (isC isR : List Nat) (hC : isC.map (fun i => ws[i]?) = wc.map some) (hR : isR.map (fun i => ws[i]?) = wr.map some) (hn : va_nd isR = true) (hdis : ∀ i ∈ isR, i ∉ isC)
    (kk : ∀ (u : S) (H1 : Heap) (locs1 : List Loc), va_P D vwCl (wr ++ out u) H1 → va_D A (wr ++ out u) → va_S A s.heap H1 locs1 → W p l e R s m args below meth c H1 locs1 (cells + mc) (slots + ms) Q (F0 m (pc + 3) ls rest)) : W p l e R s m args below meth c H locs cells slots Q (F0 m pc ls st0) := by
  have hF := va_free (wc := wc) hD hS hA isC hC
  refine va_callv hr hS (fun q _ h => hF q h) hF (fun u t H1 locs1 ht hvm hw hB hz1 hk1 hS1 => ?_)
  obtain ⟨hP1, hD1⟩ := hB
  rw [ht] at hP1
  obtain ⟨hP2, hD2⟩ := va_join (wr := wr) (w1 := out u) hP hD isC isR hC hR hn hdis hk1 hF hP1 hD1
  exact kk u H1 locs1 hP2 hD2 hS1
theorem r_callr {S : Type} {ad : S → Nat} {out : S → va_W} (hr : va_Run p l e R s m args below meth c H locs cells slots mc ms (F0 m pc ls st0) rest (Qr ad out D (va_A wc H.size) a) (va_A wc H.size)) (hP : va_P D vwCl ws H) (hD : va_D A ws) (hS : va_S A s.heap H locs) (hA : ∀ q, s.heap.size ≤ q → A q) (isC isR : List Nat) (hC : isC.map (fun i => ws[i]?) = wc.map some) (hR : isR.map (fun i => ws[i]?) = wr.map some) (hn : va_nd isR = true) (hdis : ∀ i ∈ isR, i ∉ isC)
    (kk : ∀ (u : S) (H1 : Heap) (locs1 : List Loc), va_P D vwCl (wr ++ out u) H1 → va_D A (wr ++ out u) → va_S A s.heap H1 locs1 → W p l e R s m args below meth c H1 locs1 (cells + mc) (slots + ms) Q (F0 m (pc + 3) ls (.ref (ad u) :: rest))) : W p l e R s m args below meth c H locs cells slots Q (F0 m pc ls st0) := by
  have hF := va_free (wc := wc) hD hS hA isC hC
  refine va_callr hr hS (fun q _ h => hF q h) hF (fun u ra t H1 locs1 ht hvm hw hB hz1 hk1 hS1 => ?_)
  obtain ⟨hra, hP1, hD1⟩ := hB
  subst hra
  rw [ht] at hP1
  obtain ⟨hP2, hD2⟩ := va_join (wr := wr) (w1 := out u) hP hD isC isR hC hR hn hdis hk1 hF hP1 hD1
  exact kk u H1 locs1 hP2 hD2 hS1
/-- a new array of a primitive kind, its class the one that is known -/
theorem r_newa (C0 : CallFix p m c cc nL s args TB own) (hE : EV D T s) {atype : ArrayType} {ty : FieldType} (w : Cond.arrayClass (newarray.typeOf atype) ∈ TB) (hty : newarray.typeOf atype = ty) (t0 : Nat) {cT : ClassId} (ht : (TYS T)[t0]? = some (cT, ty)) (hra : ∀ cA : ClassId, va_RA s cA ty → s.vm.findClass ("[" ++ ty.toString) = some cA)
    (hP : va_P D vwCl ws H) (hD : va_D A ws) (hS : va_S A s.heap H locs) (hA : ∀ q, s.heap.size ≤ q → A q) {n : Int32} {N' : Nat} {a0 : vp_A} (ha : ∀ cA : ClassId, vp_cell cA a0 = arrV cA N' (fun _ => defaultValue ty)) (hn : ¬ n < 0) (hN : n.toNatClampNeg = N') (hbytes : N' * componentBytes ty ≤ 536870912) (hcells : cells + 1 ≤ R.cells) (hslots : slots + N' ≤ R.slots) (hdg : decode cc pc = .ok (.newarray atype, 2))
    (kk : ∀ (q : Nat) (H1 : Heap), va_P D vwCl (ws ++ [(q, .inl (cT, a0))]) H1 → va_D A (ws ++ [(q, .inl (cT, a0))]) → va_S A s.heap H1 locs → W p l e R s m args below meth c H1 locs (cells + 1) (slots + N') Q (F0 m (pc + 2) ls (.ref q :: rest))) : W p l e R s m args below meth c H locs cells slots Q (F0 m pc ls (.int n :: rest)) := by
  refine va_newa C0.1 C0.2.1 (C0.2.2.2.2 _ w) hty hE.1 hP hD hS hA ha hn hN hbytes hcells hslots hdg (fun q cA H1 hK1 hP1 hD1 hS1 => ?_)
  have e1 := hra cA (hK1.2 (TYS T).length (cA, ty) (by simp)).2
  have e2 := hra cT (hE.1.2 t0 (cT, ty) ht).2
  have e3 : cA = cT := Option.some.inj (e1.symm.trans e2)
  subst e3
  exact kk q H1 hP1 hD1 hS1
/-- stores whose content nobody asks for -/
theorem r_iastO (hexec : p.tables.exec = Jvm.exec) (hb : c.code = cc) (hK : va_K D vwCl (TYS T) s) (hP : va_P D vwCl ws H) (hD : va_D A ws) (hS : va_S A s.heap H locs) (q0 : Nat) {b : Nat} {n : Nat} {f : Nat → Int32} (ha : ws[q0]? = some (b, .inl (T 0, n, .inl f))) {i : Int32} {x : Int32} (hin : vp_in i n) (hdg : decode cc pc = .ok (.iastore, 1))
    (kk : ∀ (f' : Nat → Int32) (H1 : Heap) (locs1 : List Loc), va_P D vwCl (ws.set q0 (b, .inl (T 0, n, .inl f'))) H1 → va_D A (ws.set q0 (b, .inl (T 0, n, .inl f'))) → va_S A s.heap H1 locs1 → W p l e R s m args below meth c H1 locs1 cells slots Q (F0 m (pc + 1) ls rest)) : W p l e R s m args below meth c H locs cells slots Q (F0 m pc ls (.int x :: .int i :: .ref b :: rest)) :=
  va_iast hexec hb hK hP hD hS q0 0 ha rfl hin hdg (kk _)
theorem r_bastO (hexec : p.tables.exec = Jvm.exec) (hb : c.code = cc) (hK : va_K D vwCl (TYS T) s) (hP : va_P D vwCl ws H) (hD : va_D A ws) (hS : va_S A s.heap H locs) (q0 : Nat) {b : Nat} {n : Nat} {f : Nat → Int32} (ha : ws[q0]? = some (b, .inl (T 2, n, .inl f))) {i : Int32} {x : Int32} (hin : vp_in i n) (hdg : decode cc pc = .ok (.bastore, 1))
    (kk : ∀ (f' : Nat → Int32) (H1 : Heap) (locs1 : List Loc), va_P D vwCl (ws.set q0 (b, .inl (T 2, n, .inl f'))) H1 → va_D A (ws.set q0 (b, .inl (T 2, n, .inl f'))) → va_S A s.heap H1 locs1 → W p l e R s m args below meth c H1 locs1 cells slots Q (F0 m (pc + 1) ls rest)) : W p l e R s m args below meth c H locs cells slots Q (F0 m pc ls (.int x :: .int i :: .ref b :: rest)) :=
  va_bast hexec hb hK hP hD hS q0 2 ha rfl hin hdg (kk _)
theorem r_castO (hexec : p.tables.exec = Jvm.exec) (hb : c.code = cc) (hK : va_K D vwCl (TYS T) s) (hP : va_P D vwCl ws H) (hD : va_D A ws) (hS : va_S A s.heap H locs) (q0 : Nat) {b : Nat} {n : Nat} {f : Nat → Int32} (ha : ws[q0]? = some (b, .inl (T 3, n, .inl f))) {i : Int32} {x : Int32} (hin : vp_in i n) (hdg : decode cc pc = .ok (.castore, 1))
    (kk : ∀ (f' : Nat → Int32) (H1 : Heap) (locs1 : List Loc), va_P D vwCl (ws.set q0 (b, .inl (T 3, n, .inl f'))) H1 → va_D A (ws.set q0 (b, .inl (T 3, n, .inl f'))) → va_S A s.heap H1 locs1 → W p l e R s m args below meth c H1 locs1 cells slots Q (F0 m (pc + 1) ls rest)) : W p l e R s m args below meth c H locs cells slots Q (F0 m pc ls (.int x :: .int i :: .ref b :: rest)) :=
  va_cast hexec hb hK hP hD hS q0 3 ha rfl hin hdg (kk _)
theorem r_zastO (hexec : p.tables.exec = Jvm.exec) (hb : c.code = cc) (hK : va_K D vwCl (TYS T) s) (hP : va_P D vwCl ws H) (hD : va_D A ws) (hS : va_S A s.heap H locs) (q0 : Nat) {b : Nat} {n : Nat} {f : Nat → Int32} (ha : ws[q0]? = some (b, .inl (T 4, n, .inl f))) {i : Int32} {x : Int32} (hin : vp_in i n) (hdg : decode cc pc = .ok (.bastore, 1))
    (kk : ∀ (f' : Nat → Int32) (H1 : Heap) (locs1 : List Loc), va_P D vwCl (ws.set q0 (b, .inl (T 4, n, .inl f'))) H1 → va_D A (ws.set q0 (b, .inl (T 4, n, .inl f'))) → va_S A s.heap H1 locs1 → W p l e R s m args below meth c H1 locs1 cells slots Q (F0 m (pc + 1) ls rest)) : W p l e R s m args below meth c H locs cells slots Q (F0 m pc ls (.int x :: .int i :: .ref b :: rest)) :=
  va_zast hexec hb hK hP hD hS q0 4 ha rfl hin hdg (kk _)
theorem r_lastO (hexec : p.tables.exec = Jvm.exec) (hb : c.code = cc) (hK : va_K D vwCl (TYS T) s) (hP : va_P D vwCl ws H) (hD : va_D A ws) (hS : va_S A s.heap H locs) (q0 : Nat) {b : Nat} {n : Nat} {f : Nat → Int64} (ha : ws[q0]? = some (b, .inl (T 1, n, .inr (.inl f)))) {i : Int32} {x : Int64} (hin : vp_in i n) (hdg : decode cc pc = .ok (.lastore, 1))
    (kk : ∀ (f' : Nat → Int64) (H1 : Heap) (locs1 : List Loc), va_P D vwCl (ws.set q0 (b, .inl (T 1, n, .inr (.inl f')))) H1 → va_D A (ws.set q0 (b, .inl (T 1, n, .inr (.inl f')))) → va_S A s.heap H1 locs1 → W p l e R s m args below meth c H1 locs1 cells slots Q (F0 m (pc + 1) ls rest)) : W p l e R s m args below meth c H locs cells slots Q (F0 m pc ls (.long x :: .int i :: .ref b :: rest)) :=
  va_last hexec hb hK hP hD hS q0 1 ha rfl hin hdg (kk _)
end BS
def bi (b : Bool) : Int32 := if b = true then 1 else 0
theorem bi_z {b : Bool} (h : bi b = 0) : b = false := by cases b <;> first | rfl | exact absurd h (by decide)
theorem bi_nz {b : Bool} (h : ¬ bi b = 0) : b = true := by cases b <;> first | rfl | exact absurd rfl h
theorem bi_nar (b : Bool) : narrow .boolean (.int (bi b)) = .int (bi b) := by cases b <;> rfl
def wi (n lo hi : Int32) : Bool := decide (lo ≤ n) && decide (n ≤ hi)
def wl (n lo hi : Int64) : Bool := decide (lo ≤ n) && decide (n ≤ hi)
