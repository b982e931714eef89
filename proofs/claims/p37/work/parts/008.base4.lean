/-! the text of the OWN WORDS, where it lies, and what the JDK's statics hold -/
def STX : String := "kind stiff opens tires tears catch when or and not all is min max press shake loops lint worn row column "
def SBY : List Int32 := (107 :: 105 :: 110 :: 100 :: 32 :: 115 :: 116 :: 105 :: 102 :: 102 :: 32 :: 111 :: 112 :: 101 :: 110 :: 115 :: 32 :: 116 :: 105 :: 114 :: 101 :: 115 :: 32 :: 116 :: 101 :: 97 :: 114 :: 115 :: 32 :: 99 :: 97 :: 116 :: 99 :: 104 :: 32 :: 119 :: 104 :: 101 :: 110 :: 32 :: 111 :: 114 :: 32 :: 97 :: 110 :: 100 :: 32 :: 110 :: 111 :: 116 :: 32 :: 97 :: 108 :: 108 :: 32 :: 105 :: 115 :: 32 :: 109 :: 105 :: 110 :: 32 :: 109 :: 97 :: 120 :: 32 :: 112 :: 114 :: 101 :: 115 :: 115 :: 32 :: 115 :: 104 :: 97 :: 107 :: 101 :: 32 :: 108 :: 111 :: 111 :: 112 :: 115 :: 32 :: 108 :: 105 :: 110 :: 116 :: 32 :: 119 :: 111 :: 114 :: 110 :: 32 :: 114 :: 111 :: 119 :: 32 :: 99 :: 111 :: 108 :: 117 :: 109 :: 110 :: 32 :: [])
def SFB : Nat → Value := fun j => .int (SBY.getD j 0)
def STR (A : Nat → Prop) (sq sv : Nat) (U : State) : Prop := vk_R RX7 181 STX sq U ∧ va_O "java/lang/String" sq A U U.heap ∧ va_OF "java/lang/String" "coder" "B" (.int 0) sq A U U.heap ∧ va_OF "java/lang/String" "value" "[B" (.ref sv) sq A U U.heap ∧ va_T .byte sv 105 SFB A U U.heap ∧ va_Z "java/lang/String" "COMPACT_STRINGS" "Z" (.int 1) A U U.heap ∧ va_Zq "jdk/internal/util/Preconditions" "SIOOBE_FORMATTER" "Ljava/util/function/BiFunction;" A U U.heap
theorem STR.at {A : Nat → Prop} {sq sv : Nat} {s : State} {H : Heap} {locs : List Loc} {wc : va_W} (h : STR A sq sv s) (hS : va_S A s.heap H locs) (hF : ∀ q, va_A wc H.size q → A q) : ∀ U : State, U.heap = H → s.WarmedH U.vm → STR (va_A wc H.size) sq sv U := by
  intro U hU hW
  obtain ⟨h1, h2, h3, h4, h5, h6, h7⟩ := h
  refine ⟨vk_R.warm hW h1, ?_, ?_, ?_, ?_, ?_, ?_⟩ <;> rw [hU]
  · exact ((h2.moved hW.alike).kept hS.2.1).narrow hF
  · exact ((h3.moved hW.alike).kept hS.2.1).narrow hF
  · exact ((h4.moved hW.alike).kept hS.2.1).narrow hF
  · exact ((h5.moved hW.alike).kept hS.2.1).narrow hF
  · exact ((h6.moved hW.alike).kept hS.2.1).narrow hF
  · exact ((h7.moved hW.alike).kept hS.2.1).narrow hF
theorem STR.call {A : Nat → Prop} {sq sv : Nat} {U : State} {g : JFrame} {mk : MethodId} {a : Array Value} (h : STR A sq sv U) : STR A sq sv (U.calling g mk a) := by
  obtain ⟨h1, h2, h3, h4, h5, h6, h7⟩ := h
  exact ⟨vk_R.same (u := U) (U := U.calling g mk a) rfl h1, va_O.moved (u := U) (U := U.calling g mk a) (Vm.Alike.refl U.vm) h2, va_OF.moved (u := U) (U := U.calling g mk a) (Vm.Alike.refl U.vm) h3, va_OF.moved (u := U) (U := U.calling g mk a) (Vm.Alike.refl U.vm) h4, va_T.moved (u := U) (U := U.calling g mk a) (Vm.Alike.refl U.vm) h5, va_Z.moved (u := U) (U := U.calling g mk a) (Vm.Alike.refl U.vm) h6, va_Zq.moved (u := U) (U := U.calling g mk a) (Vm.Alike.refl U.vm) h7⟩
abbrev PC2 (D : va_G) (T : Nat → ClassId) (sq sv : Nat) (av : List Value) (ws : va_W) (sz : Nat) : Array Value → State → Prop := va_Pc av (fun U => U.heap.size = sz ∧ va_P D vwCl ws U.heap ∧ EV D T U ∧ va_D (fun _ => True) ws ∧ STR (va_A ws sz) sq sv U)
theorem PC2.blind {D : va_G} {T : Nat → ClassId} {sq sv : Nat} {av : List Value} {ws : va_W} {sz : Nat} : FrameBlind (PC2 D T sq sv av ws sz) := fun a U g mk q => by
  obtain ⟨q0, q1, qP, qE, qD, qS⟩ := q
  exact ⟨q0, q1, qP, EV.call qE, qD, STR.call qS⟩
theorem PC2.at {D : va_G} {T : Nat → ClassId} {sq sv : Nat} {av : List Value} {ws : va_W} {s : State} {H : Heap} {locs : List Loc} {A A1 : Nat → Prop} (hE : EV D T s) (hStr : STR A sq sv s) (hS : va_S A s.heap H locs) (hF : ∀ q, va_A ws H.size q → A q) (hP : va_P D vwCl ws H) (hD : va_D A1 ws) : ∀ U : State, U.heap = H → s.WarmedH U.vm → PC2 D T sq sv av ws H.size av.toArray U :=
  fun U hU hW => ⟨rfl, by rw [hU], by rw [hU]; exact hP, hE.warm hW, hD.weaken (fun _ _ _ _ => trivial), STR.at hStr hS hF U hU hW⟩
abbrev Qv2 {S : Type} (post : S → Prop) (out : S → va_W) (D : va_G) (A : Nat → Prop) : Array Value → State → Outcome → State → Prop := va_Qv post (fun u t => WO D A (out u) t) A
abbrev Qr2 {S : Type} (post : S → Prop) (ad : S → Nat) (out : S → va_W) (D : va_G) (A : Nat → Prop) : Array Value → State → Outcome → State → Prop := va_Qr post (fun u a t => a = ad u ∧ WO D A (out u) t) A
theorem ct_begin2 {l : Launch} {y : MethodName} {cc : ByteArray} {maxL : Nat} {ret : Option FieldType} {rm : Room} {D : va_G} {T : Nat → ClassId} {sq sv : Nat} {av : List Value} {ws : va_W} {sz : Nat} {Qc : (Nat → Prop) → Array Value → State → Outcome → State → Prop} {mc ms : Nat} (hy : plainName y.cls = true) (hlen : (lg_sl av).length ≤ maxL)
    (body : ∀ (p : Program) (e : Env) (s : State) (m : MethodId) (below : List Frame) (meth : Method) (c : Code) (A : Nat → Prop) (ls : Array Slot), CallFix p m c cc maxL s av.toArray TB y.cls → meth.sig.returnType = ret → meth.locks = false → meth.name = y.name → EV D T s → STR A sq sv s → (∀ q, s.heap.size ≤ q → A q) → va_P D vwCl ws s.heap → va_D A ws → lv_has ls maxL (lv_args 0 av) →
      W p l e rm s m av.toArray below meth c s.heap [] 0 0 (MQ below (Qc A) av.toArray s mc ms A) (F0 m 0 ls [])) : Met l y (.code y cc maxL ret :: TB) rm (PC2 D T sq sv av ws sz) (Qc (va_A ws sz)) mc ms (va_A ws sz) := by
  refine Met.ofW (cc := cc) (maxL := maxL) (ret := ret) hy rfl ?_
  intro p e s m args below meth c s₁ B hml hv
  obtain ⟨rfl, hsz, hP, hE, hD0, hStr⟩ := hv
  have hts := atoms_spec (ws := .code y cc maxL ret :: TB) B.pre
  have hown : s.vm.findClass y.cls = some m.cls := findClass_of_methodNamed B.named
  have hl := lv_entry av (n := maxL) hlen
  rw [lg_entry_eq]
  refine body p e s m below meth c (va_A ws sz) _ ⟨B.exec, B.bytes, hml, hown, fun w hw => hts w (List.mem_cons_of_mem _ hw)⟩ B.returns B.notSynchronized (name_of_methodNamed B.named B.method).1 hE hStr ?_ hP (hD0.self (sz := sz)) hl
  intro q hq
  exact Or.inr (by rw [← hsz]; exact hq)
theorem ct_begin2F {l : Launch} {y : MethodName} {cc : ByteArray} {maxL : Nat} {ret : Option FieldType} {rm : Room} {D : va_G} {T : Nat → ClassId} {sq sv : Nat} {av : List Value} {ws : va_W} {sz : Nat} {Qc : (Nat → Prop) → Array Value → State → Outcome → State → Prop} {mc ms : Nat} (hy : plainFor y = true) (hlen : (lg_sl av).length ≤ maxL)
    (body : ∀ (p : Program) (e : Env) (s : State) (m : MethodId) (below : List Frame) (meth : Method) (c : Code) (A : Nat → Prop) (ls : Array Slot), CallFix p m c cc maxL s av.toArray TB y.cls → meth.sig.returnType = ret → meth.locks = false → meth.name = y.name → EV D T s → STR A sq sv s → (∀ q, s.heap.size ≤ q → A q) → va_P D vwCl ws s.heap → va_D A ws → lv_has ls maxL (lv_args 0 av) →
      W p l e rm s m av.toArray below meth c s.heap [] 0 0 (MQ below (Qc A) av.toArray s mc ms A) (F0 m 0 ls [])) : Met l y (.code y cc maxL ret :: TB) rm (PC2 D T sq sv av ws sz) (Qc (va_A ws sz)) mc ms (va_A ws sz) := by
  refine va_MetF (cc := cc) (maxL := maxL) (ret := ret) hy rfl ?_
  intro p e s m args below meth c s₁ B hml hv
  obtain ⟨rfl, hsz, hP, hE, hD0, hStr⟩ := hv
  have hts := atoms_spec (ws := .code y cc maxL ret :: TB) B.pre
  have hown : s.vm.findClass y.cls = some m.cls := findClass_of_methodNamed B.named
  have hl := lv_entry av (n := maxL) hlen
  rw [lg_entry_eq]
  refine body p e s m below meth c (va_A ws sz) _ ⟨B.exec, B.bytes, hml, hown, fun w hw => hts w (List.mem_cons_of_mem _ hw)⟩ B.returns B.notSynchronized (name_of_methodNamed B.named B.method).1 hE hStr ?_ hP (hD0.self (sz := sz)) hl
  intro q hq
  exact Or.inr (by rw [← hsz]; exact hq)
/-- the i-th field of a block's object -/
def fv (w : va_W) (i : Nat) : Option Value := match w with
  | (_, .inr (_, fs)) :: _ => fs[i]?
  | _ => none
theorem fv_inj {x y : Int32} (h : (some (Value.int x) : Option Value) = some (.int y)) : x = y := by cases h; rfl
theorem fv_injL {x y : Int64} (h : (some (Value.long x) : Option Value) = some (.long y)) : x = y := by cases h; rfl
theorem Bd.wide {a b lo hi : Int} {f : Nat → Int32} (h : Bd lo hi f) (h1 : a ≤ lo) (h2 : hi ≤ b) : Bd a b f := fun k => ⟨Int.le_trans h1 (h k).1, Int.le_trans (h k).2 h2⟩
theorem bool_of {x : Int32} (h : 0 ≤ x.toInt ∧ x.toInt ≤ 1) : x = 0 ∨ x = 1 := by
  rcases (show x.toInt = 0 ∨ x.toInt = 1 by omega) with e | e
  · exact Or.inl (Int32.toInt_inj.mp e)
  · exact Or.inr (Int32.toInt_inj.mp e)
theorem bool_nar {x : Int32} (h : 0 ≤ x.toInt ∧ x.toInt ≤ 1) : narrow .boolean (.int x) = .int x := by rcases bool_of h with rfl | rfl <;> rfl
theorem bool_fit {x : Int32} (h : 0 ≤ x.toInt ∧ x.toInt ≤ 1) : fits .boolean (.int x) = true := by rcases bool_of h with rfl | rfl <;> rfl
theorem max_ti {x y z : Int32} {a b : Int} (h : z = if x < y then y else x) (ha : x.toInt = a) (hb : y.toInt = b) : (z.toInt = a ∧ b ≤ a) ∨ (z.toInt = b ∧ a < b) := by
  subst ha hb
  by_cases c : x < y
  · rw [if_pos c] at h; subst h; exact Or.inr ⟨rfl, Int32.lt_iff_toInt_lt.mp c⟩
  · rw [if_neg c] at h; subst h; exact Or.inl ⟨rfl, nlt_ti rfl rfl c⟩
theorem min_ti {x y z : Int32} {a b : Int} (h : z = if y < x then y else x) (ha : x.toInt = a) (hb : y.toInt = b) : (z.toInt = a ∧ a ≤ b) ∨ (z.toInt = b ∧ b < a) := by
  subst ha hb
  by_cases c : y < x
  · rw [if_pos c] at h; subst h; exact Or.inr ⟨rfl, Int32.lt_iff_toInt_lt.mp c⟩
  · rw [if_neg c] at h; subst h; exact Or.inl ⟨rfl, nlt_ti rfl rfl c⟩
theorem i32_div {x y : Int32} (h : ¬ y = 0) (hm : 0 ≤ x.toInt) : (x / y).toInt = x.toInt.tdiv y.toInt := by
  rw [Int32.toInt_div]
  have hx := i32_rng x
  have hy := i32_rng y
  have h1 : x.toInt.tdiv y.toInt ≤ x.toInt := Int.tdiv_le_self _ hm
  have h2 : -x.toInt ≤ x.toInt.tdiv y.toInt := by
    by_cases c : 0 ≤ y.toInt
    · have := Int.tdiv_nonneg hm c; omega
    · have h4 : x.toInt.tdiv (-y.toInt) ≤ x.toInt := Int.tdiv_le_self _ hm
      rw [Int.tdiv_neg] at h4
      omega
  exact Int.bmod_eq_of_le (by omega) (by omega)
theorem div_ti {x y z : Int32} {a b : Int} (h : z = x / y) (ha : x.toInt = a) (hb : y.toInt = b) (h1 : 0 ≤ a) (h2 : 0 < b) : 0 ≤ z.toInt ∧ z.toInt ≤ a := by
  subst h ha hb
  rw [i32_div (nz_ti rfl (by omega)) h1]
  exact ⟨Int.tdiv_nonneg h1 (by omega), Int.tdiv_le_self _ h1⟩
theorem div_tic {x y z : Int32} {a b : Int} (h : z = x / y) (ha : x.toInt = a) (hb : y.toInt = b) (h1 : 0 ≤ a) (h2 : 0 < b) : z.toInt = a / b := by
  subst h ha hb
  rw [i32_div (nz_ti rfl (by omega)) h1, Int.tdiv_eq_ediv_of_nonneg h1]
section BU
variable {p : Program} {l : Launch} {e : Env} {R : Room} {s : State} {m : MethodId} {args : Array Value} {below : List Frame} {meth : Method} {c : Code} {H : Heap} {locs : List Loc} {cells slots : Nat} {Q : State → Prop} {D : va_G} {T : Nat → ClassId} {A : Nat → Prop} {ws wc wr : va_W} {cc cb : ByteArray} {nL maxL pc mc ms n index sq sv : Nat} {ls : Array Slot} {rest st0 As : List Value} {own C : String} {y : MethodName} {ret : Option FieldType} {rm : Room} {a : Array Value}
theorem r_iastB (hexec : p.tables.exec = Jvm.exec) (hb : c.code = cc) (hK : va_K D vwCl (TYS T) s) (hP : va_P D vwCl ws H) (hD : va_D A ws) (hS : va_S A s.heap H locs) (q0 : Nat) {b : Nat} {n : Nat} {f : Nat → Int32} (ha : ws[q0]? = some (b, .inl (T 0, n, .inl f))) {i : Int32} {x : Int32} (hin : vp_in i n) {lo hi k : Int} (hB : Bd lo hi f) (hx : x.toInt = k) (h1 : lo ≤ k) (h2 : k ≤ hi) (hdg : decode cc pc = .ok (.iastore, 1))
    (kk : ∀ (f' : Nat → Int32) (hB : Bd lo hi f') (H1 : Heap) (locs1 : List Loc), va_P D vwCl (ws.set q0 (b, .inl (T 0, n, .inl f'))) H1 → va_D A (ws.set q0 (b, .inl (T 0, n, .inl f'))) → va_S A s.heap H1 locs1 → W p l e R s m args below meth c H1 locs1 cells slots Q (F0 m (pc + 1) ls rest)) : W p l e R s m args below meth c H locs cells slots Q (F0 m pc ls (.int x :: .int i :: .ref b :: rest)) :=
  va_iast hexec hb hK hP hD hS q0 0 ha rfl hin hdg (kk _ (hB.upd hx h1 h2))
theorem r_vret2 {S : Type} {post : S → Prop} {out : S → va_W} {mc ms : Nat} {pc : Nat} {ls : Array Slot} (u : S) (C0 : CallFix p m c cc nL s args TB own) (hr : meth.sig.returnType = none) (hlocks : meth.locks = false) (hS : va_S A s.heap H locs) (h1 : cells ≤ mc) (h2 : slots ≤ ms) (hdg : decode cc pc = .ok (.return_, 1)) (hq : post u) (hP : va_P D vwCl (out u) H) (hD : va_D A (out u)) :
    W p l e R s m args below meth c H locs cells slots (MQ below (Qv2 post out D A) args s mc ms A) (F0 m pc ls []) := by
  refine W.widen (k := mc) (n := ms) h1 h2 ?_
  exact W.vret C0.1 C0.2.1 hr (fun t ht hW => ⟨⟨u, rfl, hq, by rw [ht]; exact hP, hD⟩, hS.F ht⟩) hS.2.2 hdg hlocks
theorem r_aret2 {S : Type} {post : S → Prop} {ad : S → Nat} {out : S → va_W} {mc ms : Nat} {pc b : Nat} {ls : Array Slot} {cn : String} (u : S) (C0 : CallFix p m c cc nL s args TB own) (hr : meth.sig.returnType = some (.object cn)) (hlocks : meth.locks = false) (hS : va_S A s.heap H locs) (h1 : cells ≤ mc) (h2 : slots ≤ ms) (hdg : decode cc pc = .ok (.areturn, 1)) (ha : b = ad u) (hq : post u) (hP : va_P D vwCl (out u) H) (hD : va_D A (out u)) :
    W p l e R s m args below meth c H locs cells slots (MQ below (Qr2 post ad out D A) args s mc ms A) (F0 m pc ls [.ref b]) := by
  refine W.widen (k := mc) (n := ms) h1 h2 ?_
  exact W.aret C0.1 C0.2.1 hr (Or.inl ⟨_, rfl⟩) (Or.inr ⟨_, rfl⟩) (fun t ht hW => ⟨⟨u, b, rfl, hq, ha, by rw [ht]; exact hP, hD⟩, hS.F ht⟩) hS.2.2 hdg hlocks
theorem r_runV2 {Qc : Array Value → State → Outcome → State → Prop} {b ci : Nat} {fs : List Value} {q : vw_C} (C0 : CallFix p m c cc nL s args TB own) (hE : EV D T s) (hStr : STR A sq sv s) (hS : va_S A s.heap H locs) (hF : ∀ q, va_A wc H.size q → A q) (hM : Met l y (.code y cb maxL ret :: TB) rm (PC2 D T sq sv (.ref b :: As) wc H.size) Qc mc ms (va_A wc H.size))
    (w1 : Cond.methodLink own index y ∈ TB) (w2 : Cond.instanceMethod y ∈ TB) (w3 : Cond.selects y.cls y y ∈ TB) (w4 : Cond.initialized y.cls ∈ TB) (w5 : Cond.code y cb maxL ret ∈ TB) (hd : DescN y As.length) (hrc : rm.cells = mc) (hrs : rm.slots = ms) (hR : rm.frames + 1 ≤ R.frames ∧ 8 + (maxL + 11) + rm.locals ≤ R.locals)
    (hP : va_P D vwCl wc H) (hD : va_D A wc) (hq : vwCl[ci]? = some q) (hqn : q.1 = y.cls) (he : wc[0]? = some (b, .inr (ci, fs))) (hsz : ls.size = nL) (hst : st0 = As.reverse ++ .ref b :: rest) (hro : (rest.map fun v => v.category).sum ≤ 8) (hdg : decode cc pc = .ok (.invokevirtual index, 3)) (hf : cells + mc ≤ R.cells ∧ slots + ms ≤ R.slots) :
    va_Run p l e R s m args below meth c H locs cells slots mc ms (F0 m pc ls st0) rest (Qc (Value.ref b :: As).toArray) (va_A wc H.size) :=
  va_runV (C := y.cls) (b := b) (As := As) C0 hM (cwV As.length C0.2.2.2.2 (r_wV (fun _ h => h) w1 w2 w3 w4 w5) rfl hrc hrs ⟨rfl, hd⟩ hR) ⟨PC2.blind, (by rw [← hqn]; exact va_recv hE.1 hP (ci := ci) (q0 := 0) hq he), PC2.at hE hStr hS hF hP hD⟩ rfl rfl hsz hst (lv_room hro) hdg hf
theorem r_runS2 {Qc : Array Value → State → Outcome → State → Prop} (C0 : CallFix p m c cc nL s args TB own) (hE : EV D T s) (hStr : STR A sq sv s) (hS : va_S A s.heap H locs) (hF : ∀ q, va_A wc H.size q → A q) (hM : Met l y (.code y cb maxL ret :: TB) rm (PC2 D T sq sv As wc H.size) Qc mc ms (va_A wc H.size))
    (w1 : Cond.methodLink own index y ∈ TB) (w2 : Cond.static y ∈ TB) (w4 : Cond.initialized y.cls ∈ TB) (w5 : Cond.code y cb maxL ret ∈ TB) (hd : DescN y As.length) (hrc : rm.cells = mc) (hrs : rm.slots = ms) (hR : rm.frames + 1 ≤ R.frames ∧ 8 + (maxL + 11) + rm.locals ≤ R.locals)
    (hP : va_P D vwCl wc H) (hD : va_D A wc) (hsz : ls.size = nL) (hst : st0 = As.reverse ++ rest) (hro : (rest.map fun v => v.category).sum ≤ 8) (hdg : decode cc pc = .ok (.invokestatic index, 3)) (hf : cells + mc ≤ R.cells ∧ slots + ms ≤ R.slots) :
    va_Run p l e R s m args below meth c H locs cells slots mc ms (F0 m pc ls st0) rest (Qc As.toArray) (va_A wc H.size) :=
  va_runS (As := As) C0 hM (va_cwS As.length C0.2.2.2.2 (r_wS (fun _ h => h) w1 w2 w4 w5) rfl hrc hrs hd hR) ⟨PC2.blind, PC2.at hE hStr hS hF hP hD⟩ rfl rfl hsz hst (lv_room hro) hdg hf
theorem r_runSN2 {Qc : Array Value → State → Outcome → State → Prop} {host : String} (C0 : CallFix p m c cc nL s args TB own) (hE : EV D T s) (hStr : STR A sq sv s) (hS : va_S A s.heap H locs) (hF : ∀ q, va_A wc H.size q → A q) (hM : Met l y (.code y cb maxL ret :: TB) rm (PC2 D T sq sv As wc H.size) Qc mc ms (va_A wc H.size))
    (w1 : va_Nw (.methodLinkNest own index y host) s) (w2 : Cond.static y ∈ TB) (w4 : Cond.initialized y.cls ∈ TB) (w5 : Cond.code y cb maxL ret ∈ TB) (hd : DescN y As.length) (hrc : rm.cells = mc) (hrs : rm.slots = ms) (hR : rm.frames + 1 ≤ R.frames ∧ 8 + (maxL + 11) + rm.locals ≤ R.locals)
    (hP : va_P D vwCl wc H) (hD : va_D A wc) (hsz : ls.size = nL) (hst : st0 = As.reverse ++ rest) (hro : (rest.map fun v => v.category).sum ≤ 8) (hdg : decode cc pc = .ok (.invokestatic index, 3)) (hf : cells + mc ≤ R.cells ∧ slots + ms ≤ R.slots) :
    va_Run p l e R s m args below meth c H locs cells slots mc ms (F0 m pc ls st0) rest (Qc As.toArray) (va_A wc H.size) :=
  va_runSN (As := As) C0 hM ⟨va_cnB As.length C0.2.2.2.2 (r_wI (fun _ h => h) w5) rfl hrc hrs w1 (C0.2.2.2.2 _ w4) hd hR, C0.2.2.2.2 _ w2, trivial⟩ ⟨PC2.blind, PC2.at hE hStr hS hF hP hD⟩ rfl rfl hsz hst (lv_room hro) hdg hf
theorem r_callv2 {S : Type} {post : S → Prop} {out : S → va_W} (hr : va_Run p l e R s m args below meth c H locs cells slots mc ms (F0 m pc ls st0) rest (Qv2 post out D (va_A wc H.size) a) (va_A wc H.size)) (hP : va_P D vwCl ws H) (hD : va_D A ws) (hS : va_S A s.heap H locs) (hA : ∀ q, s.heap.size ≤ q → A q) (isC isR : List Nat) (hC : isC.map (fun i => ws[i]?) = wc.map some) (hR : isR.map (fun i => ws[i]?) = wr.map some) (hn : va_nd isR = true) (hdis : ∀ i ∈ isR, i ∉ isC)
    (kk : ∀ (u : S) (H1 : Heap) (locs1 : List Loc), post u → va_P D vwCl (wr ++ out u) H1 → va_D A (wr ++ out u) → va_S A s.heap H1 locs1 → W p l e R s m args below meth c H1 locs1 (cells + mc) (slots + ms) Q (F0 m (pc + 3) ls rest)) : W p l e R s m args below meth c H locs cells slots Q (F0 m pc ls st0) := by
  have hF := va_free (wc := wc) hD hS hA isC hC
  refine va_callv hr hS (fun q _ h => hF q h) hF (fun u t H1 locs1 ht hvm hw hB hz1 hk1 hS1 => ?_)
  obtain ⟨hP1, hD1⟩ := hB
  rw [ht] at hP1
  obtain ⟨hP2, hD2⟩ := va_join (wr := wr) (w1 := out u) hP hD isC isR hC hR hn hdis hk1 hF hP1 hD1
  exact kk u H1 locs1 hw hP2 hD2 hS1
theorem r_callr2 {S : Type} {post : S → Prop} {ad : S → Nat} {out : S → va_W} (hr : va_Run p l e R s m args below meth c H locs cells slots mc ms (F0 m pc ls st0) rest (Qr2 post ad out D (va_A wc H.size) a) (va_A wc H.size)) (hP : va_P D vwCl ws H) (hD : va_D A ws) (hS : va_S A s.heap H locs) (hA : ∀ q, s.heap.size ≤ q → A q) (isC isR : List Nat) (hC : isC.map (fun i => ws[i]?) = wc.map some) (hR : isR.map (fun i => ws[i]?) = wr.map some) (hn : va_nd isR = true) (hdis : ∀ i ∈ isR, i ∉ isC)
    (kk : ∀ (u : S) (H1 : Heap) (locs1 : List Loc), post u → va_P D vwCl (wr ++ out u) H1 → va_D A (wr ++ out u) → va_S A s.heap H1 locs1 → W p l e R s m args below meth c H1 locs1 (cells + mc) (slots + ms) Q (F0 m (pc + 3) ls (.ref (ad u) :: rest))) : W p l e R s m args below meth c H locs cells slots Q (F0 m pc ls st0) := by
  have hF := va_free (wc := wc) hD hS hA isC hC
  refine va_callr hr hS (fun q _ h => hF q h) hF (fun u ra t H1 locs1 ht hvm hw hB hz1 hk1 hS1 => ?_)
  obtain ⟨hra, hP1, hD1⟩ := hB
  subst hra
  rw [ht] at hP1
  obtain ⟨hP2, hD2⟩ := va_join (wr := wr) (w1 := out u) hP hD isC isR hC hR hn hdis hk1 hF hP1 hD1
  exact kk u H1 locs1 hw hP2 hD2 hS1
theorem r_ldcS (C0 : CallFix p m c cc nL s args TB RX7) (hStr : STR A sq sv s) (hdg : decode cc pc = .ok (.ldc 181, 2)) (k : W p l e R s m args below meth c H locs cells slots Q (F0 m (pc + 2) ls (.ref sq :: rest))) : W p l e R s m args below meth c H locs cells slots Q (F0 m pc ls rest) := va_ldcS C0.1 C0.2.1 C0.2.2.2.1 hStr.1 hdg k
end BU
