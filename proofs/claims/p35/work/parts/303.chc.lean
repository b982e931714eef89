/-! p34, p35: what the methods of class and reference do to patches and pulls -/
theorem HLI.zero {pl be pp : Nat → Int32} {re : Int} {s p : Int32} : HLI pl be pp re s p 0 0 0 := by
  have e : Int32.toNatClampNeg 0 = 0 := by decide
  unfold HLI
  rw [e]
  exact ⟨rfl, rfl⟩
theorem SMI.zero {f : Nat → Int} {p : Int32} : SMI f p 0 0 := by
  have e : Int32.toNatClampNeg 0 = 0 := by decide
  unfold SMI
  rw [e]
  rfl
theorem abs_ti {x z : Int32} {a : Int} (h : z = if 0 ≤ x then x else 0 - x) (ha : x.toInt = a) (h1 : -2147483647 ≤ a) : (z.toInt = a ∧ 0 ≤ a) ∨ (z.toInt = -a ∧ a < 0) := by
  have hr := i32_rng x
  by_cases c : (0 : Int32) ≤ x
  · rw [if_pos c] at h
    subst h
    exact Or.inl ⟨ha, le_ti (by decide : (0 : Int32).toInt = 0) ha c⟩
  · rw [if_neg c] at h
    have h2 := ti_sub h (by decide : (0 : Int32).toInt = 0) ha (by omega) (by omega)
    have h3 := nle_ti (by decide : (0 : Int32).toInt = 0) ha c
    exact Or.inr ⟨by omega, h3⟩
theorem mul1 {x w z : Int32} (h : z = x * w) (hx : x.toInt = 1) : z.toInt = w.toInt := by
  have e : x = 1 := Int32.toInt_inj.mp hx
  subst e
  rw [h, Int32.one_mul]
theorem mul0 {x w z : Int32} (h : z = x * w) (hx : x.toInt = 0) : z.toInt = 0 := by
  have e : x = 0 := Int32.toInt_inj.mp hx
  subst e
  rw [h, Int32.zero_mul]
  rfl
def PT1 (n p b c : Int32) (g0 g1 g2 : Nat → Int32) (r n' : Int32) (h0 h1 h2 : Nat → Int32) : Prop :=
  (n.toInt < 12 ∧ r.toInt = n.toInt + 1 ∧ n'.toInt = n.toInt + 1 ∧ h0 = upd g0 n.toNatClampNeg p ∧ h1 = upd g1 n.toNatClampNeg b ∧ h2 = upd g2 n.toNatClampNeg c) ∨ (12 ≤ n.toInt ∧ r.toInt = -1 ∧ n' = n ∧ h0 = g0 ∧ h1 = g1 ∧ h2 = g2)
def PT2 (n p f : Int32) (g0 g1 : Nat → Int32) (r n' : Int32) (h0 h1 : Nat → Int32) : Prop :=
  (n.toInt < 8 ∧ r.toInt = n.toInt + 1 ∧ n'.toInt = n.toInt + 1 ∧ h0 = upd g0 n.toNatClampNeg p ∧ h1 = upd g1 n.toNatClampNeg f) ∨ (8 ≤ n.toInt ∧ r.toInt = -1 ∧ n' = n ∧ h0 = g0 ∧ h1 = g1)
def PX1 (n p b c : Int32) (g0 g1 g2 : Nat → Int32) (r n' : Int32) (h0 h1 h2 : Nat → Int32) : Prop :=
  (((0 ≤ p.toInt ∧ p.toInt ≤ 99) ∧ (1 ≤ b.toInt ∧ b.toInt ≤ 999) ∧ (1 ≤ c.toInt ∧ c.toInt ≤ 999)) ∧ PT1 n p b c g0 g1 g2 r n' h0 h1 h2) ∨ (¬ ((0 ≤ p.toInt ∧ p.toInt ≤ 99) ∧ (1 ≤ b.toInt ∧ b.toInt ≤ 999) ∧ (1 ≤ c.toInt ∧ c.toInt ≤ 999)) ∧ r.toInt = -1 ∧ n' = n ∧ h0 = g0 ∧ h1 = g1 ∧ h2 = g2)
def PX2 (n p f : Int32) (g0 g1 : Nat → Int32) (r n' : Int32) (h0 h1 : Nat → Int32) : Prop :=
  (((0 ≤ p.toInt ∧ p.toInt ≤ 99) ∧ (1 ≤ f.toInt ∧ f.toInt ≤ 9999)) ∧ PT2 n p f g0 g1 r n' h0 h1) ∨ (¬ ((0 ≤ p.toInt ∧ p.toInt ≤ 99) ∧ (1 ≤ f.toInt ∧ f.toInt ≤ 9999)) ∧ r.toInt = -1 ∧ n' = n ∧ h0 = g0 ∧ h1 = g1)
theorem PT1.det {n p b c : Int32} {g0 g1 g2 : Nat → Int32} {r n' r2 n2 : Int32} {h0 h1 h2 k0 k1 k2 : Nat → Int32} (h : PT1 n p b c g0 g1 g2 r n' h0 h1 h2) (k : PT1 n p b c g0 g1 g2 r2 n2 k0 k1 k2) : r = r2 ∧ n' = n2 ∧ h0 = k0 ∧ h1 = k1 ∧ h2 = k2 := by
  rcases h with ⟨a1, a2, a3, a4, a5, a6⟩ | ⟨a1, a2, a3, a4, a5, a6⟩
  · rcases k with ⟨b1, b2, b3, b4, b5, b6⟩ | ⟨b1, b2, b3, b4, b5, b6⟩
    · exact ⟨Int32.toInt_inj.mp (by omega), Int32.toInt_inj.mp (by omega), a4.trans b4.symm, a5.trans b5.symm, a6.trans b6.symm⟩
    · omega
  · rcases k with ⟨b1, b2, b3, b4, b5, b6⟩ | ⟨b1, b2, b3, b4, b5, b6⟩
    · omega
    · exact ⟨Int32.toInt_inj.mp (by omega), a3.trans b3.symm, a4.trans b4.symm, a5.trans b5.symm, a6.trans b6.symm⟩
theorem PT2.det {n p f : Int32} {g0 g1 : Nat → Int32} {r n' r2 n2 : Int32} {h0 h1 k0 k1 : Nat → Int32} (h : PT2 n p f g0 g1 r n' h0 h1) (k : PT2 n p f g0 g1 r2 n2 k0 k1) : r = r2 ∧ n' = n2 ∧ h0 = k0 ∧ h1 = k1 := by
  rcases h with ⟨a1, a2, a3, a4, a5⟩ | ⟨a1, a2, a3, a4, a5⟩
  · rcases k with ⟨b1, b2, b3, b4, b5⟩ | ⟨b1, b2, b3, b4, b5⟩
    · exact ⟨Int32.toInt_inj.mp (by omega), Int32.toInt_inj.mp (by omega), a4.trans b4.symm, a5.trans b5.symm⟩
    · omega
  · rcases k with ⟨b1, b2, b3, b4, b5⟩ | ⟨b1, b2, b3, b4, b5⟩
    · omega
    · exact ⟨Int32.toInt_inj.mp (by omega), a3.trans b3.symm, a4.trans b4.symm, a5.trans b5.symm⟩
theorem PX1.det {n p b c : Int32} {g0 g1 g2 : Nat → Int32} {r n' r2 n2 : Int32} {h0 h1 h2 k0 k1 k2 : Nat → Int32} (h : PX1 n p b c g0 g1 g2 r n' h0 h1 h2) (k : PX1 n p b c g0 g1 g2 r2 n2 k0 k1 k2) : r = r2 ∧ n' = n2 ∧ h0 = k0 ∧ h1 = k1 ∧ h2 = k2 := by
  rcases h with ⟨a1, a2⟩ | ⟨a1, a2, a3, a4, a5, a6⟩
  · rcases k with ⟨b1, b2⟩ | ⟨b1, _⟩
    · exact a2.det b2
    · exact absurd a1 b1
  · rcases k with ⟨b1, _⟩ | ⟨b1, b2, b3, b4, b5, b6⟩
    · exact absurd b1 a1
    · exact ⟨Int32.toInt_inj.mp (by omega), a3.trans b3.symm, a4.trans b4.symm, a5.trans b5.symm, a6.trans b6.symm⟩
theorem PX2.det {n p f : Int32} {g0 g1 : Nat → Int32} {r n' r2 n2 : Int32} {h0 h1 k0 k1 : Nat → Int32} (h : PX2 n p f g0 g1 r n' h0 h1) (k : PX2 n p f g0 g1 r2 n2 k0 k1) : r = r2 ∧ n' = n2 ∧ h0 = k0 ∧ h1 = k1 := by
  rcases h with ⟨a1, a2⟩ | ⟨a1, a2, a3, a4, a5⟩
  · rcases k with ⟨b1, b2⟩ | ⟨b1, _⟩
    · exact a2.det b2
    · exact absurd a1 b1
  · rcases k with ⟨b1, _⟩ | ⟨b1, b2, b3, b4, b5⟩
    · exact absurd b1 a1
    · exact ⟨Int32.toInt_inj.mp (by omega), a3.trans b3.symm, a4.trans b4.symm, a5.trans b5.symm⟩
/-! chosen -/
def RCN (s o k r : Int32) : Prop := ((s.toInt ≠ -1 ∧ 0 ≤ k.toInt ∧ k.toInt < o.toInt) ∧ ∃ y : Int32, y = s >>> (k &&& 31) ∧ r = y &&& 1) ∨ ((s.toInt = -1 ∨ k.toInt < 0 ∨ o.toInt ≤ k.toInt) ∧ r.toInt = -1)
def XCN (s o k r : Int32) : Prop := ((0 ≤ k.toInt ∧ k.toInt < o.toInt) ∧ ∃ y : Int32, y = s >>> (k &&& 31) ∧ r = y &&& 1) ∨ ((k.toInt < 0 ∨ o.toInt ≤ k.toInt) ∧ r.toInt = -1)
def PKR (s o s' o' : Int32) : Prop := o = o' ∧ (1 ≤ o'.toInt → s = s' ∧ 0 ≤ s'.toInt)
theorem cn_same {s o s' o' k r r' : Int32} (h : PKR s o s' o') (h1 : XCN s o k r) (h2 : RCN s' o' k r') : r = r' := by
  obtain ⟨e, hp⟩ := h
  subst e
  rcases h1 with ⟨a1, y, ay, a2⟩ | ⟨a1, a2⟩
  · obtain ⟨es, hs⟩ := hp (by omega)
    subst es
    rcases h2 with ⟨b1, y', b2, b3⟩ | ⟨b1, b2⟩
    · rw [a2, b3, ay, b2]
    · omega
  · rcases h2 with ⟨b1, y', b2, b3⟩ | ⟨b1, b2⟩
    · omega
    · exact Int32.toInt_inj.mp (by omega)
/-! choose -/
def CHX (n k : Nat) (pl be co pp pf : Nat → Int32) (re op o1 o2 r n1 n2 : Int32) : Prop := (((0 ≤ re.toInt ∧ re.toInt ≤ 99) ∧ 0 ≤ op.toInt ∧ op.toInt ≤ 20000) ∧ CHS n k pl be co pp pf re.toInt op.toInt o1 o2 r n1 n2) ∨ (¬ ((0 ≤ re.toInt ∧ re.toInt ≤ 99) ∧ 0 ≤ op.toInt ∧ op.toInt ≤ 20000) ∧ r.toInt = -1 ∧ n1 = o1 ∧ n2 = o2)
theorem CHX.same {n k : Nat} {pl be co pp pf : Nat → Int32} {re op o1 o2 r n1 n2 o1' o2' r' n1' n2' : Int32} (h1 : CHX n k pl be co pp pf re op o1 o2 r n1 n2) (h2 : CHX n k pl be co pp pf re op o1' o2' r' n1' n2') : r = r' ∧ ((n1 = n1' ∧ n2 = n2' ∧ 0 ≤ n1.toInt) ∨ (n1 = o1 ∧ n2 = o2 ∧ n1' = o1' ∧ n2' = o2')) := by
  rcases h1 with ⟨a1, a2⟩ | ⟨a1, a2, a3, a4⟩
  · rcases h2 with ⟨b1, b2⟩ | ⟨b1, _⟩
    · exact a2.same b2
    · exact absurd a1 b1
  · rcases h2 with ⟨b1, _⟩ | ⟨b1, b2, b3, b4⟩
    · exact absurd b1 a1
    · exact ⟨Int32.toInt_inj.mp (by omega), Or.inr ⟨a3, a4, b3, b4⟩⟩
theorem CHX.pkr {n k : Nat} {pl be co pp pf : Nat → Int32} {re op o1 o2 r n1 n2 o1' o2' r' n1' n2' : Int32} (h1 : CHX n k pl be co pp pf re op o1 o2 r n1 n2) (h2 : CHX n k pl be co pp pf re op o1' o2' r' n1' n2') (h : PKR o1 o2 o1' o2') : PKR n1 n2 n1' n2' := by
  rcases (h1.same h2).2 with ⟨a, b, c⟩ | ⟨a, b, c, d⟩
  · exact ⟨b, fun _ => ⟨a, by rw [← a]; exact c⟩⟩
  · rw [a, b, c, d]; exact h
/-! the class's pick -/
theorem chs_none {n k : Nat} {pl be co pp pf : Nat → Int32} {re op : Int} {o1 o2 r : Int32} (h : ∀ t, t < 2 ^ n → ¬ VA n k pl be pp pf re op t) (hr : r.toInt = -1) : CHS n k pl be co pp pf re op o1 o2 r o1 o2 := Or.inr ⟨h, hr, rfl, rfl⟩
theorem chs_srch {n k : Nat} {pl be co pp pf : Nat → Int32} {re op : Int} {s : Nat} {b' : Int} {o1 o2 r a' c' n2 : Int32} (hn : n ≤ 12) (hco : Bd 0 999 co) (h : SR n (cst co) (VA n k pl be pp pf re op) 0 s 1000000 0 (-1) a'.toInt b' c'.toInt) (hr : r = a') (hc : c'.toInt ≠ -1) (h2 : n2.toInt = (n : Int)) : CHS n k pl be co pp pf re op o1 o2 r c' n2 := by
  rcases h.done hn hco with ⟨h1, _⟩ | ⟨h1, q, h3, h4, h5⟩
  · exact absurd h1 hc
  · exact Or.inl ⟨q, h3, by rw [hr]; exact h4, h5, h2⟩
theorem chs_nsr {n k : Nat} {pl be co pp pf : Nat → Int32} {re op : Int} {s : Nat} {a' b' c' : Int} {o1 o2 r : Int32} (hn : n ≤ 12) (hco : Bd 0 999 co) (h : SR n (cst co) (VA n k pl be pp pf re op) 0 s 1000000 0 (-1) a' b' c') (hr : r.toInt = -1) (hc : c' = -1) : CHS n k pl be co pp pf re op o1 o2 r o1 o2 := by
  rcases h.done hn hco with ⟨_, h1⟩ | ⟨h1, _⟩
  · exact Or.inr ⟨h1, hr, rfl, rfl⟩
  · omega
/-! the reference's search -/
def BOF (s r : Int32) : Prop := r.toInt = sm kof s.toNatClampNeg 12
theorem SMI.end {f : Nat → Int} {p i a : Int32} {n : Nat} (h : SMI f p i a) (hi : i.toInt = (n : Int)) : a.toInt = sm f p.toNatClampNeg n := by
  have e := tn (x := i) (by omega)
  have en : i.toNatClampNeg = n := by omega
  unfold SMI at h
  rw [en] at h
  exact h
def HIS (n k : Nat) (pl be pp pf : Nat → Int32) (re op : Int) (s f i : Int32) : Prop := (i.toInt = 1 ∧ HA n f.toNatClampNeg pl be pp pf re s.toNatClampNeg) ∨ (i.toInt = 0 ∧ ¬ VA n k pl be pp pf re op s.toNatClampNeg)
theorem his_no {n k : Nat} {pl be pp pf : Nat → Int32} {re op : Int} {s f i b : Int32} (hi : i.toInt = 0) (hb : b.toInt = sm (cst be) s.toNatClampNeg n) (h : op < b.toInt) : HIS n k pl be pp pf re op s f i := Or.inr ⟨hi, fun hv => by have := hv.1; omega⟩
theorem his_yes {n k : Nat} {pl be pp pf : Nat → Int32} {re op : Int} {s i : Int32} (hi : i.toInt = 1) : HIS n k pl be pp pf re op s 0 i := Or.inl ⟨hi, ha_zero⟩
theorem his_step {n k : Nat} {pl be pp pf : Nat → Int32} {re op : Int} {s f f' i r : Int32} (h : HIS n k pl be pp pf re op s f i) (hi : i.toInt ≠ 0) (hr : RHO n pl be pp pf re s f r) (h0 : 0 ≤ f.toInt) (hf : f'.toInt = f.toInt + 1) (hk : f.toInt < (k : Int)) : HIS n k pl be pp pf re op s f' r := by
  have e := tn h0
  rcases h with ⟨_, h⟩ | ⟨h, _⟩
  · rcases hr with ⟨q1, q2⟩ | ⟨q1, q2⟩
    · exact Or.inl ⟨q1, ha_step h (Or.inl ⟨q1, q2⟩) h0 hf (by omega)⟩
    · exact Or.inr ⟨q1, fun hv => q2 (hv.2 _ (by omega))⟩
  · exact absurd h hi
theorem his_va {n k : Nat} {pl be pp pf : Nat → Int32} {re op : Int} {s f i b : Int32} (h : HIS n k pl be pp pf re op s f i) (hi : i.toInt ≠ 0) (h0 : 0 ≤ f.toInt) (hf : (k : Int) ≤ f.toInt) (hb : b.toInt = sm (cst be) s.toNatClampNeg n) (ho : b.toInt ≤ op) : VA n k pl be pp pf re op s.toNatClampNeg := by
  have e := tn h0
  rcases h with ⟨_, h⟩ | ⟨h, _⟩
  · exact ⟨by omega, fun p hp => h p (by omega)⟩
  · exact absurd h hi
theorem his_nv {n k : Nat} {pl be pp pf : Nat → Int32} {re op : Int} {s f i : Int32} (h : HIS n k pl be pp pf re op s f i) (hi : i.toInt = 0) : ¬ VA n k pl be pp pf re op s.toNatClampNeg := by
  rcases h with ⟨h, _⟩ | ⟨_, h⟩
  · omega
  · exact h
theorem bt_s {n : Nat} {co : Nat → Int} {s q : Nat} {cs cq : Int} (hs : cs = sm co s n) (hq : cq = sm co q n) (h : cs < cq ∨ (cs = cq ∧ sm kof s n < sm kof q n)) : BT n co s q := Or.inl (by unfold LX; omega)
theorem bt_f {n : Nat} {co : Nat → Int} {s q : Nat} {cs cq : Int} (hs : cs = sm co s n) (hq : cq = sm co q n) (h : cs = cq) (h2 : sm kof s n = sm kof q n) (h3 : FST s q) : BT n co s q := Or.inr ⟨by omega, h2, h3⟩
/-- how many they have, from the two counts -/
theorem bof_n {n : Nat} {s r : Int32} (h : BOF s r) (hs : s.toNatClampNeg < 2 ^ n) (hn : n ≤ 12) : r.toInt = sm kof s.toNatClampNeg n := by
  unfold BOF at h
  rw [h, sm_12 hs hn]
theorem isf_yes {a b r : Int32} (h : ISF a b r) (hr : r.toInt ≠ 0) : FST a.toNatClampNeg b.toNatClampNeg := by
  rcases h with ⟨_, h⟩ | ⟨h, _⟩
  · exact h
  · exact absurd h hr
theorem isf_no {a b r : Int32} (h : ISF a b r) (hr : r.toInt = 0) (hne : b.toNatClampNeg < a.toNatClampNeg) : FST b.toNatClampNeg a.toNatClampNeg := by
  rcases h with ⟨h, _⟩ | ⟨_, h⟩
  · omega
  · rcases fst_total (s := a.toNatClampNeg) (t := b.toNatClampNeg) (by omega) with q | q
    · exact absurd q h
    · exact q
theorem br_none {n k : Nat} {pl be co pp pf : Nat → Int32} {re op f b x : Int} {o1 o2 r : Int32} (h : BR n (cst co) (VA n k pl be pp pf re op) f b x) (hf : f = -1) (hx : ((2 ^ n : Nat) : Int) ≤ x) (hr : r.toInt = -1) : CHS n k pl be co pp pf re op o1 o2 r o1 o2 := by
  rcases h with ⟨_, _, h⟩ | ⟨q, h1, _⟩
  · exact Or.inr ⟨fun t ht => h t (by omega), hr, rfl, rfl⟩
  · omega
theorem br_some {n k : Nat} {pl be co pp pf : Nat → Int32} {re op x : Int} {o1 o2 r f n2 : Int32} (h : BR n (cst co) (VA n k pl be pp pf re op) f.toInt r.toInt x) (hf : f.toInt ≠ -1) (hx : x = ((2 ^ n : Nat) : Int)) (h2 : n2.toInt = (n : Int)) : CHS n k pl be co pp pf re op o1 o2 r f n2 := by
  rcases h with ⟨h, _⟩ | ⟨q, h1, h3, h4, h5, h6⟩
  · exact absurd h hf
  · exact Or.inl ⟨q, ⟨by omega, h4, fun t ht hv => h6 t (by omega) hv⟩, h5, h1, h2⟩
/-! search and pick, over the machine's numbers -/
theorem tn0 : Int32.toNatClampNeg 0 = 0 := by decide
theorem rha_t {n k : Nat} {pl be pp pf : Nat → Int32} {re : Int} {s r : Int32} (h : RHA n k pl be pp pf re s r) (hr : r.toInt ≠ 0) : HA n k pl be pp pf re s.toNatClampNeg := by
  rcases h with ⟨_, h⟩ | ⟨h, _⟩
  · exact h
  · exact absurd h hr
theorem rha_f {n k : Nat} {pl be pp pf : Nat → Int32} {re : Int} {s r : Int32} (h : RHA n k pl be pp pf re s r) (hr : r.toInt = 0) : ¬ HA n k pl be pp pf re s.toNatClampNeg := by
  rcases h with ⟨h, _⟩ | ⟨_, h⟩
  · omega
  · exact h
theorem SIN.keepI {n k : Nat} {pl be co pp pf : Nat → Int32} {re : Int} {i i' : Int32} {s : Nat} {pa si bo pa' si' bo' : Int} (h : SIN n k pl be co pp pf re i.toNatClampNeg s pa si bo) (h0 : 0 ≤ i.toInt) (h1 : i'.toInt = i.toInt + 1) (hi : i.toNatClampNeg < n) (e1 : pa' = pa + (co i.toNatClampNeg).toInt) (e2 : si' = si + 1) (e3 : bo' = bo + (be i.toNatClampNeg).toInt) : SIN n k pl be co pp pf re i'.toNatClampNeg s pa' si' bo' := by
  rw [tn_succ h0 h1]
  exact h.keep hi e1 e2 e3
theorem SIN.leaveI {n k : Nat} {pl be co pp pf : Nat → Int32} {re : Int} {i i' : Int32} {s w : Nat} {pa si bo : Int} (h : SIN n k pl be co pp pf re i.toNatClampNeg s pa si bo) (h0 : 0 ≤ i.toInt) (h1 : i'.toInt = i.toInt + 1) (hi : i.toNatClampNeg < n) (hw : WOB s w i.toNatClampNeg) (hh : HA n k pl be pp pf re w) : SIN n k pl be co pp pf re i'.toNatClampNeg w pa si bo := by
  rw [tn_succ h0 h1]
  exact h.leave hi hw hh
theorem SIN.leafI {n k : Nat} {pl be co pp pf : Nat → Int32} {re op : Int} {i s : Nat} {pa si bo : Int} {a b c c' : Int} (h : SIN n k pl be co pp pf re i s pa si bo) (hi : n ≤ i) (hb : bo ≤ op) (h1 : pa ≤ a) (h2 : ¬ (pa = a ∧ b ≤ si)) (hc : c' = (s : Int)) : SR n (cst co) (VA n k pl be pp pf re op) i s a b c pa si c' := by
  rw [hc]
  exact h.leaf hi hb h1 h2
theorem SIN.compJ {n k : Nat} {pl be co pp pf : Nat → Int32} {re op : Int} {i i1 : Int32} {s w : Nat} {pa si bo : Int} {a0 b0 c0 a1 b1 c1 a2 b2 c2 : Int} (h : SIN n k pl be co pp pf re i.toNatClampNeg s pa si bo) (h0 : 0 ≤ i.toInt) (h1 : i1.toInt = i.toInt + 1) (hi : i.toNatClampNeg < n) (hw : WOB s w i.toNatClampNeg) (s1 : SR n (cst co) (VA n k pl be pp pf re op) i1.toNatClampNeg s a0 b0 c0 a1 b1 c1) (s2 : SR n (cst co) (VA n k pl be pp pf re op) (i.toNatClampNeg + 1) w a1 b1 c1 a2 b2 c2) : SR n (cst co) (VA n k pl be pp pf re op) i.toNatClampNeg s a0 b0 c0 a2 b2 c2 := by
  rw [tn_succ h0 h1] at s1
  exact h.comp hi hw s1 s2
theorem SIN.compI {n k : Nat} {pl be co pp pf : Nat → Int32} {re op : Int} {i i1 i2 : Int32} {s w : Nat} {pa si bo : Int} {a0 b0 c0 a1 b1 c1 a2 b2 c2 : Int} (h : SIN n k pl be co pp pf re i.toNatClampNeg s pa si bo) (h0 : 0 ≤ i.toInt) (h1 : i1.toInt = i.toInt + 1) (h2 : i2.toInt = i.toInt + 1) (hi : i.toNatClampNeg < n) (hw : WOB s w i.toNatClampNeg) (s1 : SR n (cst co) (VA n k pl be pp pf re op) i1.toNatClampNeg s a0 b0 c0 a1 b1 c1) (s2 : SR n (cst co) (VA n k pl be pp pf re op) i2.toNatClampNeg w a1 b1 c1 a2 b2 c2) : SR n (cst co) (VA n k pl be pp pf re op) i.toNatClampNeg s a0 b0 c0 a2 b2 c2 := by
  rw [tn_succ h0 h2] at s2
  exact h.compJ h0 h1 hi hw s1 s2
theorem SIN.startI {n k : Nat} {pl be co pp pf : Nat → Int32} {re : Int} {s : Nat} (hs : s = 2 ^ n - 1) (hh : HA n k pl be pp pf re s) : SIN n k pl be co pp pf re (Int32.toNatClampNeg 0) s 0 0 0 := by
  rw [tn0]
  exact SIN.start hs hh
