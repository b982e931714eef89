/-! p34, p35: the machine's sets and numbers against those of chm -/
theorem nI_tn {x : Int32} (h : 0 ≤ x.toInt) : x = nI x.toNatClampNeg := by
  obtain ⟨j, hj, e⟩ := nI_of (x := x) (fun c => by have := Int32.lt_iff_toInt_lt.mp c; have h0 : (0 : Int32).toInt = 0 := rfl; omega)
  subst e
  rw [nI_clamp hj]
theorem tnl {x : Int32} : x.toNatClampNeg < 2 ^ 31 := by
  have := i32_rng x
  rw [Int32.toNatClampNeg]
  omega
theorem sh31 : ∀ i, i < 31 → ((nI i &&& 31).toBitVec.smod 32).toNat = i := by decide +kernel
theorem bit_ti {p i y x : Int32} (ey : y = p >>> (i &&& 31)) (ex : x = y &&& 1) (hp : 0 ≤ p.toInt) (h0 : 0 ≤ i.toInt) (h1 : i.toInt ≤ 30) : (x.toInt = 1 ∧ p.toNatClampNeg.testBit i.toNatClampNeg = true) ∨ (x.toInt = 0 ∧ p.toNatClampNeg.testBit i.toNatClampNeg = false) := by
  have hi := tn h0
  have hpl : p.toNatClampNeg < 2 ^ 31 := tnl
  have ep := nI_tn hp
  have ei := nI_tn h0
  generalize p.toNatClampNeg = P at ep hpl ⊢
  generalize i.toNatClampNeg = I at ei hi ⊢
  have hd : P / 2 ^ I ≤ P := Nat.div_le_self _ _
  rw [ex, ey, ep, ei, pk_shrN hpl _ I (sh31 I (by omega)), Nat.testBit_eq_decide_div_mod_eq]
  generalize P / 2 ^ I = Z at hd ⊢
  have e1 : nI Z &&& 1 = nI (Z % 2 ^ 1) := pk_andN (by omega) 1 (by decide)
  rw [e1, nI_toInt (by omega)]
  by_cases c : Z % 2 = 1
  · exact Or.inl ⟨by omega, by simp [c]⟩
  · exact Or.inr ⟨by omega, by simp [c]⟩
theorem shl_ti {n x : Int32} (ex : x = (1 : Int32) <<< (n &&& 31)) (h0 : 0 ≤ n.toInt) (h1 : n.toInt ≤ 12) : x.toInt = ((2 ^ n.toNatClampNeg : Nat) : Int) := by
  have hi := tn h0
  have ei := nI_tn h0
  generalize n.toNatClampNeg = N at ei hi ⊢
  have key : ∀ k, k < 13 → ((1 : Int32) <<< (nI k &&& 31)).toInt = ((2 ^ k : Nat) : Int) := by decide +kernel
  rw [ex, ei]
  exact key N (by omega)
theorem pow12 {n : Nat} (h : n ≤ 12) : 1 ≤ 2 ^ n ∧ 2 ^ n ≤ 4096 := by
  have key : ∀ k, k < 13 → 1 ≤ 2 ^ k ∧ 2 ^ k ≤ 4096 := by decide +kernel
  exact key n (by omega)
theorem nb_and (a b : Nat) : nI a &&& nI b = nI (a &&& b) := by
  apply Int32.toBitVec_inj.1
  show BitVec.ofNat 32 a &&& BitVec.ofNat 32 b = BitVec.ofNat 32 (a &&& b)
  apply BitVec.eq_of_getLsbD_eq
  intro i hi
  simp [hi]
theorem nb_xor (a b : Nat) : nI a ^^^ nI b = nI (a ^^^ b) := by
  apply Int32.toBitVec_inj.1
  show BitVec.ofNat 32 a ^^^ BitVec.ofNat 32 b = BitVec.ofNat 32 (a ^^^ b)
  apply BitVec.eq_of_getLsbD_eq
  intro i hi
  simp [hi]
theorem nb_neg {k : Nat} (h : k < 4096) : -(nI k) = nI (4294967296 - k) := by
  apply Int32.toBitVec_inj.1
  show -(BitVec.ofNat 32 k) = BitVec.ofNat 32 (4294967296 - k)
  apply BitVec.eq_of_toNat_eq
  rw [BitVec.toNat_neg, BitVec.toNat_ofNat, BitVec.toNat_ofNat, Nat.mod_eq_of_lt (show k < 2 ^ 32 by omega)]
theorem wo_msk : ∀ k, k < 12 → ((1 : Int32) <<< (nI k &&& 31)) ^^^ (-1) = nI (2 ^ 32 - (2 ^ k + 1)) := by decide +kernel
theorem wo_ti {s i x y w : Int32} (e1 : x = (1 : Int32) <<< (i &&& 31)) (e2 : y = x ^^^ (-1)) (e3 : w = s &&& y) (hs : 0 ≤ s.toInt) (hs2 : s.toInt ≤ 4095) (h0 : 0 ≤ i.toInt) (h1 : i.toInt ≤ 11) : (0 ≤ w.toInt ∧ w.toInt ≤ 4095) ∧ WOB s.toNatClampNeg w.toNatClampNeg i.toNatClampNeg := by
  have hi := tn h0
  have hS := tn hs
  have ei := nI_tn h0
  have es := nI_tn hs
  generalize i.toNatClampNeg = I at ei hi ⊢
  generalize s.toNatClampNeg = S at es hS ⊢
  have ew : w = nI (S &&& (2 ^ 32 - (2 ^ I + 1))) := by rw [e3, e2, e1, ei, es, wo_msk I (by omega), nb_and]
  have hle : S &&& (2 ^ 32 - (2 ^ I + 1)) ≤ S := Nat.and_le_left
  have hb : ∀ j, (2 ^ 32 - (2 ^ I + 1)).testBit j = (decide (j < 32) && !(decide (I = j))) := by
    intro j
    have hp : 2 ^ I < 2 ^ 32 := Nat.pow_lt_pow_right (by decide) (by omega)
    rw [Nat.testBit_two_pow_sub_succ hp, Nat.testBit_two_pow]
  have hbt : ∀ j, (S &&& (2 ^ 32 - (2 ^ I + 1))).testBit j = (S.testBit j && (decide (j < 32) && !(decide (I = j)))) := fun j => by rw [Nat.testBit_and, hb]
  generalize S &&& (2 ^ 32 - (2 ^ I + 1)) = W at ew hle hbt
  have hw : w.toInt = (W : Int) := by rw [ew, nI_toInt (by omega)]
  have hwt : w.toNatClampNeg = W := by rw [ew, nI_clamp (by omega)]
  rw [hwt]
  refine ⟨⟨by omega, by omega⟩, by omega, ?_, fun j hj => ?_⟩
  · rw [hbt I]; simp
  · rw [hbt j]
    by_cases q : j < 32
    · have hn : ¬ I = j := fun e => hj e.symm
      simp [q, hn]
    · have hp : 2 ^ 12 ≤ 2 ^ j := Nat.pow_le_pow_right (by decide) (by omega)
      rw [Nat.testBit_lt_two_pow (show S < 2 ^ j from Nat.lt_of_lt_of_le (by omega) hp)]
      rfl
/-! the first one that differs -/
def lchk (k : Nat) : Bool := k == 0 || (let v := k &&& (4294967296 - k); let i := v.log2; v == 2 ^ i && k % (2 ^ (i + 1)) == 2 ^ i && decide (i < 12))
theorem low_chk : ∀ a, a < 64 → ∀ b, b < 64 → lchk (64 * a + b) = true := by decide +kernel
theorem low {k : Nat} (h : k < 4096) (hk : k ≠ 0) : ∃ i, i < 12 ∧ k &&& (4294967296 - k) = 2 ^ i ∧ k.testBit i = true ∧ ∀ j, j < i → k.testBit j = false := by
  have h1 := low_chk (k / 64) (by omega) (k % 64) (by omega)
  have e : 64 * (k / 64) + k % 64 = k := by omega
  rw [e] at h1
  simp only [lchk, Bool.or_eq_true, Bool.and_eq_true, beq_iff_eq, decide_eq_true_eq] at h1
  rcases h1 with h1 | ⟨⟨h2, h3⟩, h4⟩
  · exact absurd h1 hk
  · generalize (k &&& (4294967296 - k)).log2 = i at h2 h3 h4
    have hb : ∀ j, j < i + 1 → k.testBit j = decide (i = j) := by
      intro j hj
      have q := Nat.testBit_mod_two_pow k (i + 1) j
      rw [h3, Nat.testBit_two_pow] at q
      rw [decide_eq_true hj, Bool.true_and] at q
      exact q.symm
    exact ⟨i, h4, h2, by rw [hb i (by omega)]; simp, fun j hj => by rw [hb j (by omega)]; simp; omega⟩
def ISF (a b r : Int32) : Prop := (r.toInt = 1 ∧ FST a.toNatClampNeg b.toNatClampNeg) ∨ (r.toInt = 0 ∧ ¬ FST a.toNatClampNeg b.toNatClampNeg)
theorem isf_0 {a b d : Int32} (ed : d = a ^^^ b) (ha : 0 ≤ a.toInt ∧ a.toInt ≤ 4095) (hb : 0 ≤ b.toInt ∧ b.toInt ≤ 4095) (hd : d.toInt = 0) : ISF a b 0 := by
  have hA := tn ha.1
  have hB := tn hb.1
  have ea := nI_tn ha.1
  have eb := nI_tn hb.1
  refine Or.inr ⟨rfl, ?_⟩
  generalize a.toNatClampNeg = P at ea hA ⊢
  generalize b.toNatClampNeg = Q at eb hB ⊢
  have hx : P ^^^ Q < 2 ^ 12 := Nat.xor_lt_two_pow (by omega) (by omega)
  have e2 : d = nI (P ^^^ Q) := by rw [ed, ea, eb, nb_xor]
  rw [e2, nI_toInt (by omega)] at hd
  have hz : P ^^^ Q = 0 := by omega
  have he : P = Q := by
    refine Nat.eq_of_testBit_eq (fun j => ?_)
    have q : (P ^^^ Q).testBit j = false := by rw [hz]; simp
    rw [Nat.testBit_xor] at q
    cases h1 : P.testBit j <;> cases h2 : Q.testBit j <;> simp [h1, h2] at q ⊢
  subst he
  exact fun h => h.asymm h
theorem isf_x {a b d x y z : Int32} (ed : d = a ^^^ b) (e1 : x = a &&& d) (e2 : y = -d) (e3 : z = x &&& y) (ha : 0 ≤ a.toInt ∧ a.toInt ≤ 4095) (hb : 0 ≤ b.toInt ∧ b.toInt ≤ 4095) (hd : d.toInt ≠ 0) : (z.toInt ≠ 0 ∧ FST a.toNatClampNeg b.toNatClampNeg) ∨ (z.toInt = 0 ∧ ¬ FST a.toNatClampNeg b.toNatClampNeg) := by
  have hA := tn ha.1
  have hB := tn hb.1
  have ea := nI_tn ha.1
  have eb := nI_tn hb.1
  generalize a.toNatClampNeg = P at ea hA ⊢
  generalize b.toNatClampNeg = Q at eb hB ⊢
  have hx : P ^^^ Q < 2 ^ 12 := Nat.xor_lt_two_pow (by omega) (by omega)
  have e4 : d = nI (P ^^^ Q) := by rw [ed, ea, eb, nb_xor]
  have hn : P ^^^ Q ≠ 0 := by
    intro c
    rw [c] at e4
    rw [e4] at hd
    exact hd rfl
  have hbit : ∀ j, (P ^^^ Q).testBit j = (P.testBit j ^^ Q.testBit j) := fun j => Nat.testBit_xor P Q j
  have ez : z = nI ((P &&& (P ^^^ Q)) &&& (4294967296 - (P ^^^ Q))) := by rw [e3, e1, e2, e4, ea, nb_neg (by omega), nb_and, nb_and]
  generalize P ^^^ Q = V at e4 hn hx hbit ez
  obtain ⟨i, hi, hl1, hl2, hl3⟩ := low (k := V) (by omega) hn
  have ez2 : z = nI (P &&& 2 ^ i) := by rw [ez, Nat.and_assoc, hl1]
  have hple : P &&& 2 ^ i ≤ P := Nat.and_le_left
  have ezt : z.toInt = ((P &&& 2 ^ i : Nat) : Int) := by rw [ez2, nI_toInt (by omega)]
  have hz : (P &&& 2 ^ i).testBit i = P.testBit i := by rw [Nat.testBit_and, Nat.testBit_two_pow]; simp
  have hbelow : ∀ j, j < i → P.testBit j = Q.testBit j := by
    intro j hj
    have q := hl3 j hj
    rw [hbit] at q
    cases h1 : P.testBit j <;> cases h2 : Q.testBit j <;> simp [h1, h2] at q ⊢
  rw [hbit] at hl2
  cases h1 : P.testBit i with
  | true =>
    have h2 : Q.testBit i = false := by cases h2 : Q.testBit i <;> simp [h1, h2] at hl2 ⊢
    refine Or.inl ⟨?_, i, h1, h2, hbelow⟩
    intro c
    have hc : P &&& 2 ^ i = 0 := by omega
    rw [hc, h1] at hz
    simp at hz
  | false =>
    have h2 : Q.testBit i = true := by cases h2 : Q.testBit i <;> simp [h1, h2] at hl2 ⊢
    refine Or.inr ⟨?_, fun h => h.asymm ⟨i, h2, h1, fun j hj => (hbelow j hj).symm⟩⟩
    have hc : P &&& 2 ^ i = 0 := by
      refine Nat.eq_of_testBit_eq (fun j => ?_)
      rw [Nat.testBit_and, Nat.testBit_two_pow]
      by_cases q : i = j
      · subst q; simp [h1]
      · simp [q]
    omega
theorem isf_1 {a b d x y z : Int32} (ed : d = a ^^^ b) (e1 : x = a &&& d) (e2 : y = -d) (e3 : z = x &&& y) (ha : 0 ≤ a.toInt ∧ a.toInt ≤ 4095) (hb : 0 ≤ b.toInt ∧ b.toInt ≤ 4095) (hd : d.toInt ≠ 0) (hz : z.toInt ≠ 0) : ISF a b 1 := by
  rcases isf_x ed e1 e2 e3 ha hb hd with h | h
  · exact Or.inl ⟨rfl, h.2⟩
  · exact absurd h.1 hz
theorem isf_2 {a b d x y z : Int32} (ed : d = a ^^^ b) (e1 : x = a &&& d) (e2 : y = -d) (e3 : z = x &&& y) (ha : 0 ≤ a.toInt ∧ a.toInt ≤ 4095) (hb : 0 ≤ b.toInt ∧ b.toInt ≤ 4095) (hd : d.toInt ≠ 0) (hz : z.toInt = 0) : ISF a b 0 := by
  rcases isf_x ed e1 e2 e3 ha hb hd with h | h
  · exact absurd hz h.1
  · exact Or.inr ⟨rfl, h.2⟩
/-! sums as loops make them -/
def SMI (f : Nat → Int) (p i a : Int32) : Prop := a.toInt = sm f p.toNatClampNeg i.toNatClampNeg
theorem tn_succ {i i' : Int32} (h0 : 0 ≤ i.toInt) (h : i'.toInt = i.toInt + 1) : i'.toNatClampNeg = i.toNatClampNeg + 1 := by
  have h1 := tn h0
  have h2 := tn (x := i') (by omega)
  omega
theorem SMI.step {f : Nat → Int} {p i i' a a' y x : Int32} {v : Int} (h : SMI f p i a) (ey : y = p >>> (i &&& 31)) (ex : x = y &&& 1) (hp : 0 ≤ p.toInt) (h0 : 0 ≤ i.toInt) (h1 : i.toInt ≤ 30) (hi : i'.toInt = i.toInt + 1) (hv : v = f i.toNatClampNeg) (ha : (x.toInt = 1 → a'.toInt = a.toInt + v) ∧ (x.toInt = 0 → a'.toInt = a.toInt)) : SMI f p i' a' := by
  unfold SMI at *
  rw [tn_succ h0 hi]
  simp only [sm]
  rcases bit_ti ey ex hp h0 h1 with ⟨q1, q2⟩ | ⟨q1, q2⟩
  · rw [if_pos q2, ← h, ← hv]; exact ha.1 q1
  · rw [if_neg (by rw [q2]; decide), ← h]; have := ha.2 q1; omega
theorem sm_ext {f : Nat → Int} {s n : Nat} (hs : s < 2 ^ n) : ∀ k, sm f s (n + k) = sm f s n := by
  intro k
  induction k with
  | zero => rfl
  | succ k ih =>
    have hp : 2 ^ n ≤ 2 ^ (n + k) := Nat.pow_le_pow_right (by decide) (by omega)
    have e : sm f s (n + (k + 1)) = sm f s (n + k) + (if s.testBit (n + k) = true then f (n + k) else 0) := rfl
    rw [e, Nat.testBit_lt_two_pow (Nat.lt_of_lt_of_le hs hp), ih]
    simp
theorem sm_12 {f : Nat → Int} {s n : Nat} (hs : s < 2 ^ n) (hn : n ≤ 12) : sm f s 12 = sm f s n := by
  have h := sm_ext (f := f) hs (12 - n)
  have e : n + (12 - n) = 12 := by omega
  rw [e] at h
  exact h
/-! does a set hold a pull -/
def HLI (pl be pp : Nat → Int32) (re : Int) (s p i a m : Int32) : Prop := a.toInt = sm (rch pl be (pp p.toNatClampNeg).toInt re) s.toNatClampNeg i.toNatClampNeg ∧ m.toInt = mx (rch pl be (pp p.toNatClampNeg).toInt re) s.toNatClampNeg i.toNatClampNeg
theorem HLI.no {pl be pp : Nat → Int32} {re : Int} {s p i i' a m y x : Int32} (h : HLI pl be pp re s p i a m) (ey : y = s >>> (i &&& 31)) (ex : x = y &&& 1) (hs : 0 ≤ s.toInt) (h0 : 0 ≤ i.toInt) (h1 : i.toInt ≤ 30) (hi : i'.toInt = i.toInt + 1) (hx : x.toInt ≠ 1) : HLI pl be pp re s p i' a m := by
  rcases bit_ti ey ex hs h0 h1 with ⟨q1, q2⟩ | ⟨q1, q2⟩
  · exact absurd q1 hx
  · unfold HLI at *
    rw [tn_succ h0 hi]
    simp only [sm, mx]
    rw [q2]
    simp
    exact h
theorem HLI.far {pl be pp : Nat → Int32} {re : Int} {s p i i' a m y x u v : Int32} (h : HLI pl be pp re s p i a m) (ey : y = s >>> (i &&& 31)) (ex : x = y &&& 1) (hs : 0 ≤ s.toInt) (h0 : 0 ≤ i.toInt) (h1 : i.toInt ≤ 30) (hi : i'.toInt = i.toInt + 1) (eu : u = pl i.toNatClampNeg) (ev : v = pp p.toNatClampNeg) (hf : ¬ (-re ≤ u.toInt - v.toInt ∧ u.toInt - v.toInt ≤ re)) : HLI pl be pp re s p i' a m := by
  have hz : rch pl be (pp p.toNatClampNeg).toInt re i.toNatClampNeg = 0 := by
    unfold rch
    rw [← eu, ← ev, if_neg hf]
  have hn := mx_nn (f := rch pl be (pp p.toNatClampNeg).toInt re) (s := s.toNatClampNeg) i.toNatClampNeg
  unfold HLI at *
  rw [tn_succ h0 hi]
  simp only [sm, mx]
  rw [hz]
  refine ⟨?_, ?_⟩
  · split <;> omega
  · split <;> omega
theorem HLI.near {pl be pp : Nat → Int32} {re : Int} {s p i i' a m a' m' y x u v w : Int32} (h : HLI pl be pp re s p i a m) (ey : y = s >>> (i &&& 31)) (ex : x = y &&& 1) (hs : 0 ≤ s.toInt) (h0 : 0 ≤ i.toInt) (h1 : i.toInt ≤ 30) (hi : i'.toInt = i.toInt + 1) (hx : x.toInt ≠ 0) (eu : u = pl i.toNatClampNeg) (ev : v = pp p.toNatClampNeg) (hf : -re ≤ u.toInt - v.toInt ∧ u.toInt - v.toInt ≤ re) (ew : w = be i.toNatClampNeg) (ha : a'.toInt = a.toInt + w.toInt) (hm : m'.toInt = max m.toInt w.toInt) : HLI pl be pp re s p i' a' m' := by
  have hz : rch pl be (pp p.toNatClampNeg).toInt re i.toNatClampNeg = w.toInt := by
    unfold rch
    rw [← eu, ← ev, ← ew, if_pos hf]
  rcases bit_ti ey ex hs h0 h1 with ⟨q1, q2⟩ | ⟨q1, q2⟩
  · unfold HLI at *
    rw [tn_succ h0 hi]
    simp only [sm, mx]
    rw [hz, if_pos q2, if_pos q2]
    refine ⟨?_, ?_⟩ <;> omega
  · exact absurd q1 hx
def RHO (n : Nat) (pl be pp pf : Nat → Int32) (re : Int) (s p r : Int32) : Prop := (r.toInt = 1 ∧ HO n pl be pp pf re s.toNatClampNeg p.toNatClampNeg) ∨ (r.toInt = 0 ∧ ¬ HO n pl be pp pf re s.toNatClampNeg p.toNatClampNeg)
theorem HLI.end {n : Nat} {pl be pp pf : Nat → Int32} {re : Int} {s p i a m r w d : Int32} (h : HLI pl be pp re s p i a m) (hn : (n : Int) = i.toInt) (ew : w = pf p.toNatClampNeg) (hd : d.toInt = a.toInt - m.toInt) (hr : (r.toInt = 1 ∧ w.toInt ≤ d.toInt) ∨ (r.toInt = 0 ∧ d.toInt < w.toInt)) : RHO n pl be pp pf re s p r := by
  have e := tn (x := i) (by omega)
  have en : i.toNatClampNeg = n := by omega
  unfold HLI at h
  rw [en] at h
  unfold RHO HO
  rw [← ew, ← h.1, ← h.2]
  rcases hr with ⟨q1, q2⟩ | ⟨q1, q2⟩
  · exact Or.inl ⟨q1, by omega⟩
  · exact Or.inr ⟨q1, by omega⟩
def RHA (n k : Nat) (pl be pp pf : Nat → Int32) (re : Int) (s r : Int32) : Prop := (r.toInt = 1 ∧ HA n k pl be pp pf re s.toNatClampNeg) ∨ (r.toInt = 0 ∧ ¬ HA n k pl be pp pf re s.toNatClampNeg)
theorem ha_step {n : Nat} {pl be pp pf : Nat → Int32} {re : Int} {s p p' r : Int32} (h : HA n p.toNatClampNeg pl be pp pf re s.toNatClampNeg) (hr : RHO n pl be pp pf re s p r) (h0 : 0 ≤ p.toInt) (hp : p'.toInt = p.toInt + 1) (hx : r.toInt ≠ 0) : HA n p'.toNatClampNeg pl be pp pf re s.toNatClampNeg := by
  rw [tn_succ h0 hp]
  intro q hq
  by_cases c : q < p.toNatClampNeg
  · exact h q c
  · have e : q = p.toNatClampNeg := by omega
    subst e
    rcases hr with ⟨_, q2⟩ | ⟨q1, _⟩
    · exact q2
    · exact absurd q1 hx
theorem ha_zero {n : Nat} {pl be pp pf : Nat → Int32} {re : Int} {s : Int32} : HA n (Int32.toNatClampNeg 0) pl be pp pf re s.toNatClampNeg := by
  intro p hp
  have e : Int32.toNatClampNeg 0 = 0 := by decide
  omega
theorem rha_no {n k : Nat} {pl be pp pf : Nat → Int32} {re : Int} {s p r : Int32} (hr : RHO n pl be pp pf re s p r) (h0 : 0 ≤ p.toInt) (hk : p.toInt < (k : Int)) (hx : r.toInt = 0) : RHA n k pl be pp pf re s 0 := by
  have e := tn h0
  rcases hr with ⟨q1, _⟩ | ⟨_, q2⟩
  · omega
  · exact Or.inr ⟨rfl, fun h => q2 (h _ (by omega))⟩
theorem rha_yes {n k : Nat} {pl be pp pf : Nat → Int32} {re : Int} {s p : Int32} (h : HA n p.toNatClampNeg pl be pp pf re s.toNatClampNeg) (h0 : 0 ≤ p.toInt) (hk : (k : Int) ≤ p.toInt) : RHA n k pl be pp pf re s 1 := by
  have e := tn h0
  exact Or.inl ⟨rfl, fun q hq => h q (by omega)⟩
