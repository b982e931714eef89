/-! the reference's reading: what waits, how high the pile stands -/
def HID (P : Prop) : Prop := P
theorem HID.of {P : Prop} (h : P) : HID P := h
theorem HID.out {P : Prop} (h : HID P) : P := h
def wt (v : Int32) : Int := if (1 ≤ v.toInt ∧ v.toInt ≤ 4) ∨ v.toInt = 14 ∨ v.toInt = 15 ∨ v.toInt = 23 ∨ v.toInt = 24 then 1 else 0
theorem wt_1 {v : Int32} (h : (1 ≤ v.toInt ∧ v.toInt ≤ 4) ∨ v.toInt = 14 ∨ v.toInt = 15 ∨ v.toInt = 23 ∨ v.toInt = 24) : wt v = 1 := if_pos h
theorem wt_0 {v : Int32} (h : ¬ ((1 ≤ v.toInt ∧ v.toInt ≤ 4) ∨ v.toInt = 14 ∨ v.toInt = 15 ∨ v.toInt = 23 ∨ v.toInt = 24)) : wt v = 0 := if_neg h
theorem wt_nn (v : Int32) : 0 ≤ wt v := by
  unfold wt
  split <;> omega
def wsum (g : Nat → Int32) : Nat → Int
  | 0 => 0
  | n + 1 => wsum g n + wt (g n)
theorem wsum_nn (g : Nat → Int32) : ∀ n, 0 ≤ wsum g n := by
  intro n
  induction n with
  | zero => exact Int.le_refl _
  | succ n ih => have := wt_nn (g n); simp only [wsum]; omega
theorem wsum_upd {g : Nat → Int32} {i : Nat} {x : Int32} : ∀ n, n ≤ i → wsum (upd g i x) n = wsum g n := by
  intro n
  induction n with
  | zero => intro _; rfl
  | succ n ih => intro h; simp only [wsum]; rw [ih (by omega), upd_ne (by omega)]
theorem hp_congr {g g' : Nat → Int32} {s : Nat} : ∀ n, (∀ k, k < s + n → g' k = g k) → hp g' s n = hp g s n := by
  intro n
  induction n with
  | zero => intro _; rfl
  | succ n ih => intro h; simp only [hp]; rw [ih (fun k hk => h k (by omega)), h (s + n) (by omega)]
theorem hp_upd {g : Nat → Int32} {s i : Nat} {x : Int32} {n : Nat} (h : s + n ≤ i) : hp (upd g i x) s n = hp g s n := hp_congr n (fun k hk => upd_ne (by omega))
def SET_T (v : Int32) : Prop := v.toInt = 14 ∨ v.toInt = 15 ∨ v.toInt = 16 ∨ v.toInt = 25
def SET_S (v : Int32) : Prop := (1 ≤ v.toInt ∧ v.toInt ≤ 4) ∨ (20 ≤ v.toInt ∧ v.toInt ≤ 24)
/-- codes from s0 up to n are good so far, their height is what waits and e; of what waits the first b are of tests, the others of sums -/
def PG (s0 e b : Int) (c : Nat → Int32) (n : Int) (w : Nat → Int32) (m : Int) : Prop :=
  (0 ≤ s0 ∧ s0 ≤ n ∧ 0 ≤ b ∧ b ≤ m ∧ 0 ≤ e) ∧ hp c s0.toNat (n - s0).toNat = wsum w m.toNat + e ∧ (∀ j : Nat, 1 ≤ j → s0 + j ≤ n → 1 ≤ hp c s0.toNat j) ∧ (∀ k : Nat, (k : Int) < b → SET_T (w k)) ∧ (∀ k : Nat, b ≤ k → (k : Int) < m → SET_S (w k))
/-- only from s0 on and below 700 has been written -/
def FR (c0 : Nat → Int32) (s0 : Int) (c : Nat → Int32) : Prop := ∀ k : Nat, (700 ≤ k ∨ (k : Int) < s0) → c k = c0 k
def PB (c0 : Nat → Int32) (s0 e b : Int) (c : Nat → Int32) (n : Int) (w : Nat → Int32) (m bad : Int) : Prop := FR c0 s0 c ∧ s0 ≤ n ∧ (bad ≠ 0 ∨ PG s0 e b c n w m)
theorem FR.rf {c0 : Nat → Int32} {s0 : Int} : FR c0 s0 c0 := fun _ _ => rfl
theorem FR.put {c0 c : Nat → Int32} {s0 : Int} {i x : Int32} (h : FR c0 s0 c) (h0 : 0 ≤ i.toInt) (h1 : s0 ≤ i.toInt) (h2 : i.toInt < 700) : FR c0 s0 (upd c i.toNatClampNeg x) := by
  intro k hk
  have e := tn h0
  rw [upd_ne (by omega)]
  exact h k hk
theorem PB.bad {c0 c c' : Nat → Int32} {s0 e b n w m bad e' b' n' w' m' bad'} (h : PB c0 s0 e b c n w m bad) (hb : bad' ≠ 0) (hc : c' = c) (hn : n' = n) : PB c0 s0 e' b' c' n' w' m' bad' := by
  subst hc hn
  exact ⟨h.1, h.2.1, Or.inl hb⟩
theorem PB.same {c0 c : Nat → Int32} {s0 e b n w m bad e' b' n' m' bad'} (h : PB c0 s0 e b c n w m bad) (he : e' = e) (hb : b' = b) (hn : n' = n) (hm : m' = m) (hbad : bad' = bad) : PB c0 s0 e' b' c n' w m' bad' := by
  subst he hb hn hm hbad
  exact h
theorem PB.init {c w : Nat → Int32} {n s0 e b m bad : Int} (h0 : 0 ≤ n) (hs : s0 = n) (he : e = 0) (hb : b = 0) (hm : m = 0) : PB c s0 e b c n w m bad := by
  subst hs he hb hm
  refine ⟨FR.rf, Int.le_refl _, Or.inr ⟨⟨h0, Int.le_refl _, Int.le_refl _, Int.le_refl _, Int.le_refl _⟩, ?_, fun j h1 h2 => absurd h2 (by omega), fun k hk => absurd hk (by omega), fun k _ hk => absurd hk (by omega)⟩⟩
  rw [Int.sub_self]
  rfl
/-- a code more -/
theorem PB.app {c0 c w : Nat → Int32} {s0 e b n m bad e' n' : Int} {i v : Int32} (h : PB c0 s0 e b c n w m bad) (hi : i.toInt = n) (h0 : 0 ≤ n) (h7 : n < 700) (hn : n' = n + 1) (he : e' = e + dl v) (h1 : 1 ≤ e') : PB c0 s0 e' b (upd c i.toNatClampNeg v) n' w m bad := by
  obtain ⟨hF, hs, hG⟩ := h
  subst hn
  have ei := tn (x := i) (by omega)
  refine ⟨hF.put (by omega) (by omega) (by omega), by omega, hG.imp id (fun hG => ?_)⟩
  obtain ⟨⟨g0, g1, g2, g3, g4⟩, gh, gp, gt, gs⟩ := hG
  have e1 : (n + 1 - s0).toNat = (n - s0).toNat + 1 := by omega
  have e2 : s0.toNat + (n - s0).toNat = i.toNatClampNeg := by omega
  have hh : hp (upd c i.toNatClampNeg v) s0.toNat (n + 1 - s0).toNat = wsum w m.toNat + e' := by
    rw [e1, hp, e2, upd_eq, hp_upd (by omega), gh, he]
    omega
  refine ⟨⟨g0, by omega, g2, g3, by omega⟩, hh, fun j j1 j2 => ?_, gt, gs⟩
  by_cases c1 : s0 + j ≤ n
  · rw [hp_upd (by omega)]; exact gp j j1 c1
  · have : j = (n + 1 - s0).toNat := by omega
    rw [this, hh]
    have := wsum_nn w m.toNat
    omega
/-- one of a sum's that waits is dropped -/
theorem PB.drop {c0 c w : Nat → Int32} {s0 e b n m bad n' m' : Int} {i u : Int32} (h : PB c0 s0 e b c n w m bad) (hi : i.toInt = n) (h0 : 0 ≤ n) (h7 : n < 700) (hn : n' = n + 1) (hu : u.toInt = m - 1) (hm : m' = m - 1) (hb : b < m) (hb0 : 0 ≤ b) (he : 1 ≤ e) (hv : bad ≠ 0 ∨ (1 ≤ (w u.toNatClampNeg).toInt ∧ (w u.toNatClampNeg).toInt ≤ 4)) : PB c0 s0 e b (upd c i.toNatClampNeg (w u.toNatClampNeg)) n' w m' bad := by
  by_cases hbad : bad = 0
  · have hv := hv.resolve_left (by omega)
    have h2 : PB c0 s0 (e + 1) b c n w m' bad := by
      obtain ⟨hF, hs, hG⟩ := h
      refine ⟨hF, hs, hG.imp id (fun hG => ?_)⟩
      obtain ⟨⟨g0, g1, g2, g3, g4⟩, gh, gp, gt, gs⟩ := hG
      have eu := tn (x := u) (by omega)
      have em : m.toNat = m'.toNat + 1 := by omega
      have eu2 : m'.toNat = u.toNatClampNeg := by omega
      refine ⟨⟨g0, g1, g2, by omega, by omega⟩, ?_, gp, gt, fun k k1 k2 => gs k k1 (by omega)⟩
      rw [gh, em, wsum, eu2, wt_1 (Or.inl hv)]
      omega
    exact h2.app hi h0 h7 hn (by rw [dl_m (by omega)]; omega) he
  · exact ⟨h.1.put (by omega) (by have := h.2.1; omega) (by omega), by have := h.2.1; omega, Or.inl hbad⟩
/-- one of a test's is dropped -/
theorem PB.dropT {c0 c w : Nat → Int32} {s0 e b n m bad n' m' b' : Int} {i u : Int32} (h : PB c0 s0 e b c n w m bad) (hbm : b = m) (hi : i.toInt = n) (h0 : 0 ≤ n) (h7 : n < 700) (hn : n' = n + 1) (hu : u.toInt = m - 1) (hm : m' = m - 1) (hb' : b' = m - 1) (hm0 : 0 < m) (he : 1 ≤ e) (hv : bad ≠ 0 ∨ (w u.toNatClampNeg).toInt ≠ 25) : PB c0 s0 e b' (upd c i.toNatClampNeg (w u.toNatClampNeg)) n' w m' bad := by
  subst hbm hb'
  by_cases hbad : bad = 0
  · have hv := hv.resolve_left (by omega)
    have hG := h.2.2.resolve_left (by omega)
    have eu := tn (x := u) (by omega)
    have hT : SET_T (w u.toNatClampNeg) := hG.2.2.2.1 _ (by omega)
    have h2 : PB c0 s0 (e + wt (w u.toNatClampNeg)) (b - 1) c n w m' bad := by
      obtain ⟨hF, hs, hG⟩ := h
      refine ⟨hF, hs, hG.imp id (fun hG => ?_)⟩
      obtain ⟨⟨g0, g1, g2, g3, g4⟩, gh, gp, gt, gs⟩ := hG
      have em : b.toNat = m'.toNat + 1 := by omega
      have eu2 : m'.toNat = u.toNatClampNeg := by omega
      have := wt_nn (w u.toNatClampNeg)
      refine ⟨⟨g0, g1, by omega, by omega, by omega⟩, ?_, gp, fun k k1 => gt k (by omega), fun k k1 k2 => absurd k2 (by omega)⟩
      rw [gh, em, wsum, eu2]
      omega
    rcases hT with hT | hT | hT | hT
    · exact h2.app hi h0 h7 hn (by rw [dl_m (by omega), wt_1 (by omega)]; omega) he
    · exact h2.app hi h0 h7 hn (by rw [dl_m (by omega), wt_1 (by omega)]; omega) he
    · exact h2.app hi h0 h7 hn (by rw [dl_0 (by omega), wt_0 (by omega)]; omega) he
    · exact absurd hT hv
  · exact ⟨h.1.put (by omega) (by have := h.2.1; omega) (by omega), by have := h.2.1; omega, Or.inl hbad⟩
/-- one more waits, of a sum -/
theorem PB.pushS {c0 c w : Nat → Int32} {s0 e b n m bad e' m' : Int} {i v : Int32} (h : PB c0 s0 e b c n w m bad) (hi : i.toInt = m) (h0 : 0 ≤ m) (hm : m' = m + 1) (hv : SET_S v) (he : e' = e - wt v) (h1 : 0 ≤ e') : PB c0 s0 e' b c n (upd w i.toNatClampNeg v) m' bad := by
  obtain ⟨hF, hs, hG⟩ := h
  subst hm
  have ei := tn (x := i) (by omega)
  refine ⟨hF, hs, hG.imp id (fun hG => ?_)⟩
  obtain ⟨⟨g0, g1, g2, g3, g4⟩, gh, gp, gt, gs⟩ := hG
  have e1 : (m + 1).toNat = m.toNat + 1 := by omega
  have e2 : m.toNat = i.toNatClampNeg := by omega
  refine ⟨⟨g0, g1, g2, by omega, h1⟩, ?_, gp, fun k hk => ?_, fun k k1 k2 => ?_⟩
  · rw [e1, wsum, wsum_upd _ (by omega), gh, e2, upd_eq]; omega
  · rw [upd_ne (by omega)]; exact gt k hk
  · by_cases c1 : k = i.toNatClampNeg
    · subst c1; rw [upd_eq]; exact hv
    · rw [upd_ne c1]; exact gs k k1 (by omega)
/-- one more waits, of a test -/
theorem PB.pushT {c0 c w : Nat → Int32} {s0 e b n m bad e' m' b' : Int} {i v : Int32} (h : PB c0 s0 e b c n w m bad) (hbm : b = m) (hi : i.toInt = m) (h0 : 0 ≤ m) (hm : m' = m + 1) (hb' : b' = m + 1) (hv : SET_T v) (he : e' = e - wt v) (h1 : 0 ≤ e') : PB c0 s0 e' b' c n (upd w i.toNatClampNeg v) m' bad := by
  obtain ⟨hF, hs, hG⟩ := h
  subst hm hbm hb'
  have ei := tn (x := i) (by omega)
  refine ⟨hF, hs, hG.imp id (fun hG => ?_)⟩
  obtain ⟨⟨g0, g1, g2, g3, g4⟩, gh, gp, gt, gs⟩ := hG
  have e1 : (b + 1).toNat = b.toNat + 1 := by omega
  have e2 : b.toNat = i.toNatClampNeg := by omega
  refine ⟨⟨g0, g1, by omega, Int.le_refl _, h1⟩, ?_, gp, fun k hk => ?_, fun k k1 k2 => absurd k2 (by omega)⟩
  · rw [e1, wsum, wsum_upd _ (by omega), gh, e2, upd_eq]; omega
  · by_cases c1 : k = i.toNatClampNeg
    · subst c1; rw [upd_eq]; exact hv
    · rw [upd_ne c1]; exact gt k (by omega)
/-- the uppermost that waits goes (of a sum) -/
theorem PB.popS {c0 c w : Nat → Int32} {s0 e b n m bad e' m' : Int} {u : Int32} (h : PB c0 s0 e b c n w m bad) (hu : u.toInt = m - 1) (hm : m' = m - 1) (hb : b < m) (hb0 : 0 ≤ b) (he : e' = e + wt (w u.toNatClampNeg)) : PB c0 s0 e' b c n w m' bad := by
  obtain ⟨hF, hs, hG⟩ := h
  refine ⟨hF, hs, hG.imp id (fun hG => ?_)⟩
  obtain ⟨⟨g0, g1, g2, g3, g4⟩, gh, gp, gt, gs⟩ := hG
  have eu := tn (x := u) (by omega)
  have em : m.toNat = m'.toNat + 1 := by omega
  have eu2 : m'.toNat = u.toNatClampNeg := by omega
  have := wt_nn (w u.toNatClampNeg)
  refine ⟨⟨g0, g1, g2, by omega, by omega⟩, ?_, gp, gt, fun k k1 k2 => gs k k1 (by omega)⟩
  rw [gh, em, wsum, eu2, he]
  omega
theorem PB.popT {c0 c w : Nat → Int32} {s0 e b n m bad e' m' b' : Int} {u : Int32} (h : PB c0 s0 e b c n w m bad) (hbm : b = m) (hu : u.toInt = m - 1) (hm : m' = m - 1) (hb' : b' = m - 1) (hm0 : 0 < m) (he : e' = e + wt (w u.toNatClampNeg)) : PB c0 s0 e' b' c n w m' bad := by
  obtain ⟨hF, hs, hG⟩ := h
  subst hbm hb'
  refine ⟨hF, hs, hG.imp id (fun hG => ?_)⟩
  obtain ⟨⟨g0, g1, g2, g3, g4⟩, gh, gp, gt, gs⟩ := hG
  have eu := tn (x := u) (by omega)
  have em : b.toNat = m'.toNat + 1 := by omega
  have eu2 : m'.toNat = u.toNatClampNeg := by omega
  have := wt_nn (w u.toNatClampNeg)
  refine ⟨⟨g0, g1, by omega, by omega, by omega⟩, ?_, gp, fun k k1 => gt k (by omega), fun k k1 k2 => absurd k2 (by omega)⟩
  rw [gh, em, wsum, eu2, he]
  omega
/-- the uppermost becomes another (min, max behind the comma) -/
theorem PB.top {c0 c w : Nat → Int32} {s0 e b n m bad e' : Int} {u v : Int32} (h : PB c0 s0 e b c n w m bad) (hu : u.toInt = m - 1) (hb : b < m) (hb0 : 0 ≤ b) (h0 : bad ≠ 0 ∨ (w u.toNatClampNeg).toInt = 21 ∨ (w u.toNatClampNeg).toInt = 22) (hv : v.toInt = 23 ∨ v.toInt = 24) (he : e' = e - 1) (h1 : 0 ≤ e') : PB c0 s0 e' b c n (upd w u.toNatClampNeg v) m bad := by
  by_cases hbad : bad = 0
  · have h0 := h0.resolve_left (by omega)
    have h2 := h.popS (e' := e) (m' := m - 1) hu rfl hb hb0 (by rw [wt_0 (by omega)]; omega)
    exact h2.pushS hu (by omega) (by omega) (Or.inr (by omega)) (by rw [wt_1 (by omega)]; exact he) h1
  · exact ⟨h.1, h.2.1, Or.inl hbad⟩
/-- no mark from a on, below b -/
def NM (a b : Int) (w : Nat → Int32) : Prop := ∀ k : Nat, a ≤ k → (k : Int) < b → ¬ (20 ≤ (w k).toInt ∧ (w k).toInt ≤ 24)
theorem NM.none {a b : Int} {w : Nat → Int32} (h : b ≤ a) : NM a b w := fun k h1 h2 => absurd h2 (by omega)
theorem NM.mono {a b a' b' : Int} {w : Nat → Int32} (h : NM a b w) (h1 : a ≤ a') (h2 : b' ≤ b) : NM a' b' w := fun k k1 k2 => h k (by omega) (by omega)
theorem NM.more {a a' b : Int} {w : Nat → Int32} {i x : Int32} (h : NM a b w) (h0 : 0 ≤ i.toInt) (hi : a = i.toInt + 1) (ha : a' = i.toInt) (ex : x = w i.toNatClampNeg) (hx : x.toInt < 20 ∨ 24 < x.toInt) : NM a' b w := by
  intro k k1 k2
  have e := tn h0
  by_cases c : k = i.toNatClampNeg
  · subst c; rw [← ex]; omega
  · exact h k (by omega) k2
def MK (b m : Int) (w : Nat → Int32) (r : Int) : Prop := (r = -1 ∧ NM b m w) ∨ (20 ≤ r ∧ r ≤ 24 ∧ ∃ k : Nat, b ≤ k ∧ (k : Int) < m ∧ (w k).toInt = r ∧ NM (k + 1) m w)
def DM (b m : Int) (w : Nat → Int32) (m' : Int) : Prop := b ≤ m' ∧ m' ≤ m ∧ NM m' m w ∧ (m' = b ∨ (20 ≤ (w (m' - 1).toNat).toInt ∧ (w (m' - 1).toNat).toInt ≤ 24))
theorem MK.top {b m : Int} {w : Nat → Int32} {r m' : Int} (h : MK b m w r) (hr : r ≠ -1) (h0 : 0 ≤ b) (hd : DM b m w m') : b < m' ∧ (w (m' - 1).toNat).toInt = r := by
  rcases h with h | ⟨r1, r2, k, k1, k2, k3, k4⟩
  · exact absurd h.1 hr
  · obtain ⟨d1, d2, d3, d4⟩ := hd
    have hk : (k : Int) < m' := by
      refine Int.not_le.mp (fun q => ?_)
      exact d3 k q k2 (by omega)
    refine ⟨by omega, ?_⟩
    have d5 := d4.resolve_left (by omega)
    have e : (m' - 1).toNat = k := by
      refine Classical.byContradiction (fun q => ?_)
      exact k4 (m' - 1).toNat (by omega) (by omega) d5
    rw [e, k3]
theorem DM.at {b m : Int} {w : Nat → Int32} {m' r : Int} {u : Int32} (h : b < m' ∧ (w (m' - 1).toNat).toInt = r) (h0 : 0 ≤ b) (hu : u.toInt = m' - 1) : (w u.toNatClampNeg).toInt = r := by
  have e := tn (x := u) (by omega)
  have e2 : u.toNatClampNeg = (m' - 1).toNat := by omega
  rw [e2]
  exact h.2
theorem MK.none' {b m : Int} {w : Nat → Int32} {r : Int} (h : MK b m w r) (hr : r = -1) : NM b m w := by
  rcases h with h | h
  · exact h.2
  · omega
/-- a square waits -/
def HS (m : Int) (w : Nat → Int32) : Prop := ∃ k : Nat, (k : Int) < m ∧ (w k).toInt = 25
def NQ (m : Int) (w : Nat → Int32) : Prop := ∀ k : Nat, (k : Int) < m → (w k).toInt ≠ 25
theorem NQ.more {m m' : Int} {w : Nat → Int32} {i x : Int32} (h : NQ m w) (h0 : 0 ≤ i.toInt) (hi : m = i.toInt) (hm : m' = i.toInt + 1) (ex : x = w i.toNatClampNeg) (hx : x.toInt ≠ 25) : NQ m' w := by
  intro k hk
  have e := tn h0
  by_cases c : k = i.toNatClampNeg
  · subst c; rw [← ex]; exact hx
  · exact h k (by omega)
theorem NQ.at {m : Int} {w : Nat → Int32} {u : Int32} (h : NQ m w) (h0 : 0 ≤ u.toInt) (hu : u.toInt < m) : (w u.toNatClampNeg).toInt ≠ 25 := h _ (by rw [tn h0]; exact hu)
theorem NQ.mono {m m' : Int} {w : Nat → Int32} (h : NQ m w) (hm : m' ≤ m) : NQ m' w := fun k hk => h k (by omega)
theorem HS.pos {m : Int} {w : Nat → Int32} (h : HS m w) : 0 < m := by
  obtain ⟨k, h1, h2⟩ := h
  omega
theorem HS.below {m m' : Int} {w : Nat → Int32} {u : Int32} (h : HS m w) (h0 : 0 ≤ u.toInt) (hu : u.toInt = m - 1) (hm : m' = m - 1) (hx : (w u.toNatClampNeg).toInt ≠ 25) : HS m' w := by
  obtain ⟨k, h1, h2⟩ := h
  have e := tn h0
  refine ⟨k, ?_, h2⟩
  have : k ≠ u.toNatClampNeg := fun c => hx (by rw [← c]; exact h2)
  omega
/-- what has been read: its codes are good -/
def W0 (g : Nat → Int32) (a b : Int) : Prop := ∀ n : Nat, 1 ≤ n → a + n ≤ b → 1 ≤ hp g a.toNat n
theorem W0.congr {g g' : Nat → Int32} {a b : Int} (h : W0 g a b) (h0 : 0 ≤ a) (hg : ∀ k : Nat, (k : Int) < b → g' k = g k) : W0 g' a b := by
  intro n h1 h2
  rw [hp_congr n (fun k hk => hg k (by omega))]
  exact h n h1 h2
theorem PB.w0 {c0 c w : Nat → Int32} {s0 e b n m bad : Int} (h : PB c0 s0 e b c n w m bad) (hb : bad = 0) : W0 c s0 n := (h.2.2.resolve_left (by omega)).2.2.1
/-- the rules that have been read -/
def RTX (r : Int) (sf se te co : Nat → Int32) (cd : Int) : Prop := ∀ k : Nat, (k : Int) < r → (0 ≤ (sf k).toInt ∧ (sf k).toInt ≤ (se k).toInt ∧ (se k).toInt ≤ (te k).toInt ∧ (te k).toInt ≤ cd) ∧ W0 co (sf k).toInt (se k).toInt ∧ W0 co (se k).toInt (te k).toInt
theorem RTX.zero {r : Int} {sf se te co : Nat → Int32} {cd : Int} (h : r ≤ 0) : RTX r sf se te co cd := fun k hk => absurd hk (by omega)
/-- a rule more -/
theorem RTX.rule {r r' : Int} {sf se te c0 c1 c2 : Nat → Int32} {cd s0 s1 s2 : Int} {i x y z : Int32} (h : RTX r sf se te c0 cd) (hi : i.toInt = r) (h0 : 0 ≤ r) (hr : r' = r + 1) (hcd : cd = s0) (hx : x.toInt = s0) (hy : y.toInt = s1) (hz : z.toInt = s2) (q0 : 0 ≤ s0) (q1 : s0 ≤ s1) (q2 : s1 ≤ s2) (hF0 : FR c0 s0 c1) (hF1 : FR c1 s1 c2) (w1 : W0 c1 s0 s1) (w2 : W0 c2 s1 s2) : RTX r' (upd sf i.toNatClampNeg x) (upd se i.toNatClampNeg y) (upd te i.toNatClampNeg z) c2 s2 := by
  intro k hk
  have ei := tn (x := i) (by omega)
  have hc : ∀ j : Nat, (j : Int) < s0 → c2 j = c0 j := fun j hj => by rw [hF1 j (Or.inr (by omega)), hF0 j (Or.inr hj)]
  by_cases c : k = i.toNatClampNeg
  · subst c
    rw [upd_eq, upd_eq, upd_eq, hx, hy, hz]
    exact ⟨⟨q0, q1, q2, Int.le_refl _⟩, w1.congr q0 (fun j hj => hF1 j (Or.inr hj)), w2⟩
  · rw [upd_ne c, upd_ne c, upd_ne c]
    obtain ⟨⟨a1, a2, a3, a4⟩, a5, a6⟩ := h k (by omega)
    exact ⟨⟨a1, a2, a3, by omega⟩, a5.congr a1 (fun j hj => hc j (by omega)), a6.congr (by omega) (fun j hj => hc j (by omega))⟩
theorem RTX.grow {r : Int} {sf se te co : Nat → Int32} {cd cd' : Int} (h : RTX r sf se te co cd) (hc : cd ≤ cd') : RTX r sf se te co cd' := fun k hk => ⟨⟨(h k hk).1.1, (h k hk).1.2.1, (h k hk).1.2.2.1, Int.le_trans (h k hk).1.2.2.2 hc⟩, (h k hk).2⟩
/-- what stands is not touched by reading -/
theorem TXT.keep {ru sf se te co ru' sf' se' te' co' : Nat → Int32} (h : TXT ru sf se te co) (hr : ru' 1 = ru 1) (hf : ∀ k, 24 ≤ k → sf' k = sf k) (hs : ∀ k, 24 ≤ k → se' k = se k) (ht : ∀ k, 24 ≤ k → te' k = te k) (hc : ∀ k, 700 ≤ k → co' k = co k) (hb : ∀ k, 0 ≤ (sf k).toInt ∧ 0 ≤ (se k).toInt) : TXT ru' sf' se' te' co' := by
  intro k hk
  rw [hr] at hk
  obtain ⟨h1, h2⟩ := h k hk
  rw [hf _ (by omega), hs _ (by omega), ht _ (by omega)]
  have key : ∀ a b : Int, 0 ≤ a → WF co a b → WF co' a b := by
    intro a b h0 h n n1 n2
    have e : hp co' (700 + a).toNat n = hp co (700 + a).toNat n := by
      clear n2 n1
      induction n with
      | zero => rfl
      | succ n ih => simp only [hp]; rw [ih, hc _ (by omega)]
    rw [e]
    exact h n n1 n2
  exact ⟨key _ _ (hb _).1 h1, key _ _ (hb _).2 h2⟩
theorem hp_shift {g g' : Nat → Int32} {s s' : Nat} : ∀ n, (∀ k, k < n → g' (s' + k) = g (s + k)) → hp g' s' n = hp g s n := by
  intro n
  induction n with
  | zero => intro _; rfl
  | succ n ih => intro h; simp only [hp]; rw [ih (fun k hk => h k (by omega)), h n (by omega)]
/-- copied up to k: from o on stands what stood from 0 on -/
def CP (o k : Int) (g0 g : Nat → Int32) : Prop := (∀ j : Nat, (j : Int) < o → g j = g0 j) ∧ (∀ j : Nat, (j : Int) < k → g (o.toNat + j) = g0 j)
theorem CP.zero {o k : Int} {g : Nat → Int32} (h : k ≤ 0) : CP o k g g := ⟨fun _ _ => rfl, fun j hj => absurd hj (by omega)⟩
theorem CP.step {o k k' : Int} {g0 g : Nat → Int32} {i u x : Int32} (h : CP o k g0 g) (ho : 0 ≤ o) (hi : i.toInt = k) (h0 : 0 ≤ k) (hko : k < o) (hu : u.toInt = o + k) (ex : x = g i.toNatClampNeg) (hk : k' = k + 1) : CP o k' g0 (upd g u.toNatClampNeg x) := by
  have ei := tn (x := i) (by omega)
  have eu := tn (x := u) (by omega)
  refine ⟨fun j hj => by rw [upd_ne (by omega)]; exact h.1 j hj, fun j hj => ?_⟩
  by_cases c : j = i.toNatClampNeg
  · have e : o.toNat + j = u.toNatClampNeg := by omega
    rw [e, upd_eq, ex, c]
    exact h.1 _ (by omega)
  · rw [upd_ne (by omega)]
    exact h.2 j (by omega)
/-- what was read stands -/
theorem TXT.of {r : Int} {ru sf0 se0 te0 co0 sf se te co : Nat → Int32} {cd k1 k2 : Int} (h : RTX r sf0 se0 te0 co0 cd) (hr : (ru 1).toInt ≤ r) (hk : r ≤ k1) (hc : cd ≤ k2) (hf : CP 24 k1 sf0 sf) (hs : CP 24 k1 se0 se) (ht : CP 24 k1 te0 te) (ho : CP 700 k2 co0 co) : TXT ru sf se te co := by
  intro k hk1
  have e : ∀ j : Nat, (24 : Int).toNat + j = 24 + j := fun j => rfl
  have e7 : (700 : Int).toNat = 700 := rfl
  obtain ⟨⟨a1, a2, a3, a4⟩, a5, a6⟩ := h k (by omega)
  have f1 := hf.2 k (by omega)
  have f2 := hs.2 k (by omega)
  have f3 := ht.2 k (by omega)
  rw [e] at f1 f2 f3
  rw [f1, f2, f3]
  have key : ∀ a b : Int, 0 ≤ a → b ≤ cd → W0 co0 a b → WF co a b := by
    intro a b h0 hb h n n1 n2
    have e2 : hp co (700 + a).toNat n = hp co0 a.toNat n := hp_shift n (fun j hj => by
      have := ho.2 (a.toNat + j) (by omega)
      rw [e7] at this
      rw [← this]
      congr 1
      omega)
    rw [e2]
    exact h n n1 n2
  exact ⟨key _ _ a1 (by omega) a5, key _ _ (by omega) a4 a6⟩
theorem PB.rebad {c0 c w : Nat → Int32} {s0 e b n m bad bad' : Int} (h : PB c0 s0 e b c n w m bad) (hb : bad' ≠ 0 ∨ bad' = bad) : PB c0 s0 e b c n w m bad' := by
  rcases hb with hb | hb
  · exact h.bad hb rfl rfl
  · subst hb; exact h
theorem PB.appX {c0 c w : Nat → Int32} {s0 e b n m bad e' n' : Int} {i v : Int32} (h : PB c0 s0 e b c n w m bad) (hi : i.toInt = n) (h0 : 0 ≤ n) (h7 : n < 700) (hn : n' = n + 1) (hv : bad ≠ 0 ∨ (e' = e + dl v ∧ 1 ≤ e')) : PB c0 s0 e' b (upd c i.toNatClampNeg v) n' w m bad := by
  rcases hv with hv | ⟨h1, h2⟩
  · exact ⟨h.1.put (by omega) (by have := h.2.1; omega) (by omega), by have := h.2.1; omega, Or.inl hv⟩
  · exact h.app hi h0 h7 hn h1 h2
theorem WU {w : Nat → Int32} {u : Int32} {m : Int} (hu : u.toInt = m - 1) (h : 0 < m) : (w u.toNatClampNeg).toInt = (w (m - 1).toNat).toInt := by
  have e := tn (x := u) (by omega)
  have e2 : u.toNatClampNeg = (m - 1).toNat := by omega
  rw [e2]
theorem WX {w : Nat → Int32} {u x : Int32} {m : Int} (ex : x = w u.toNatClampNeg) (hu : u.toInt = m - 1) (h : 0 < m) : (w (m - 1).toNat).toInt = x.toInt := by
  rw [ex, WU hu h]
theorem PB.dropSi {c0 c w : Nat → Int32} {s0 e b n m bad n' m' : Int} {i u : Int32} (h : PB c0 s0 e b c n w m bad) (hi : i.toInt = n) (h0 : 0 ≤ n) (h7 : n < 700) (hn : n' = n + 1) (hu : u.toInt = m - 1) (hm : m' = m - 1) (hb : b < m) (hb0 : 0 ≤ b) (he : 1 ≤ e) (hv : bad ≠ 0 ∨ (1 ≤ (w (m - 1).toNat).toInt ∧ (w (m - 1).toNat).toInt ≤ 4)) : PB c0 s0 e b (upd c i.toNatClampNeg (w u.toNatClampNeg)) n' w m' bad :=
  h.drop hi h0 h7 hn hu hm hb hb0 he (by rw [WU hu (by omega)]; exact hv)
theorem PB.dropTi {c0 c w : Nat → Int32} {s0 e b n m bad n' m' b' : Int} {i u : Int32} (h : PB c0 s0 e b c n w m bad) (hbm : b = m) (hi : i.toInt = n) (h0 : 0 ≤ n) (h7 : n < 700) (hn : n' = n + 1) (hu : u.toInt = m - 1) (hm : m' = m - 1) (hb' : b' = m - 1) (hm0 : 0 < m) (he : 1 ≤ e) (hv : bad ≠ 0 ∨ (w (m - 1).toNat).toInt ≠ 25) : PB c0 s0 e b' (upd c i.toNatClampNeg (w u.toNatClampNeg)) n' w m' bad :=
  h.dropT hbm hi h0 h7 hn hu hm hb' hm0 he (by rw [WU hu hm0]; exact hv)
theorem PB.opensS {c0 c w w' : Nat → Int32} {s0 e b n m bad m' bad' : Int} {i v : Int32} (h : PB c0 s0 e b c n w m bad) (ho : (bad' ≠ 0 ∧ w' = w) ∨ (bad' = bad ∧ m' = m + 1 ∧ w' = upd w i.toNatClampNeg v)) (hi : i.toInt = m) (h0 : 0 ≤ m) (hv : 20 ≤ v.toInt ∧ v.toInt ≤ 22) : PB c0 s0 e b c n w' m' bad' := by
  by_cases hbad : bad' = 0
  · obtain ⟨h1, h2, h3⟩ := ho.resolve_left (by omega)
    subst h1 h3
    obtain ⟨hF, hs, hG⟩ := h
    have hG := hG.resolve_left (by omega)
    exact PB.pushS ⟨hF, hs, Or.inr hG⟩ hi h0 h2 (Or.inr (by omega)) (by have hz := wt_0 (v := v) (by omega); omega) hG.1.2.2.2.2
  · exact h.bad hbad rfl rfl
theorem PB.opensT {c0 c w w' : Nat → Int32} {s0 e b n m bad m' bad' b' : Int} {i v : Int32} (h : PB c0 s0 e b c n w m bad) (hbm : b = m) (ho : (bad' ≠ 0 ∧ w' = w) ∨ (bad' = bad ∧ m' = m + 1 ∧ w' = upd w i.toNatClampNeg v)) (hi : i.toInt = m) (h0 : 0 ≤ m) (hv : v.toInt = 16 ∨ v.toInt = 25) (hb' : b' = m') : PB c0 s0 e b' c n w' m' bad' := by
  subst hb'
  by_cases hbad : bad' = 0
  · obtain ⟨h1, h2, h3⟩ := ho.resolve_left (by omega)
    subst h1 h3
    obtain ⟨hF, hs, hG⟩ := h
    have hG := hG.resolve_left (by omega)
    exact PB.pushT ⟨hF, hs, Or.inr hG⟩ hbm hi h0 h2 h2 (by unfold SET_T; omega) (by have hz := wt_0 (v := v) (by omega); omega) hG.1.2.2.2.2
  · exact h.bad hbad rfl rfl
theorem PB.setS {c0 c w : Nat → Int32} {s0 e b n m bad : Int} (h : PB c0 s0 e b c n w m bad) (hbad : bad = 0) (hb : b < m) (hb0 : 0 ≤ b) : (1 ≤ (w (m - 1).toNat).toInt ∧ (w (m - 1).toNat).toInt ≤ 4) ∨ (20 ≤ (w (m - 1).toNat).toInt ∧ (w (m - 1).toNat).toInt ≤ 24) := (h.2.2.resolve_left (by omega)).2.2.2.2 _ (by omega) (by omega)
theorem PB.inS {c0 c w : Nat → Int32} {s0 e b n m bad : Int} (h : PB c0 s0 e b c n w m bad) (hbad : bad = 0) (hm : 0 < m) (hx : (w (m - 1).toNat).toInt ≤ 4) : b < m := by
  have hG := h.2.2.resolve_left (by omega)
  refine Int.not_le.mp (fun q => ?_)
  have hT := hG.2.2.2.1 (m - 1).toNat (by omega)
  unfold SET_T at hT
  omega
theorem PB.le {c0 c w : Nat → Int32} {s0 e b n m bad : Int} (h : PB c0 s0 e b c n w m bad) (hbad : bad = 0) : b ≤ m ∧ 0 ≤ b := ⟨(h.2.2.resolve_left (by omega)).1.2.2.2.1, (h.2.2.resolve_left (by omega)).1.2.2.1⟩
theorem PB.popO {c0 c w : Nat → Int32} {s0 e b n m bad m' : Int} {u x : Int32} (h : PB c0 s0 e b c n w m bad) (hu : u.toInt = m - 1) (hm : m' = m - 1) (hb : b < m) (hb0 : 0 ≤ b) (ex : x = w u.toNatClampNeg) (hx : x.toInt = 20) : PB c0 s0 e b c n w m' bad := h.popS hu hm hb hb0 (by have hz := wt_0 (v := w u.toNatClampNeg) (by rw [← ex]; omega); omega)
theorem PB.popN {c0 c w : Nat → Int32} {s0 e b n m bad m' e' : Int} {u x : Int32} (h : PB c0 s0 e b c n w m bad) (hu : u.toInt = m - 1) (hm : m' = m - 1) (hb : b < m) (hb0 : 0 ≤ b) (ex : x = w u.toNatClampNeg) (hx : x.toInt = 23 ∨ x.toInt = 24) (he : e' = e + 1) : PB c0 s0 e' b c n w m' bad := h.popS hu hm hb hb0 (by have hz := wt_1 (v := w u.toNatClampNeg) (by rw [← ex]; omega); omega)
theorem PB.popQ {c0 c w : Nat → Int32} {s0 e b n m bad m' b' : Int} {u : Int32} (h : PB c0 s0 e b c n w m bad) (hbm : b = m) (hu : u.toInt = m - 1) (hm : m' = m - 1) (hb' : b' = m - 1) (hm0 : 0 < m) (hx : (w (m - 1).toNat).toInt = 25) : PB c0 s0 e b' c n w m' bad := h.popT hbm hu hm hb' hm0 (by have hz := wt_0 (v := w u.toNatClampNeg) (by rw [WU hu hm0]; omega); omega)
theorem PB.topI {c0 c w : Nat → Int32} {s0 e b n m bad e' : Int} {u x v : Int32} (h : PB c0 s0 e b c n w m bad) (hu : u.toInt = m - 1) (hb : b < m) (hb0 : 0 ≤ b) (ex : x = w u.toNatClampNeg) (h0 : x.toInt = 21 ∨ x.toInt = 22) (hv : v.toInt = x.toInt + 2) (he : e' = e - 1) (h1 : 0 ≤ e') : PB c0 s0 e' b c n (upd w u.toNatClampNeg v) m bad := h.top hu hb hb0 (Or.inr (by rw [← ex]; exact h0)) (by omega) he h1
theorem MK.some {b m : Int} {w : Nat → Int32} {i x : Int32} (ex : x = w i.toNatClampNeg) (h0 : 0 ≤ i.toInt) (hb : b ≤ i.toInt) (hm : i.toInt < m) (hx : 20 ≤ x.toInt ∧ x.toInt ≤ 24) (h : NM (i.toInt + 1) m w) : MK b m w x.toInt := by
  have e := tn h0
  refine Or.inr ⟨hx.1, hx.2, i.toNatClampNeg, by omega, by omega, by rw [← ex], ?_⟩
  rw [e]
  exact h
theorem NQ.zero {m : Int} {w : Nat → Int32} (h : m ≤ 0) : NQ m w := fun k hk => absurd hk (by omega)
theorem HS.mk {m : Int} {w : Nat → Int32} {i x : Int32} (ex : x = w i.toNatClampNeg) (h0 : 0 ≤ i.toInt) (hm : i.toInt < m) (hx : x.toInt = 25) : HS m w := ⟨i.toNatClampNeg, by rw [tn h0]; exact hm, by rw [← ex]; exact hx⟩
theorem NQ.at1 {m : Int} {w : Nat → Int32} (h : NQ m w) (hm : 0 < m) : (w (m - 1).toNat).toInt ≠ 25 := h _ (by omega)
theorem HS.below1 {m m' : Int} {w : Nat → Int32} (h : HS m w) (hm : m' = m - 1) (hx : (w (m - 1).toNat).toInt ≠ 25) : HS m' w := by
  obtain ⟨k, h1, h2⟩ := h
  refine ⟨k, ?_, h2⟩
  have : k ≠ (m - 1).toNat := fun c => hx (by rw [← c]; exact h2)
  omega
