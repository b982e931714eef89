/-! p34, p35: sets as bits, what they cost and hold, the least one -/
def sm (f : Nat → Int) (s : Nat) : Nat → Int
  | 0 => 0
  | i + 1 => sm f s i + (if s.testBit i = true then f i else 0)
def mx (f : Nat → Int) (s : Nat) : Nat → Int
  | 0 => 0
  | i + 1 => if s.testBit i = true then max (mx f s i) (f i) else mx f s i
def kof : Nat → Int := fun _ => 1
def cst (f : Nat → Int32) : Nat → Int := fun k => (f k).toInt
def rch (pl be : Nat → Int32) (q re : Int) : Nat → Int := fun k => if -re ≤ (pl k).toInt - q ∧ (pl k).toInt - q ≤ re then (be k).toInt else 0
theorem sm_congr {f : Nat → Int} {s t : Nat} : ∀ n, (∀ j, j < n → s.testBit j = t.testBit j) → sm f s n = sm f t n := by
  intro n
  induction n with
  | zero => intro _; rfl
  | succ n ih => intro h; simp only [sm]; rw [ih (fun j hj => h j (by omega)), h n (by omega)]
theorem sm_mono {f : Nat → Int} {s : Nat} (hf : ∀ j, 0 ≤ f j) (i : Nat) : ∀ k, sm f s i ≤ sm f s (i + k) := by
  intro k
  induction k with
  | zero => exact Int.le_refl _
  | succ k ih =>
    have h := hf (i + k)
    have e : sm f s (i + (k + 1)) = sm f s (i + k) + (if s.testBit (i + k) = true then f (i + k) else 0) := rfl
    rw [e]
    split <;> omega
theorem sm_ge {f : Nat → Int} {s t i n : Nat} (hf : ∀ j, 0 ≤ f j) (hi : i ≤ n) (h : ∀ j, j < i → t.testBit j = s.testBit j) : sm f s i ≤ sm f t n := by
  have h1 : sm f s i = sm f t i := sm_congr i (fun j hj => (h j hj).symm)
  have h2 := sm_mono (s := t) hf i (n - i)
  have e : i + (n - i) = n := by omega
  rw [e] at h2
  omega
theorem sm_le {f : Nat → Int} {s : Nat} {M : Int} (hf : ∀ j, 0 ≤ f j ∧ f j ≤ M) : ∀ n : Nat, 0 ≤ sm f s n ∧ sm f s n ≤ M * n := by
  intro n
  induction n with
  | zero => exact ⟨Int.le_refl _, by simp [sm]⟩
  | succ n ih =>
    have h := hf n
    have e : sm f s (n + 1) = sm f s n + (if s.testBit n = true then f n else 0) := rfl
    have e2 : M * ((n + 1 : Nat) : Int) = M * n + M := by rw [Int.natCast_add, Int.mul_add]; simp
    rw [e, e2]
    split <;> omega
theorem mx_nn {f : Nat → Int} {s : Nat} : ∀ n, 0 ≤ mx f s n := by
  intro n
  induction n with
  | zero => exact Int.le_refl _
  | succ n ih => simp only [mx]; split <;> omega
theorem mx_le {f : Nat → Int} {s : Nat} {M : Int} (hM : 0 ≤ M) (hf : ∀ j, 0 ≤ f j ∧ f j ≤ M) : ∀ n : Nat, mx f s n ≤ M := by
  intro n
  induction n with
  | zero => exact hM
  | succ n ih => have h := hf n; simp only [mx]; split <;> omega
/-- more of them never hold less -/
theorem hold_mono {f : Nat → Int} {s t : Nat} : ∀ n, (∀ j, j < n → 0 ≤ f j) → (∀ j, j < n → s.testBit j = true → t.testBit j = true) → sm f s n ≤ sm f t n ∧ sm f s n - mx f s n ≤ sm f t n - mx f t n := by
  intro n
  induction n with
  | zero => intro _ _; exact ⟨Int.le_refl _, Int.le_refl _⟩
  | succ n ih =>
    intro h hs
    obtain ⟨h1, h2⟩ := ih (fun j hj => h j (by omega)) (fun j hj => hs j (by omega))
    have h3 := h n (by omega)
    have h4 := hs n (by omega)
    have h5 := mx_nn (f := f) (s := t) n
    have h6 := mx_nn (f := f) (s := s) n
    simp only [sm, mx]
    by_cases c1 : s.testBit n = true
    · rw [if_pos c1, if_pos c1, if_pos (h4 c1), if_pos (h4 c1)]
      omega
    · rw [if_neg c1, if_neg c1]
      by_cases c2 : t.testBit n = true
      · rw [if_pos c2, if_pos c2]
        omega
      · rw [if_neg c2, if_neg c2]
        omega
def FST (s t : Nat) : Prop := ∃ i : Nat, s.testBit i = true ∧ t.testBit i = false ∧ ∀ j, j < i → s.testBit j = t.testBit j
theorem FST.asymm {s t : Nat} (h1 : FST s t) (h2 : FST t s) : False := by
  obtain ⟨i, a1, a2, a3⟩ := h1
  obtain ⟨k, b1, b2, b3⟩ := h2
  rcases Nat.lt_trichotomy i k with c | c | c
  · have := b3 i c; rw [a1, a2] at this; cases this
  · subst c; rw [a1] at b2; cases b2
  · have := a3 k c; rw [b1, b2] at this; cases this
theorem fst_or : ∀ (n s t : Nat), (∃ i, i < n ∧ s.testBit i ≠ t.testBit i) → FST s t ∨ FST t s := by
  intro n
  induction n with
  | zero => intro s t h; obtain ⟨i, hi, _⟩ := h; omega
  | succ n ih =>
    intro s t h
    by_cases c : ∃ i, i < n ∧ s.testBit i ≠ t.testBit i
    · exact ih s t c
    · have hall : ∀ j, j < n → s.testBit j = t.testBit j := by
        intro j hj
        by_cases e : s.testBit j = t.testBit j
        · exact e
        · exact absurd ⟨j, hj, e⟩ c
      obtain ⟨i, hi, hne⟩ := h
      have hin : i = n := by
        by_cases q : i < n
        · exact absurd (hall i q) hne
        · omega
      subst hin
      cases e1 : s.testBit i with
      | true =>
        cases e2 : t.testBit i with
        | true => rw [e1, e2] at hne; exact absurd rfl hne
        | false => exact Or.inl ⟨i, e1, e2, hall⟩
      | false =>
        cases e2 : t.testBit i with
        | true => exact Or.inr ⟨i, e2, e1, fun j hj => (hall j hj).symm⟩
        | false => rw [e1, e2] at hne; exact absurd rfl hne
theorem fst_total {s t : Nat} (h : s ≠ t) : FST s t ∨ FST t s := by
  obtain ⟨i, hi⟩ := Nat.exists_testBit_ne_of_ne h
  exact fst_or (i + 1) s t ⟨i, by omega, hi⟩
def LX (a b c d : Int) : Prop := a < c ∨ (a = c ∧ b < d)
theorem LX.trans {a b c d e f : Int} (h1 : LX a b c d) (h2 : LX c d e f) : LX a b e f := by unfold LX at *; omega
theorem lx_nlx {a b c d e f : Int} (h1 : LX a b c d) (h2 : ¬ LX e f c d) : LX a b e f := by unfold LX at *; omega
def BT (n : Nat) (co : Nat → Int) (s t : Nat) : Prop := LX (sm co s n) (sm kof s n) (sm co t n) (sm kof t n) ∨ (sm co s n = sm co t n ∧ sm kof s n = sm kof t n ∧ FST s t)
theorem BT.asymm {n : Nat} {co : Nat → Int} {s t : Nat} (h1 : BT n co s t) (h2 : BT n co t s) : False := by
  rcases h1 with h1 | ⟨h1, h1', h1f⟩
  · rcases h2 with h2 | ⟨h2, h2', _⟩ <;> unfold LX at * <;> omega
  · rcases h2 with h2 | ⟨h2, h2', h2f⟩
    · unfold LX at *; omega
    · exact h1f.asymm h2f
theorem nlx_bt {n : Nat} {co : Nat → Int} {s t : Nat} (h : ¬ LX (sm co t n) (sm kof t n) (sm co s n) (sm kof s n)) (hf : FST s t) : BT n co s t := by
  by_cases c : LX (sm co s n) (sm kof s n) (sm co t n) (sm kof t n)
  · exact Or.inl c
  · refine Or.inr ⟨?_, ?_, hf⟩ <;> unfold LX at * <;> omega
theorem lx_bt {n : Nat} {co : Nat → Int} {r s t : Nat} (h : LX (sm co r n) (sm kof r n) (sm co s n) (sm kof s n)) (h2 : BT n co s t) : LX (sm co r n) (sm kof r n) (sm co t n) (sm kof t n) := by
  rcases h2 with h2 | ⟨h2, h2', _⟩
  · exact h.trans h2
  · unfold LX at *; omega
theorem bt_trans {n : Nat} {co : Nat → Int} {r s t : Nat} (h : BT n co r s) (h2 : BT n co s t) : BT n co r t := by
  rcases h with h | ⟨e1, e2, f1⟩
  · exact Or.inl (lx_bt h h2)
  · rcases h2 with h2 | ⟨g1, g2, f2⟩
    · refine Or.inl ?_; unfold LX at *; omega
    · refine Or.inr ⟨by omega, by omega, ?_⟩
      obtain ⟨i, a1, a2, a3⟩ := f1
      obtain ⟨k, b1, b2, b3⟩ := f2
      rcases Nat.lt_trichotomy i k with c | c | c
      · exact ⟨i, a1, by rw [← b3 i c]; exact a2, fun j hj => (a3 j hj).trans (b3 j (by omega))⟩
      · subst c; rw [b1] at a2; cases a2
      · exact ⟨k, by rw [a3 k c]; exact b1, b2, fun j hj => (a3 j (by omega)).trans (b3 j hj)⟩
/-- what the best one is of those that V has -/
def MINS (n : Nat) (co : Nat → Int) (V : Nat → Prop) (s : Nat) : Prop := s < 2 ^ n ∧ V s ∧ ∀ t, t < 2 ^ n → V t → t = s ∨ BT n co s t
theorem MINS.unique {n : Nat} {co : Nat → Int} {V : Nat → Prop} {s t : Nat} (h1 : MINS n co V s) (h2 : MINS n co V t) : s = t := by
  rcases h1.2.2 t h2.1 h2.2.1 with h | h
  · exact h.symm
  · rcases h2.2.2 s h1.1 h1.2.1 with h' | h'
    · exact h'
    · exact (h.asymm h').elim
def HO (n : Nat) (pl be pp pf : Nat → Int32) (re : Int) (s p : Nat) : Prop := (pf p).toInt ≤ sm (rch pl be (pp p).toInt re) s n - mx (rch pl be (pp p).toInt re) s n
def HA (n k : Nat) (pl be pp pf : Nat → Int32) (re : Int) (s : Nat) : Prop := ∀ p, p < k → HO n pl be pp pf re s p
def VA (n k : Nat) (pl be pp pf : Nat → Int32) (re op : Int) (s : Nat) : Prop := sm (cst be) s n ≤ op ∧ HA n k pl be pp pf re s
/-- choose: what is answered and what is kept -/
def CHS (n k : Nat) (pl be co pp pf : Nat → Int32) (re op : Int) (o1 o2 r n1 n2 : Int32) : Prop :=
  (∃ s : Nat, MINS n (cst co) (VA n k pl be pp pf re op) s ∧ r.toInt = sm (cst co) s n ∧ n1.toInt = (s : Int) ∧ n2.toInt = (n : Int)) ∨ ((∀ t, t < 2 ^ n → ¬ VA n k pl be pp pf re op t) ∧ r.toInt = -1 ∧ n1 = o1 ∧ n2 = o2)
theorem CHS.same {n k : Nat} {pl be co pp pf : Nat → Int32} {re op : Int} {o1 o2 r n1 n2 o1' o2' r' n1' n2' : Int32} (h1 : CHS n k pl be co pp pf re op o1 o2 r n1 n2) (h2 : CHS n k pl be co pp pf re op o1' o2' r' n1' n2') : r = r' ∧ ((n1 = n1' ∧ n2 = n2' ∧ 0 ≤ n1.toInt) ∨ (n1 = o1 ∧ n2 = o2 ∧ n1' = o1' ∧ n2' = o2')) := by
  rcases h1 with ⟨s, hs, a1, a2, a3⟩ | ⟨hn, a1, a2, a3⟩
  · rcases h2 with ⟨t, ht, b1, b2, b3⟩ | ⟨hm, b1, b2, b3⟩
    · have e := hs.unique ht
      subst e
      exact ⟨Int32.toInt_inj.mp (by omega), Or.inl ⟨Int32.toInt_inj.mp (by omega), Int32.toInt_inj.mp (by omega), by omega⟩⟩
    · exact absurd hs.2.1 (hm s hs.1)
  · rcases h2 with ⟨t, ht, b1, b2, b3⟩ | ⟨hm, b1, b2, b3⟩
    · exact absurd ht.2.1 (hn t ht.1)
    · exact ⟨Int32.toInt_inj.mp (by omega), Or.inr ⟨a2, a3, b2, b3⟩⟩
theorem rch_nn {pl be : Nat → Int32} {q re : Int} (h : Bd 0 999 be) : ∀ j, 0 ≤ rch pl be q re j ∧ rch pl be q re j ≤ 999 := by
  intro j
  have := h j
  unfold rch
  split <;> omega
theorem cst_nn {f : Nat → Int32} (h : Bd 0 999 f) : ∀ j, 0 ≤ cst f j ∧ cst f j ≤ 999 := fun j => h j
theorem HA.mono {n k : Nat} {pl be pp pf : Nat → Int32} {re : Int} {s t : Nat} (hb : Bd 0 999 be) (h : HA n k pl be pp pf re s) (hs : ∀ j, j < n → s.testBit j = true → t.testBit j = true) : HA n k pl be pp pf re t := by
  intro p hp
  have h1 := h p hp
  have h2 := (hold_mono (f := rch pl be (pp p).toInt re) n (fun j _ => (rch_nn hb j).1) hs).2
  unfold HO at *
  omega
/-! the search -/
def SUB (n i st t : Nat) : Prop := t < 2 ^ n ∧ ∀ j, j < i → t.testBit j = st.testBit j
def SR (n : Nat) (co : Nat → Int) (V : Nat → Prop) (i st : Nat) (a b c a' b' c' : Int) : Prop :=
  (a' = a ∧ b' = b ∧ c' = c ∧ ∀ t, SUB n i st t → V t → ¬ LX (sm co t n) (sm kof t n) a b) ∨
  (∃ s : Nat, SUB n i st s ∧ V s ∧ LX (sm co s n) (sm kof s n) a b ∧ a' = sm co s n ∧ b' = sm kof s n ∧ c' = (s : Int) ∧ ∀ t, SUB n i st t → V t → t = s ∨ BT n co s t)
theorem SR.comp {n : Nat} {co : Nat → Int} {V : Nat → Prop} {i st wo : Nat} {a0 b0 c0 a1 b1 c1 a2 b2 c2 : Int} (hb : st.testBit i = true) (hw : wo.testBit i = false) (hj : ∀ j, j < i → wo.testBit j = st.testBit j) (h1 : SR n co V (i + 1) st a0 b0 c0 a1 b1 c1) (h2 : SR n co V (i + 1) wo a1 b1 c1 a2 b2 c2) : SR n co V i st a0 b0 c0 a2 b2 c2 := by
  have hsp : ∀ t, SUB n i st t → SUB n (i + 1) st t ∨ SUB n (i + 1) wo t := by
    intro t ht
    cases e : t.testBit i with
    | true =>
      refine Or.inl ⟨ht.1, fun j hj' => ?_⟩
      by_cases q : j < i
      · exact ht.2 j q
      · have : j = i := by omega
        subst this; rw [e, hb]
    | false =>
      refine Or.inr ⟨ht.1, fun j hj' => ?_⟩
      by_cases q : j < i
      · rw [ht.2 j q, hj j q]
      · have : j = i := by omega
        subst this; rw [e, hw]
  have hl : ∀ t, SUB n (i + 1) st t → SUB n i st t := fun t ht => ⟨ht.1, fun j h => ht.2 j (by omega)⟩
  have hr : ∀ t, SUB n (i + 1) wo t → SUB n i st t := fun t ht => ⟨ht.1, fun j h => by rw [ht.2 j (by omega), hj j h]⟩
  have hf : ∀ s t, SUB n (i + 1) st s → SUB n (i + 1) wo t → FST s t := fun s t hs ht => ⟨i, by rw [hs.2 i (by omega), hb], by rw [ht.2 i (by omega), hw], fun j h => by rw [hs.2 j (by omega), ht.2 j (by omega), hj j h]⟩
  rcases h1 with ⟨e1, e2, e3, n1⟩ | ⟨s, s1, s2, s3, e1, e2, e3, s4⟩
  · rw [e1, e2, e3] at h2
    rcases h2 with ⟨f1, f2, f3, n2⟩ | ⟨s, s1, s2, s3, f1, f2, f3, s4⟩
    · refine Or.inl ⟨f1, f2, f3, fun t ht hv => ?_⟩
      rcases hsp t ht with h | h
      · exact n1 t h hv
      · exact n2 t h hv
    · refine Or.inr ⟨s, hr s s1, s2, s3, f1, f2, f3, fun t ht hv => ?_⟩
      rcases hsp t ht with h | h
      · exact Or.inr (Or.inl (lx_nlx s3 (n1 t h hv)))
      · exact s4 t h hv
  · rw [e1, e2, e3] at h2
    rcases h2 with ⟨f1, f2, f3, n2⟩ | ⟨r, r1, r2, r3, f1, f2, f3, r4⟩
    · refine Or.inr ⟨s, hl s s1, s2, s3, f1, f2, f3, fun t ht hv => ?_⟩
      rcases hsp t ht with h | h
      · exact s4 t h hv
      · exact Or.inr (nlx_bt (n2 t h hv) (hf s t s1 h))
    · refine Or.inr ⟨r, hr r r1, r2, r3.trans s3, f1, f2, f3, fun t ht hv => ?_⟩
      rcases hsp t ht with h | h
      · rcases s4 t h hv with q | q
        · subst q; exact Or.inr (Or.inl r3)
        · exact Or.inr (Or.inl (lx_bt r3 q))
      · exact r4 t h hv
theorem sub_n {n st t : Nat} (hs : st < 2 ^ n) (h : SUB n n st t) : t = st := by
  refine Nat.eq_of_testBit_eq (fun j => ?_)
  by_cases q : j < n
  · exact h.2 j q
  · have hp : 2 ^ n ≤ 2 ^ j := Nat.pow_le_pow_right (by decide) (by omega)
    rw [Nat.testBit_lt_two_pow (Nat.lt_of_lt_of_le h.1 hp), Nat.testBit_lt_two_pow (Nat.lt_of_lt_of_le hs hp)]
theorem SR.leaf {n : Nat} {co : Nat → Int} {V : Nat → Prop} {st : Nat} {a b c : Int} (hs : st < 2 ^ n) (hv : V st) (hl : LX (sm co st n) (sm kof st n) a b) : SR n co V n st a b c (sm co st n) (sm kof st n) (st : Int) :=
  Or.inr ⟨st, ⟨hs, fun _ _ => rfl⟩, hv, hl, rfl, rfl, rfl, fun t ht _ => Or.inl (sub_n hs ht)⟩
theorem SR.none {n : Nat} {co : Nat → Int} {V : Nat → Prop} {i st : Nat} {a b c : Int} (h : ∀ t, SUB n i st t → V t → ¬ LX (sm co t n) (sm kof t n) a b) : SR n co V i st a b c a b c := Or.inl ⟨rfl, rfl, rfl, h⟩
/-- what search is called with -/
def SIN (n k : Nat) (pl be co pp pf : Nat → Int32) (re : Int) (i s : Nat) (pa si bo : Int) : Prop := i ≤ n ∧ s < 2 ^ n ∧ (∀ j, i ≤ j → j < n → s.testBit j = true) ∧ HA n k pl be pp pf re s ∧ pa = sm (cst co) s i ∧ si = sm kof s i ∧ bo = sm (cst be) s i
theorem kof_nn : ∀ j, 0 ≤ kof j ∧ kof j ≤ 1 := fun _ => ⟨(by decide : (0 : Int) ≤ 1), (by decide : (1 : Int) ≤ 1)⟩
theorem SIN.rng {n k : Nat} {pl be co pp pf : Nat → Int32} {re : Int} {i s : Nat} {pa si bo : Int} (hbe : Bd 0 999 be) (hco : Bd 0 999 co) (h : SIN n k pl be co pp pf re i s pa si bo) : 0 ≤ pa ∧ pa ≤ 999 * i ∧ 0 ≤ si ∧ si ≤ i ∧ 0 ≤ bo ∧ bo ≤ 999 * i := by
  obtain ⟨_, _, _, _, rfl, rfl, rfl⟩ := h
  have h1 := sm_le (s := s) (cst_nn hco) i
  have h2 := sm_le (s := s) kof_nn i
  have h3 := sm_le (s := s) (cst_nn hbe) i
  omega
theorem SIN.bore {n k : Nat} {pl be co pp pf : Nat → Int32} {re op : Int} {i s : Nat} {pa si bo : Int} {a b c : Int} (hbe : Bd 0 999 be) (h : SIN n k pl be co pp pf re i s pa si bo) (hx : op < bo) : SR n (cst co) (VA n k pl be pp pf re op) i s a b c a b c := by
  refine SR.none (fun t ht hv => ?_)
  have h1 := sm_ge (f := cst be) (fun j => (cst_nn hbe j).1) h.1 ht.2
  have h2 := hv.1
  have h3 := h.2.2.2.2.2.2
  omega
theorem SIN.paid {n k : Nat} {pl be co pp pf : Nat → Int32} {re op : Int} {i s : Nat} {pa si bo : Int} {a b c : Int} (hco : Bd 0 999 co) (h : SIN n k pl be co pp pf re i s pa si bo) (hx : a < pa ∨ (pa = a ∧ b ≤ si)) : SR n (cst co) (VA n k pl be pp pf re op) i s a b c a b c := by
  refine SR.none (fun t ht hv => ?_)
  have h1 := sm_ge (f := cst co) (fun j => (cst_nn hco j).1) h.1 ht.2
  have h2 := sm_ge (f := kof) (fun j => (kof_nn j).1) h.1 ht.2
  have h3 := h.2.2.2.2.1
  have h4 := h.2.2.2.2.2.1
  unfold LX
  omega
theorem SIN.leaf {n k : Nat} {pl be co pp pf : Nat → Int32} {re op : Int} {i s : Nat} {pa si bo : Int} {a b c : Int} (h : SIN n k pl be co pp pf re i s pa si bo) (hi : n ≤ i) (hb : bo ≤ op) (h1 : pa ≤ a) (h2 : ¬ (pa = a ∧ b ≤ si)) : SR n (cst co) (VA n k pl be pp pf re op) i s a b c pa si (s : Int) := by
  obtain ⟨q1, q2, q3, q4, rfl, rfl, rfl⟩ := h
  have e : i = n := by omega
  subst e
  exact SR.leaf q2 ⟨hb, q4⟩ (by unfold LX; omega)
theorem sm_at {f : Nat → Int} {s i : Nat} (h : s.testBit i = true) : sm f s (i + 1) = sm f s i + f i := by simp only [sm]; rw [if_pos h]
theorem sm_no {f : Nat → Int} {s i : Nat} (h : s.testBit i = false) : sm f s (i + 1) = sm f s i := by simp only [sm]; rw [h]; simp
theorem SIN.keep {n k : Nat} {pl be co pp pf : Nat → Int32} {re : Int} {i s : Nat} {pa si bo pa' si' bo' : Int} (h : SIN n k pl be co pp pf re i s pa si bo) (hi : i < n) (e1 : pa' = pa + (co i).toInt) (e2 : si' = si + 1) (e3 : bo' = bo + (be i).toInt) : SIN n k pl be co pp pf re (i + 1) s pa' si' bo' := by
  obtain ⟨q1, q2, q3, q4, rfl, rfl, rfl⟩ := h
  have hb := q3 i (Nat.le_refl _) hi
  refine ⟨hi, q2, fun j h1 h2 => q3 j (by omega) h2, q4, ?_, ?_, ?_⟩
  · rw [sm_at hb]; exact e1
  · rw [sm_at hb]; exact e2
  · rw [sm_at hb]; exact e3
/-- s without its i-th -/
def WOB (s w i : Nat) : Prop := w < 2 ^ 12 ∧ w.testBit i = false ∧ (∀ j, j ≠ i → w.testBit j = s.testBit j)
theorem WOB.lt {n s w i : Nat} (h : WOB s w i) (hs : s < 2 ^ n) : w < 2 ^ n := by
  refine Nat.lt_pow_two_of_testBit _ (fun j hj => ?_)
  have hp : 2 ^ n ≤ 2 ^ j := Nat.pow_le_pow_right (by decide) hj
  by_cases q : j = i
  · subst q; exact h.2.1
  · rw [h.2.2 j q]; exact Nat.testBit_lt_two_pow (Nat.lt_of_lt_of_le hs hp)
theorem SIN.leave {n k : Nat} {pl be co pp pf : Nat → Int32} {re : Int} {i s w : Nat} {pa si bo : Int} (h : SIN n k pl be co pp pf re i s pa si bo) (hi : i < n) (hw : WOB s w i) (hh : HA n k pl be pp pf re w) : SIN n k pl be co pp pf re (i + 1) w pa si bo := by
  obtain ⟨q1, q2, q3, q4, rfl, rfl, rfl⟩ := h
  have hc : ∀ f : Nat → Int, sm f s i = sm f w (i + 1) := fun f => by rw [sm_no hw.2.1]; exact sm_congr i (fun j hj => (hw.2.2 j (by omega)).symm)
  exact ⟨hi, hw.lt q2, fun j h1 h2 => by rw [hw.2.2 j (by omega)]; exact q3 j (by omega) h2, hh, hc _, hc _, hc _⟩
theorem SIN.cut {n k : Nat} {pl be co pp pf : Nat → Int32} {re op : Int} {i s w : Nat} {pa si bo : Int} {a b c : Int} (hbe : Bd 0 999 be) (h : SIN n k pl be co pp pf re i s pa si bo) (hw : WOB s w i) (hh : ¬ HA n k pl be pp pf re w) : SR n (cst co) (VA n k pl be pp pf re op) (i + 1) w a b c a b c := by
  refine SR.none (fun t ht hv => ?_)
  refine absurd (hv.2.mono hbe (fun j hj hb => ?_)) hh
  by_cases q : j < i + 1
  · rw [← ht.2 j q]; exact hb
  · rw [hw.2.2 j (by omega)]; exact h.2.2.1 j (by omega) hj
theorem SIN.comp {n k : Nat} {pl be co pp pf : Nat → Int32} {re op : Int} {i s w : Nat} {pa si bo : Int} {a0 b0 c0 a1 b1 c1 a2 b2 c2 : Int} (h : SIN n k pl be co pp pf re i s pa si bo) (hi : i < n) (hw : WOB s w i) (h1 : SR n (cst co) (VA n k pl be pp pf re op) (i + 1) s a0 b0 c0 a1 b1 c1) (h2 : SR n (cst co) (VA n k pl be pp pf re op) (i + 1) w a1 b1 c1 a2 b2 c2) : SR n (cst co) (VA n k pl be pp pf re op) i s a0 b0 c0 a2 b2 c2 :=
  SR.comp (h.2.2.1 i (Nat.le_refl _) hi) hw.2.1 (fun j hj => hw.2.2 j (by omega)) h1 h2
theorem SIN.start {n k : Nat} {pl be co pp pf : Nat → Int32} {re : Int} {s : Nat} (hs : s = 2 ^ n - 1) (hh : HA n k pl be pp pf re s) : SIN n k pl be co pp pf re 0 s 0 0 0 := by
  have hp : 0 < 2 ^ n := Nat.pow_pos (by decide)
  refine ⟨Nat.zero_le _, by omega, fun j _ hj => ?_, hh, rfl, rfl, rfl⟩
  rw [hs, Nat.testBit_two_pow_sub_one]
  simp [hj]
/-- behind the search from the start -/
theorem SR.done {n k : Nat} {pl be co pp pf : Nat → Int32} {re op : Int} {s : Nat} {a' b' c' : Int} (hn : n ≤ 12) (hco : Bd 0 999 co) (h : SR n (cst co) (VA n k pl be pp pf re op) 0 s 1000000 0 (-1) a' b' c') : (c' = -1 ∧ ∀ t, t < 2 ^ n → ¬ VA n k pl be pp pf re op t) ∨ (0 ≤ c' ∧ ∃ q : Nat, MINS n (cst co) (VA n k pl be pp pf re op) q ∧ a' = sm (cst co) q n ∧ c' = (q : Int)) := by
  rcases h with ⟨e1, e2, e3, h⟩ | ⟨q, h1, h2, h3, e1, e2, e3, h4⟩
  · refine Or.inl ⟨e3, fun t ht hv => h t ⟨ht, fun j hj => by omega⟩ hv ?_⟩
    have h1 := sm_le (s := t) (cst_nn hco) n
    unfold LX
    omega
  · exact Or.inr ⟨by omega, q, ⟨h1.1, h2, fun t ht hv => h4 t ⟨ht, fun j hj => by omega⟩ hv⟩, e1, e3⟩
theorem none_of {n k : Nat} {pl be pp pf : Nat → Int32} {re op : Int} {s : Nat} (hbe : Bd 0 999 be) (hs : s = 2 ^ n - 1) (hh : ¬ HA n k pl be pp pf re s) : ∀ t, t < 2 ^ n → ¬ VA n k pl be pp pf re op t := by
  intro t ht hv
  refine hh (hv.2.mono hbe (fun j hj _ => ?_))
  rw [hs, Nat.testBit_two_pow_sub_one]
  simp [hj]
/-! the one by one search -/
def BR (n : Nat) (co : Nat → Int) (V : Nat → Prop) (f b x : Int) : Prop := (f = -1 ∧ b = 0 ∧ ∀ t : Nat, (t : Int) < x → ¬ V t) ∨ (∃ s : Nat, f = (s : Int) ∧ (s : Int) < x ∧ V s ∧ b = sm co s n ∧ ∀ t : Nat, (t : Int) < x → V t → t = s ∨ BT n co s t)
theorem BR.zero {n : Nat} {co : Nat → Int} {V : Nat → Prop} {f b x : Int} (h1 : f = -1) (h2 : b = 0) (h3 : x = 0) : BR n co V f b x := Or.inl ⟨h1, h2, fun t ht => by omega⟩
theorem BR.skip {n : Nat} {co : Nat → Int} {V : Nat → Prop} {f b x x' : Int} {s : Nat} (h : BR n co V f b x) (hs : x = (s : Int)) (hx : x' = x + 1) (hv : ¬ V s) : BR n co V f b x' := by
  rcases h with ⟨h1, h2, h3⟩ | ⟨q, h1, h2, h3, h4, h5⟩
  · refine Or.inl ⟨h1, h2, fun t ht => ?_⟩
    by_cases c : t = s
    · subst c; exact hv
    · exact h3 t (by omega)
  · refine Or.inr ⟨q, h1, by omega, h3, h4, fun t ht hvt => ?_⟩
    by_cases c : t = s
    · subst c; exact absurd hvt hv
    · exact h5 t (by omega) hvt
theorem BR.first {n : Nat} {co : Nat → Int} {V : Nat → Prop} {f b b' x x' : Int} {s : Nat} (h : BR n co V f b x) (hf : f = -1) (hs : x = (s : Int)) (hx : x' = x + 1) (hv : V s) (hb : b' = sm co s n) : BR n co V x b' x' := by
  rcases h with ⟨h1, h2, h3⟩ | ⟨q, h1, h2, h3, h4, h5⟩
  · refine Or.inr ⟨s, hs, by omega, hv, hb, fun t ht hvt => ?_⟩
    by_cases c : t = s
    · exact Or.inl c
    · exact absurd hvt (h3 t (by omega))
  · omega
theorem BR.takes {n : Nat} {co : Nat → Int} {V : Nat → Prop} {f b b' x x' : Int} {s q : Nat} (h : BR n co V f b x) (hf : f = (q : Int)) (hs : x = (s : Int)) (hx : x' = x + 1) (hv : V s) (hb : b' = sm co s n) (hbt : BT n co s q) : BR n co V x b' x' := by
  rcases h with ⟨h1, h2, h3⟩ | ⟨q', h1, h2, h3, h4, h5⟩
  · omega
  · have e : q' = q := by omega
    subst e
    refine Or.inr ⟨s, hs, by omega, hv, hb, fun t ht hvt => ?_⟩
    by_cases c : t = s
    · exact Or.inl c
    · rcases h5 t (by omega) hvt with e | e
      · subst e; exact Or.inr hbt
      · exact Or.inr (bt_trans hbt e)
theorem BR.keeps {n : Nat} {co : Nat → Int} {V : Nat → Prop} {f b x x' : Int} {s q : Nat} (h : BR n co V f b x) (hf : f = (q : Int)) (hs : x = (s : Int)) (hx : x' = x + 1) (hbt : BT n co q s) : BR n co V f b x' := by
  rcases h with ⟨h1, h2, h3⟩ | ⟨q', h1, h2, h3, h4, h5⟩
  · omega
  · have e : q' = q := by omega
    subst e
    refine Or.inr ⟨q', h1, by omega, h3, h4, fun t ht hvt => ?_⟩
    by_cases c : t = s
    · subst c; exact Or.inr hbt
    · exact h5 t (by omega) hvt
theorem BR.found {n : Nat} {co : Nat → Int} {V : Nat → Prop} {f b x : Int} {q : Nat} (h : BR n co V f b x) (hf : f = (q : Int)) : (q : Int) < x ∧ b = sm co q n := by
  rcases h with ⟨h1, h2, h3⟩ | ⟨q', h1, h2, h3, h4, h5⟩
  · omega
  · have e : q' = q := by omega
    subst e
    exact ⟨h2, h4⟩
