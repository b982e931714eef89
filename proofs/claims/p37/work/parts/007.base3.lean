/-! numbers of the machine as whole numbers: rows for omega -/
theorem i32_rng (x : Int32) : -2147483648 ≤ x.toInt ∧ x.toInt ≤ 2147483647 := ⟨Int32.le_toInt x, by have := Int32.toInt_lt x; omega⟩
theorem ti_add {x y z : Int32} {a b : Int} (h : z = x + y) (ha : x.toInt = a) (hb : y.toInt = b) (h1 : -2147483648 ≤ a + b) (h2 : a + b ≤ 2147483647) : z.toInt = a + b := by
  subst h ha hb
  rw [Int32.toInt_add]
  exact Int.bmod_eq_of_le (by omega) (by omega)
theorem ti_sub {x y z : Int32} {a b : Int} (h : z = x - y) (ha : x.toInt = a) (hb : y.toInt = b) (h1 : -2147483648 ≤ a - b) (h2 : a - b ≤ 2147483647) : z.toInt = a - b := by
  subst h ha hb
  rw [Int32.toInt_sub]
  exact Int.bmod_eq_of_le (by omega) (by omega)
theorem ti_mul {x y z : Int32} {a b : Int} (h : z = x * y) (ha : x.toInt = a) (hb : y.toInt = b) (h1 : -2147483648 ≤ a * b) (h2 : a * b ≤ 2147483647) : z.toInt = a * b := by
  subst h ha hb
  rw [Int32.toInt_mul]
  exact Int.bmod_eq_of_le (by omega) (by omega)
theorem ti_neg {x z : Int32} {a : Int} (h : z = -x) (ha : x.toInt = a) (h1 : -2147483647 ≤ a) : z.toInt = -a := by
  subst h ha
  have := i32_rng x
  rw [Int32.toInt_neg]
  exact Int.bmod_eq_of_le (by omega) (by omega)
theorem lt_ti {x y : Int32} {a b : Int} (ha : x.toInt = a) (hb : y.toInt = b) (c : x < y) : a < b := by subst ha hb; exact Int32.lt_iff_toInt_lt.mp c
theorem nlt_ti {x y : Int32} {a b : Int} (ha : x.toInt = a) (hb : y.toInt = b) (c : ¬ x < y) : b ≤ a := by subst ha hb; exact Int.not_lt.mp (fun h => c (Int32.lt_iff_toInt_lt.mpr h))
theorem le_ti {x y : Int32} {a b : Int} (ha : x.toInt = a) (hb : y.toInt = b) (c : x ≤ y) : a ≤ b := by subst ha hb; exact Int32.le_iff_toInt_le.mp c
theorem nle_ti {x y : Int32} {a b : Int} (ha : x.toInt = a) (hb : y.toInt = b) (c : ¬ x ≤ y) : b < a := by subst ha hb; exact Int.not_le.mp (fun h => c (Int32.le_iff_toInt_le.mpr h))
theorem eq_ti {x y : Int32} {a b : Int} (ha : x.toInt = a) (hb : y.toInt = b) (c : x = y) : a = b := by subst ha hb; rw [c]
theorem ne_ti {x y : Int32} {a b : Int} (ha : x.toInt = a) (hb : y.toInt = b) (c : ¬ x = y) : a ≠ b := by subst ha hb; exact fun h => c (Int32.toInt_inj.mp h)
theorem in_ti {x : Int32} {n : Nat} {a : Int} (ha : x.toInt = a) (h1 : 0 ≤ a) (h2 : a < (n : Int)) : vp_in x n := vp_in_iff.mpr (by subst ha; exact ⟨h1, h2⟩)
theorem nz_ti {y : Int32} {a : Int} (ha : y.toInt = a) (h : a ≠ 0) : ¬ y = 0 := fun e => h (by rw [← ha, e]; rfl)
theorem nz_l {y : Int32} {a : Int} (ha : y.toInt = a) (h : a ≠ 0) : ¬ y.toInt64 = 0 := fun e => h (by
  have := congrArg Int64.toInt e
  rw [Int32.toInt_toInt64] at this
  rw [← ha, this]
  rfl)
/-- bounds of all that an array holds -/
def Bd (lo hi : Int) (f : Nat → Int32) : Prop := ∀ k, lo ≤ (f k).toInt ∧ (f k).toInt ≤ hi
theorem Bd.upd {lo hi : Int} {f : Nat → Int32} {k : Nat} {x : Int32} {a : Int} (h : Bd lo hi f) (ha : x.toInt = a) (h1 : lo ≤ a) (h2 : a ≤ hi) : Bd lo hi (upd f k x) := by
  intro j
  subst ha
  by_cases e : j = k
  · subst e; rw [pk_us]; exact ⟨h1, h2⟩
  · rw [pk_un e]; exact h j
theorem and_ti {x z : Int32} (m : Nat) (k : Nat) (hm : (nI m).toBitVec.toNat = 2 ^ k - 1) (hk : 2 ^ k - 1 = m) (hlt : m < 2147483648) (h : z = x &&& nI m) : 0 ≤ z.toInt ∧ z.toInt ≤ (m : Int) := by
  obtain ⟨j, hj, e⟩ := pk_andE x (m := nI m) k hm
  subst h
  rw [e, nI_toInt (by omega)]
  constructor <;> omega
theorem mul_b {a b p q : Int} (h1 : 0 ≤ a) (h2 : a ≤ p) (h3 : 0 ≤ b) (h4 : b ≤ q) : 0 ≤ a * b ∧ a * b ≤ p * q := ⟨Int.mul_nonneg h1 h3, Int.le_trans (Int.mul_le_mul_of_nonneg_right h2 h3) (Int.mul_le_mul_of_nonneg_left h4 (Int.le_trans h1 h2))⟩
theorem mul_bb {a b u v p q L U : Int} (hu : 0 ≤ u) (hv : 0 ≤ v) (h1 : u ≤ a) (h2 : a ≤ p) (h3 : v ≤ b) (h4 : b ≤ q) (hL : L ≤ u * v) (hU : p * q ≤ U) : L ≤ a * b ∧ a * b ≤ U := by
  have e1 : u * v ≤ a * b := Int.mul_le_mul h1 h3 hv (Int.le_trans hu h1)
  have e2 : a * b ≤ p * q := Int.mul_le_mul h2 h4 (Int.le_trans hv h3) (Int.le_trans (Int.le_trans hu h1) h2)
  exact ⟨Int.le_trans hL e1, Int.le_trans e2 hU⟩
