def ch : Nat → Nat → Nat
  | _, 0 => 1
  | 0, _ + 1 => 0
  | n + 1, k + 1 => ch n k + ch n (k + 1)
theorem ch_0 (n : Nat) : ch n 0 = 1 := by cases n <;> rfl
theorem ch_z (k : Nat) : ch 0 (k + 1) = 0 := rfl
theorem ch_s (n k : Nat) : ch (n + 1) (k + 1) = ch n k + ch n (k + 1) := rfl
theorem ch_big : ∀ (n k : Nat), n < k → ch n k = 0 := by
  intro n
  induction n with
  | zero =>
    intro k h
    cases k with
    | zero => omega
    | succ k => rfl
  | succ n ih =>
    intro k h
    cases k with
    | zero => omega
    | succ k => rw [ch_s, ih k (by omega), ih (k + 1) (by omega)]
theorem ch_self : ∀ n : Nat, ch n n = 1 := by
  intro n
  induction n with
  | zero => rfl
  | succ n ih => rw [ch_s, ih, ch_big n (n + 1) (by omega)]
theorem ch_step : ∀ (n k : Nat), ch n k * (n + 1) = ch (n + 1) (k + 1) * (k + 1) := by
  intro n
  induction n with
  | zero =>
    intro k
    cases k with
    | zero => rfl
    | succ k => rw [ch_s, ch_z, ch_z]; simp
  | succ n ih =>
    intro k
    cases k with
    | zero =>
      have h := ih 0
      rw [ch_0] at h
      rw [ch_s (n + 1) 0, ch_0]
      simp only [Nat.zero_add, Nat.mul_one] at h ⊢
      omega
    | succ k =>
      have h1 := ih k
      have h2 := ih (k + 1)
      rw [ch_s (n + 1) (k + 1)]
      have h3 : ch (n + 1) (k + 1) = ch n k + ch n (k + 1) := ch_s n k
      have e1 : ch (n + 1) (k + 1) * (n + 1 + 1) = ch n k * (n + 1) + ch n (k + 1) * (n + 1) + ch (n + 1) (k + 1) := by
        rw [Nat.mul_add, Nat.mul_one]
        congr 1
        rw [h3, Nat.add_mul]
      have e2 : (ch (n + 1) (k + 1) + ch (n + 1) (k + 1 + 1)) * (k + 1 + 1) = ch (n + 1) (k + 1) * (k + 1) + ch (n + 1) (k + 1) + ch (n + 1) (k + 1 + 1) * (k + 1 + 1) := by
        rw [Nat.add_mul]
        congr 1
      rw [e1, e2, h1, h2]
      omega
theorem ch_step2 : ∀ (n k : Nat), k ≤ n → ch n (k + 1) * (k + 1) = ch n k * (n - k) := by
  intro n
  induction n with
  | zero =>
    intro k h
    have : k = 0 := by omega
    subst this
    rfl
  | succ n ih =>
    intro k h
    rw [← ch_step n k]
    cases k with
    | zero => rw [ch_0, ch_0]; simp
    | succ k =>
      have h1 := ih k (by omega)
      have h2 := ch_s n k
      have h3 : n + 1 - (k + 1) = n - k := by omega
      rw [h3, h2, Nat.add_mul, ← h1, ← Nat.mul_add]
      congr 1
      omega
theorem ch_le : ∀ (n k : Nat), ch n k ≤ 2 ^ n := by
  intro n
  induction n with
  | zero => intro k; cases k <;> simp [ch]
  | succ n ih =>
    intro k
    cases k with
    | zero => rw [ch_0]; exact Nat.one_le_two_pow
    | succ k =>
      have h1 := ih k
      have h2 := ih (k + 1)
      rw [ch_s, Nat.pow_succ]
      omega
theorem ch_lt {n k : Nat} (h : n ≤ 50) : ch n k * 51 < 2 ^ 63 := by
  have h1 := ch_le n k
  have h2 : (2 : Nat) ^ n ≤ 2 ^ 50 := Nat.pow_le_pow_right (by decide) h
  have h3 : (2 : Nat) ^ 50 * 51 < 2 ^ 63 := by decide
  have h4 := Nat.mul_le_mul_right 51 (Nat.le_trans h1 h2)
  omega
/-- sums from 0 on -/
def sg (f : Nat → Nat) : Nat → Nat
  | 0 => 0
  | n + 1 => sg f n + f n
theorem sg_congr {f g : Nat → Nat} : ∀ n, (∀ j, j < n → f j = g j) → sg f n = sg g n := by
  intro n
  induction n with
  | zero => intro _; rfl
  | succ n ih => intro h; simp only [sg]; rw [ih (fun j hj => h j (by omega)), h n (by omega)]
theorem sg_add (f g : Nat → Nat) : ∀ n, sg (fun j => f j + g j) n = sg f n + sg g n := by
  intro n
  induction n with
  | zero => rfl
  | succ n ih => simp only [sg]; rw [ih]; omega
theorem sg_head (f : Nat → Nat) : ∀ n, sg f (n + 1) = f 0 + sg (fun j => f (j + 1)) n := by
  intro n
  induction n with
  | zero => simp [sg]
  | succ n ih => rw [sg, ih]; simp only [sg]; omega
theorem sg_zero : ∀ n, sg (fun _ => 0) n = 0 := by
  intro n
  induction n with
  | zero => rfl
  | succ n ih => simp only [sg]; rw [ih]
theorem vander (c : Nat) : ∀ (b n : Nat), sg (fun j => ch b j * ch c (n - j)) (n + 1) = ch (b + c) n := by
  intro b
  induction b with
  | zero =>
    intro n
    rw [sg_head, ch_0, Nat.sub_zero, Nat.one_mul, Nat.zero_add]
    have h : sg (fun j => ch 0 (j + 1) * ch c (n - (j + 1))) n = sg (fun _ => 0) n := sg_congr n (fun j _ => by rw [ch_z, Nat.zero_mul])
    rw [h, sg_zero]
    rfl
  | succ b ih =>
    intro n
    cases n with
    | zero => simp [sg, ch_0]
    | succ n =>
      have e : b + 1 + c = (b + c) + 1 := by omega
      rw [e, ch_s, ← ih n, ← ih (n + 1), sg_head]
      have h : sg (fun j => ch (b + 1) (j + 1) * ch c (n + 1 - (j + 1))) (n + 1) = sg (fun j => ch b j * ch c (n - j) + ch b (j + 1) * ch c (n - j)) (n + 1) := sg_congr _ (fun j _ => by
        have e2 : n + 1 - (j + 1) = n - j := by omega
        rw [e2, ch_s, Nat.add_mul])
      rw [h, sg_add, sg_head (fun j => ch b j * ch c (n + 1 - j)) (n + 1), ch_0, ch_0]
      have h2 : sg (fun j => ch b (j + 1) * ch c (n + 1 - (j + 1))) (n + 1) = sg (fun j => ch b (j + 1) * ch c (n - j)) (n + 1) := sg_congr _ (fun j _ => by
        have e2 : n + 1 - (j + 1) = n - j := by omega
        rw [e2])
      rw [h2]
      omega
/-- the sum from k up to n -/
def sms (b c n k : Nat) : Nat → Nat
  | 0 => 0
  | m + 1 => sms b c n k m + ch b (k + m) * ch c (n - (k + m))
theorem sms_1 (b c n : Nat) : sms b c n 1 n = ch (b + c) n - ch c n := by
  have h : ∀ m, sms b c n 1 m = sg (fun j => ch b (j + 1) * ch c (n - (j + 1))) m := by
    intro m
    induction m with
    | zero => rfl
    | succ m ih => simp only [sms, sg]; rw [ih, Nat.add_comm 1 m]
  have h2 := vander c b n
  rw [sg_head, ch_0, Nat.sub_zero, Nat.one_mul] at h2
  rw [h n]
  omega
theorem vander_le (b c n : Nat) : ch c n ≤ ch (b + c) n := by
  have h2 := vander c b n
  rw [sg_head, ch_0, Nat.sub_zero, Nat.one_mul] at h2
  omega
