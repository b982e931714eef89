theorem gg_all : ∀ d : Nat, CG1 d ∧ CG2 d ∧ CG3 d ∧ CG4 d ∧ CG5 d := by
  intro d
  induction d using Nat.strongRecOn with
  | ind d ih =>
    have h1 := gg_1 d ih
    have h2 := gg_2 d ih h1
    have h3 := gg_3 d ih h1 h2
    have h4 := gg_4 d ih h1 h2 h3
    exact ⟨h1, h2, h3, h4, gg_5 d ih h1 h2 h3 h4⟩
