/-! THE RELATION between the class's state T and the reference's M -/
def GRel (G C : Nat → Int32) : Prop :=
  (G 0 = C 2 ∧ G 1 = C 3 ∧ G 2 = C 4 ∧ G 3 = C 7 ∧ G 4 = C 8) ∧ (G 9 = C 5 ∧ G 10 = C 6 ∧ G 11 = C 9 ∧ G 12 = C 11) ∧ (G 13 = C 12 ∧ G 14 = C 15 ∧ G 15 = C 13 ∧ G 16 = C 14) ∧ (G 17 = C 16 ∧ G 18 = C 17) ∧ (∀ s, s < 16 → G (32 + s) = C (32 + s)) ∧
  ((C 18 = -1 ∧ G 8 = 0) ∨ (C 18 ≠ -1 ∧ G 8 = C 20 ∧ G 6 = C 18 ∧ G 5 = C 19 ∧ G 7 = C 21))
def Rl (n : Nat) (T M : Nat → Nat → Int32) : Prop := (∀ g, g < n → GRel (T g) (colM M g)) ∧ T 100 1 = M 24 0 ∧ T 100 2 = M 25 0 ∧ T 100 3 = M 27 0 ∧ T 100 4 = M 28 0 ∧ T 100 5 = M 26 0
