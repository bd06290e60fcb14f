/-! The reference's state: a column for each gear; what holds of it at every time -/
def colM (M : Nat → Nat → Int32) (g k : Nat) : Int32 := if 32 ≤ k ∧ k < 48 then M 10 (16 * g + (k - 32)) else if 2 ≤ k ∧ k < 22 ∧ k ≠ 10 then M k g else 0
def inB (x : Int32) (a b : Int) : Prop := a ≤ x.toInt ∧ x.toInt ≤ b
/-- one gear of the reference: 2 level, 3 least, 4 most, 5 power, 6 fail, 7 fade, 8 rate, 9 groups, 11 short, 12 random, 13 byte, 14 search, 15 next, 16 initialised, 17 withdrawn, 18 goal, 19 begin, 20 span, 21 gone, 32.. scenes -/
def CV (C : Nat → Int32) : Prop :=
  (inB (C 3) 1 254 ∧ inB (C 4) 1 254 ∧ (C 3).toInt ≤ (C 4).toInt ∧ inB (C 2) 0 254 ∧ (C 2).toInt ≤ (C 4).toInt ∧ ((C 2).toInt = 0 ∨ (C 3).toInt ≤ (C 2).toInt)) ∧
  (inB (C 5) 0 255 ∧ inB (C 6) 0 255 ∧ inB (C 7) 0 15 ∧ inB (C 8) 1 15 ∧ inB (C 9) 0 65535 ∧ inB (C 13) 0 255) ∧
  (∀ s, s < 16 → inB (C (32 + s)) 0 255) ∧
  (C 11 = 255 ∨ inB (C 11) 0 63) ∧ (inB (C 12) 0 16777215 ∧ inB (C 14) 0 16777215 ∧ inB (C 15) 0 16777215) ∧
  ((C 16 = 0 ∨ C 16 = 1) ∧ (C 17 = 0 ∨ C 17 = 1)) ∧
  (C 18 = -1 ∨ (inB (C 18) 0 254 ∧ (C 18).toInt ≤ (C 4).toInt ∧ 0 < (C 2).toInt ∧ inB (C 19) 1 254 ∧ (C 19).toInt ≤ (C 4).toInt ∧ inB (C 20) 1 905 ∧ 0 ≤ (C 21).toInt ∧ (C 21).toInt < (C 20).toInt ∧ ((C 18).toInt = 0 ∨ (C 3).toInt ≤ (C 18).toInt)))
def MInv (n : Nat) (M : Nat → Nat → Int32) : Prop :=
  M 1 0 = nI n ∧ n ≤ 16 ∧ (∀ g, g < n → CV (colM M g)) ∧ (∀ g, n ≤ g → g < 16 → M 13 g = 0 ∧ M 15 g = 0 ∧ M 16 g = 0 ∧ M 17 g = 0) ∧
  (∀ k, k < 16 → M 22 k = tabT k ∧ M 23 k = tabR k) ∧ (M 26 0 = 0 ∨ M 26 0 = 1)
theorem inB_in {x : Int32} {a b : Int} {N : Nat} (h : inB x a b) (ha : 0 ≤ a) (hb : b < N) : vp_in x N := by
  rw [vp_in_iff]
  have := h.1
  have := h.2
  omega
theorem mi_fa {n g : Nat} {M : Nat → Nat → Int32} (h : MInv n M) (hg : g < n) : vp_in (M 7 g) 16 := inB_in (h.2.2.1 g hg).2.1.2.2.1 (by decide) (by decide)
theorem mi_ra {n g : Nat} {M : Nat → Nat → Int32} (h : MInv n M) (hg : g < n) : vp_in (M 8 g) 16 := inB_in (h.2.2.1 g hg).2.1.2.2.2.1 (by decide) (by decide)
theorem mi_16 {n g : Nat} {M : Nat → Nat → Int32} (h : MInv n M) (hg : g < n) : g < 16 := Nat.lt_of_lt_of_le hg h.2.1
/-- a loop over the gears -/
def itM (f : (Nat → Nat → Int32) → Nat → (Nat → Nat → Int32)) : Nat → (Nat → Nat → Int32) → (Nat → Nat → Int32)
  | 0, M => M
  | n + 1, M => f (itM f n M) n
theorem mi_it {n : Nat} {M : Nat → Nat → Int32} {f : (Nat → Nat → Int32) → Nat → (Nat → Nat → Int32)} (hf : ∀ M g, MInv n M → g < n → MInv n (f M g)) (h : MInv n M) : ∀ i, i ≤ n → MInv n (itM f i M) := by
  intro i
  induction i with
  | zero => intro _; exact h
  | succ i ih => intro hi; exact hf _ _ (ih (by omega)) (by omega)
/-- the bodies of the loops -/
def bodyS (a b tw : Int32) (M : Nat → Nat → Int32) (g : Nat) : Nat → Nat → Int32 :=
  (if (fX3_isIn a 160 253) = 0 then (if (fX3_isMeant M g a) = 0 then M else (if (a - a / 2 * 2) = 1 then (fX3_command M g b tw) else (if b = 255 then (up2 M 18 g (-1)) else (fX3_goTo M g b)))) else (fX3_special M g a b tw))
def bodyP (M : Nat → Nat → Int32) (g : Nat) : Nat → Nat → Int32 :=
  (up2 (up2 (up2 (up2 (fX3_set M g (if (M 5 g) = 255 then (M 2 g) else (if (M 5 g) = 0 then 0 else (fX3_within M g (M 5 g))))) 14 g 16777215) 13 g 0) 16 g 0) 17 g 0)
def bodyF (M : Nat → Nat → Int32) (g : Nat) : Nat → Nat → Int32 := (if (M 6 g) = 255 then M else (fX3_goTo M g (M 6 g)))
def tickV (k : Int32) (M : Nat → Nat → Int32) (g : Nat) : Int32 := ((M 19 g) + ((((M 18 g) - (M 19 g)) * ((M 21 g) + k)) / (M 20 g)))
def bodyT (k : Int32) (M : Nat → Nat → Int32) (g : Nat) : Nat → Nat → Int32 :=
  (if (M 18 g) = (-1) then M else (if ((M 21 g) + k) < (M 20 g) then (up2 (up2 M 21 g ((M 21 g) + k)) 2 g (if (M 3 g) ≤ (tickV k M g) then (tickV k M g) else (M 3 g))) else (fX3_set (up2 M 21 g ((M 21 g) + k)) g (M 18 g))))
def bodyTn (k : Int32) (M : Nat → Nat → Int32) (g : Nat) (x : Int32) : Int32 :=
  (if (M 18 g) = (-1) then x else (if ((M 21 g) + k) < (M 20 g) then x + 1 else x))
