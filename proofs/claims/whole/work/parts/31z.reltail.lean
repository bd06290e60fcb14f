theorem rl_gear {n : Nat} {T M : Nat → Nat → Int32} (h : Rl n T M) (hI : MInv n M) (hn : n < 16) : (fX3_gear M).1 = nI (n + 1) - 1 ∧ Rl (n + 1) (upG T n newG) (fX3_gear M).2 ∧ MInv (n + 1) (fX3_gear M).2 := sorry
theorem rl_give {n : Nat} {T M : Nat → Nat → Int32} {a b : Int32} (h : Rl n T M) (hI : MInv n M) : (fX2_give n T a b).1 = (fX3_give M a b).1 ∧ Rl n (fX2_give n T a b).2 (fX3_give M a b).2 ∧ MInv n (fX3_give M a b).2 := sorry
theorem rl_send {n : Nat} {T M : Nat → Nat → Int32} {a b : Int32} (h : Rl n T M) (hI : MInv n M) : (fX2_send n T a b).1 = (fX3_send M a b).1 ∧ Rl n (fX2_send n T a b).2 (fX3_send M a b).2 := sorry
theorem rl_tick {n : Nat} {T M : Nat → Nat → Int32} {a : Int32} (h : Rl n T M) (hI : MInv n M) : (fX2_tick n T a).1 = (fX3_tick M a).1 ∧ Rl n (fX2_tick n T a).2 (fX3_tick M a).2 ∧ MInv n (fX3_tick M a).2 := sorry
theorem rl_power {n : Nat} {T M : Nat → Nat → Int32} (h : Rl n T M) (hI : MInv n M) : Rl n (fX2_power n T) (fX3_power M) ∧ MInv n (fX3_power M) := sorry
theorem rl_fail {n : Nat} {T M : Nat → Nat → Int32} (h : Rl n T M) (hI : MInv n M) : Rl n (fX2_fail n T) (fX3_fail M) ∧ MInv n (fX3_fail M) := sorry
theorem rl_commission {n : Nat} {T M : Nat → Nat → Int32} {a : Int32} (h : Rl n T M) (hI : MInv n M) : (fX2_commission n T a).1 = (fX3_commission M a).1 ∧ Rl n (fX2_commission n T a).2 (fX3_commission M a).2 := sorry
theorem rl_told {n : Nat} {T M : Nat → Nat → Int32} {a b : Int32} (h : Rl n T M) (hI : MInv n M) : fX2_told n T a b = fX3_told M a b := sorry
theorem rl_compares {n : Nat} {T M : Nat → Nat → Int32} (h : Rl n T M) : fX2_compares n T = fX3_compares M := h.2.2.1
theorem rl_frames {n : Nat} {T M : Nat → Nat → Int32} (h : Rl n T M) : fX2_frames n T = fX3_frames M := h.2.1
def T0 : Nat → Nat → Int32 := fun _ _ => 0
theorem rl_0 : Rl 0 T0 M0 := ⟨fun g hg => absurd hg (Nat.not_lt_zero g), rfl, rfl, rfl, rfl, rfl⟩
theorem mi_0 : MInv 0 M0 := ⟨rfl, by decide, fun g hg => absurd hg (Nat.not_lt_zero g), fun g _ _ => ⟨rfl, rfl, rfl, rfl⟩, fun k _ => ⟨rfl, rfl⟩, Or.inl rfl⟩
