theorem rl_compares {n : Nat} {T M : Nat → Nat → Int32} (h : Rl n T M) : fX2_compares n T = fX3_compares M := h.2.2.1
theorem rl_frames {n : Nat} {T M : Nat → Nat → Int32} (h : Rl n T M) : fX2_frames n T = fX3_frames M := h.2.1
def T0 : Nat → Nat → Int32 := fun _ _ => 0
theorem rl_0 : Rl 0 T0 M0 := ⟨fun g hg => absurd hg (Nat.not_lt_zero g), rfl, rfl, rfl, rfl, rfl⟩
theorem mi_0 : MInv 0 M0 := ⟨rfl, by decide, fun g hg => absurd hg (Nat.not_lt_zero g), fun g _ _ => ⟨rfl, rfl, rfl, rfl⟩, fun k _ => ⟨rfl, rfl⟩, Or.inl rfl⟩
