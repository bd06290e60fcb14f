/-! THE RELATION, gear by gear -/
theorem it2 {α β : Type} {P : α → β → Prop} {c : Prop} [Decidable c] {a b : α} {a' b' : β} (h1 : c → P a a') (h2 : ¬ c → P b b') : P (if c then a else b) (if c then a' else b') := by
  by_cases h : c
  · rw [if_pos h, if_pos h]; exact h1 h
  · rw [if_neg h, if_neg h]; exact h2 h
theorem sk {α : Type} {P : α → Prop} {c : Prop} [Decidable c] {a b : α} (hc : ¬ c) (h : P b) : P (if c then a else b) := by rw [if_neg hc]; exact h
theorem sy {α : Type} {P : α → Prop} {c : Prop} [Decidable c] {a b : α} (hc : c) (h : P a) : P (if c then a else b) := by rw [if_pos hc]; exact h
theorem upd_id {G : Nat → Int32} {k : Nat} {x : Int32} (h : G k = x) : upd G k x = G := by
  funext j
  by_cases c : j = k
  · subst c; rw [upd_eq, h]
  · rw [upd_ne c]
section GR
variable {G C : Nat → Int32} {x v l t : Int32}
theorem gr_1 (h : GRel G C) : GRel (upd G 1 x) (upd C 3 x) := by
  obtain ⟨⟨h0, h1, h2, h3, h4⟩, ⟨h9, h10, h11, h12⟩, ⟨h13, h14, h15, h16⟩, ⟨h17, h18⟩, e, f⟩ := h
  exact ⟨⟨h0, rfl, h2, h3, h4⟩, ⟨h9, h10, h11, h12⟩, ⟨h13, h14, h15, h16⟩, ⟨h17, h18⟩, fun s hs => by rw [upd_ne (by omega), upd_ne (by omega)]; exact e s hs, f⟩
theorem gr_2 (h : GRel G C) : GRel (upd G 2 x) (upd C 4 x) := by
  obtain ⟨⟨h0, h1, h2, h3, h4⟩, ⟨h9, h10, h11, h12⟩, ⟨h13, h14, h15, h16⟩, ⟨h17, h18⟩, e, f⟩ := h
  exact ⟨⟨h0, h1, rfl, h3, h4⟩, ⟨h9, h10, h11, h12⟩, ⟨h13, h14, h15, h16⟩, ⟨h17, h18⟩, fun s hs => by rw [upd_ne (by omega), upd_ne (by omega)]; exact e s hs, f⟩
theorem gr_3 (h : GRel G C) : GRel (upd G 3 x) (upd C 7 x) := by
  obtain ⟨⟨h0, h1, h2, h3, h4⟩, ⟨h9, h10, h11, h12⟩, ⟨h13, h14, h15, h16⟩, ⟨h17, h18⟩, e, f⟩ := h
  exact ⟨⟨h0, h1, h2, rfl, h4⟩, ⟨h9, h10, h11, h12⟩, ⟨h13, h14, h15, h16⟩, ⟨h17, h18⟩, fun s hs => by rw [upd_ne (by omega), upd_ne (by omega)]; exact e s hs, f⟩
theorem gr_4 (h : GRel G C) : GRel (upd G 4 x) (upd C 8 x) := by
  obtain ⟨⟨h0, h1, h2, h3, h4⟩, ⟨h9, h10, h11, h12⟩, ⟨h13, h14, h15, h16⟩, ⟨h17, h18⟩, e, f⟩ := h
  exact ⟨⟨h0, h1, h2, h3, rfl⟩, ⟨h9, h10, h11, h12⟩, ⟨h13, h14, h15, h16⟩, ⟨h17, h18⟩, fun s hs => by rw [upd_ne (by omega), upd_ne (by omega)]; exact e s hs, f⟩
theorem gr_9 (h : GRel G C) : GRel (upd G 9 x) (upd C 5 x) := by
  obtain ⟨⟨h0, h1, h2, h3, h4⟩, ⟨h9, h10, h11, h12⟩, ⟨h13, h14, h15, h16⟩, ⟨h17, h18⟩, e, f⟩ := h
  exact ⟨⟨h0, h1, h2, h3, h4⟩, ⟨rfl, h10, h11, h12⟩, ⟨h13, h14, h15, h16⟩, ⟨h17, h18⟩, fun s hs => by rw [upd_ne (by omega), upd_ne (by omega)]; exact e s hs, f⟩
theorem gr_10 (h : GRel G C) : GRel (upd G 10 x) (upd C 6 x) := by
  obtain ⟨⟨h0, h1, h2, h3, h4⟩, ⟨h9, h10, h11, h12⟩, ⟨h13, h14, h15, h16⟩, ⟨h17, h18⟩, e, f⟩ := h
  exact ⟨⟨h0, h1, h2, h3, h4⟩, ⟨h9, rfl, h11, h12⟩, ⟨h13, h14, h15, h16⟩, ⟨h17, h18⟩, fun s hs => by rw [upd_ne (by omega), upd_ne (by omega)]; exact e s hs, f⟩
theorem gr_11 (h : GRel G C) : GRel (upd G 11 x) (upd C 9 x) := by
  obtain ⟨⟨h0, h1, h2, h3, h4⟩, ⟨h9, h10, h11, h12⟩, ⟨h13, h14, h15, h16⟩, ⟨h17, h18⟩, e, f⟩ := h
  exact ⟨⟨h0, h1, h2, h3, h4⟩, ⟨h9, h10, rfl, h12⟩, ⟨h13, h14, h15, h16⟩, ⟨h17, h18⟩, fun s hs => by rw [upd_ne (by omega), upd_ne (by omega)]; exact e s hs, f⟩
theorem gr_12 (h : GRel G C) : GRel (upd G 12 x) (upd C 11 x) := by
  obtain ⟨⟨h0, h1, h2, h3, h4⟩, ⟨h9, h10, h11, h12⟩, ⟨h13, h14, h15, h16⟩, ⟨h17, h18⟩, e, f⟩ := h
  exact ⟨⟨h0, h1, h2, h3, h4⟩, ⟨h9, h10, h11, rfl⟩, ⟨h13, h14, h15, h16⟩, ⟨h17, h18⟩, fun s hs => by rw [upd_ne (by omega), upd_ne (by omega)]; exact e s hs, f⟩
theorem gr_13 (h : GRel G C) : GRel (upd G 13 x) (upd C 12 x) := by
  obtain ⟨⟨h0, h1, h2, h3, h4⟩, ⟨h9, h10, h11, h12⟩, ⟨h13, h14, h15, h16⟩, ⟨h17, h18⟩, e, f⟩ := h
  exact ⟨⟨h0, h1, h2, h3, h4⟩, ⟨h9, h10, h11, h12⟩, ⟨rfl, h14, h15, h16⟩, ⟨h17, h18⟩, fun s hs => by rw [upd_ne (by omega), upd_ne (by omega)]; exact e s hs, f⟩
theorem gr_14 (h : GRel G C) : GRel (upd G 14 x) (upd C 15 x) := by
  obtain ⟨⟨h0, h1, h2, h3, h4⟩, ⟨h9, h10, h11, h12⟩, ⟨h13, h14, h15, h16⟩, ⟨h17, h18⟩, e, f⟩ := h
  exact ⟨⟨h0, h1, h2, h3, h4⟩, ⟨h9, h10, h11, h12⟩, ⟨h13, rfl, h15, h16⟩, ⟨h17, h18⟩, fun s hs => by rw [upd_ne (by omega), upd_ne (by omega)]; exact e s hs, f⟩
theorem gr_15 (h : GRel G C) : GRel (upd G 15 x) (upd C 13 x) := by
  obtain ⟨⟨h0, h1, h2, h3, h4⟩, ⟨h9, h10, h11, h12⟩, ⟨h13, h14, h15, h16⟩, ⟨h17, h18⟩, e, f⟩ := h
  exact ⟨⟨h0, h1, h2, h3, h4⟩, ⟨h9, h10, h11, h12⟩, ⟨h13, h14, rfl, h16⟩, ⟨h17, h18⟩, fun s hs => by rw [upd_ne (by omega), upd_ne (by omega)]; exact e s hs, f⟩
theorem gr_16 (h : GRel G C) : GRel (upd G 16 x) (upd C 14 x) := by
  obtain ⟨⟨h0, h1, h2, h3, h4⟩, ⟨h9, h10, h11, h12⟩, ⟨h13, h14, h15, h16⟩, ⟨h17, h18⟩, e, f⟩ := h
  exact ⟨⟨h0, h1, h2, h3, h4⟩, ⟨h9, h10, h11, h12⟩, ⟨h13, h14, h15, rfl⟩, ⟨h17, h18⟩, fun s hs => by rw [upd_ne (by omega), upd_ne (by omega)]; exact e s hs, f⟩
theorem gr_17 (h : GRel G C) : GRel (upd G 17 x) (upd C 16 x) := by
  obtain ⟨⟨h0, h1, h2, h3, h4⟩, ⟨h9, h10, h11, h12⟩, ⟨h13, h14, h15, h16⟩, ⟨h17, h18⟩, e, f⟩ := h
  exact ⟨⟨h0, h1, h2, h3, h4⟩, ⟨h9, h10, h11, h12⟩, ⟨h13, h14, h15, h16⟩, ⟨rfl, h18⟩, fun s hs => by rw [upd_ne (by omega), upd_ne (by omega)]; exact e s hs, f⟩
theorem gr_18 (h : GRel G C) : GRel (upd G 18 x) (upd C 17 x) := by
  obtain ⟨⟨h0, h1, h2, h3, h4⟩, ⟨h9, h10, h11, h12⟩, ⟨h13, h14, h15, h16⟩, ⟨h17, h18⟩, e, f⟩ := h
  exact ⟨⟨h0, h1, h2, h3, h4⟩, ⟨h9, h10, h11, h12⟩, ⟨h13, h14, h15, h16⟩, ⟨h17, rfl⟩, fun s hs => by rw [upd_ne (by omega), upd_ne (by omega)]; exact e s hs, f⟩
theorem gr_set (h : GRel G C) : GRel (upd (upd G 0 v) 8 0) (upd (upd C 2 v) 18 (-1)) := by
  obtain ⟨⟨h0, h1, h2, h3, h4⟩, ⟨h9, h10, h11, h12⟩, ⟨h13, h14, h15, h16⟩, ⟨h17, h18⟩, e, f⟩ := h
  exact ⟨⟨rfl, h1, h2, h3, h4⟩, ⟨h9, h10, h11, h12⟩, ⟨h13, h14, h15, h16⟩, ⟨h17, h18⟩, fun s hs => by rw [upd_ne (by omega), upd_ne (by omega), upd_ne (by omega), upd_ne (by omega)]; exact e s hs, Or.inl ⟨rfl, rfl⟩⟩
theorem gr_end (h : GRel G C) : GRel (upd G 8 0) (upd C 18 (-1)) := by
  obtain ⟨⟨h0, h1, h2, h3, h4⟩, ⟨h9, h10, h11, h12⟩, ⟨h13, h14, h15, h16⟩, ⟨h17, h18⟩, e, f⟩ := h
  exact ⟨⟨h0, h1, h2, h3, h4⟩, ⟨h9, h10, h11, h12⟩, ⟨h13, h14, h15, h16⟩, ⟨h17, h18⟩, fun s hs => by rw [upd_ne (by omega), upd_ne (by omega)]; exact e s hs, Or.inl ⟨rfl, rfl⟩⟩
theorem gr_fade (h : GRel G C) (hv : v ≠ -1) : GRel (upd (upd (upd (upd G 5 l) 6 v) 7 0) 8 x) (upd (upd (upd (upd C 18 v) 19 l) 20 x) 21 0) := by
  obtain ⟨⟨h0, h1, h2, h3, h4⟩, ⟨h9, h10, h11, h12⟩, ⟨h13, h14, h15, h16⟩, ⟨h17, h18⟩, e, f⟩ := h
  exact ⟨⟨h0, h1, h2, h3, h4⟩, ⟨h9, h10, h11, h12⟩, ⟨h13, h14, h15, h16⟩, ⟨h17, h18⟩, fun s hs => by rw [upd_ne (by omega), upd_ne (by omega), upd_ne (by omega), upd_ne (by omega), upd_ne (by omega), upd_ne (by omega), upd_ne (by omega), upd_ne (by omega)]; exact e s hs, Or.inr ⟨hv, rfl, rfl, rfl, rfl⟩⟩
theorem gr_tick (h : GRel G C) (hc : C 18 ≠ -1) : GRel (upd (upd G 7 t) 0 l) (upd (upd C 21 t) 2 l) := by
  obtain ⟨⟨h0, h1, h2, h3, h4⟩, ⟨h9, h10, h11, h12⟩, ⟨h13, h14, h15, h16⟩, ⟨h17, h18⟩, e, f⟩ := h
  refine ⟨⟨rfl, h1, h2, h3, h4⟩, ⟨h9, h10, h11, h12⟩, ⟨h13, h14, h15, h16⟩, ⟨h17, h18⟩, fun s hs => by rw [upd_ne (by omega), upd_ne (by omega), upd_ne (by omega), upd_ne (by omega)]; exact e s hs, Or.inr ?_⟩
  rcases f with f | ⟨f1, f2, f3, f4, f5⟩
  · exact absurd f.1 hc
  · exact ⟨hc, f2, f3, f4, rfl⟩
theorem gr_fin (h : GRel G C) : GRel (upd (upd (upd G 7 t) 0 v) 8 0) (upd (upd (upd C 21 t) 2 v) 18 (-1)) := by
  obtain ⟨⟨h0, h1, h2, h3, h4⟩, ⟨h9, h10, h11, h12⟩, ⟨h13, h14, h15, h16⟩, ⟨h17, h18⟩, e, f⟩ := h
  exact ⟨⟨rfl, h1, h2, h3, h4⟩, ⟨h9, h10, h11, h12⟩, ⟨h13, h14, h15, h16⟩, ⟨h17, h18⟩, fun s hs => by rw [upd_ne (by omega), upd_ne (by omega), upd_ne (by omega), upd_ne (by omega), upd_ne (by omega), upd_ne (by omega)]; exact e s hs, Or.inl ⟨rfl, rfl⟩⟩
theorem gr_sc {s : Nat} (h : GRel G C) (hs : s < 16) : GRel (upd G (32 + s) x) (upd C (32 + s) x) := by
  obtain ⟨⟨h0, h1, h2, h3, h4⟩, ⟨h9, h10, h11, h12⟩, ⟨h13, h14, h15, h16⟩, ⟨h17, h18⟩, e, f⟩ := h
  have k : ∀ (A : Nat → Int32) (j : Nat), j < 32 → upd A (32 + s) x j = A j := fun A j hj => upd_ne (by omega)
  unfold GRel
  simp only [k _ 0 (by decide), k _ 1 (by decide), k _ 2 (by decide), k _ 3 (by decide), k _ 4 (by decide), k _ 5 (by decide), k _ 6 (by decide), k _ 7 (by decide), k _ 8 (by decide), k _ 9 (by decide), k _ 10 (by decide), k _ 11 (by decide), k _ 12 (by decide), k _ 13 (by decide), k _ 14 (by decide), k _ 15 (by decide), k _ 16 (by decide), k _ 17 (by decide), k _ 18 (by decide), k _ 19 (by decide), k _ 20 (by decide), k _ 21 (by decide)]
  refine ⟨⟨h0, h1, h2, h3, h4⟩, ⟨h9, h10, h11, h12⟩, ⟨h13, h14, h15, h16⟩, ⟨h17, h18⟩, fun t ht => ?_, f⟩
  by_cases z : t = s
  · subst z; rw [upd_eq, upd_eq]
  · rw [upd_ne (by omega), upd_ne (by omega)]; exact e t ht
theorem gr_reset (h : GRel G C) : GRel (fX0_reset G) (upd (upd (fillG (upd (upd (upd (upd (upd (upd (upd (upd C 2 254) 3 1) 4 254) 5 254) 6 254) 7 0) 8 7) 9 0) 255 16) 12 16777215) 18 (-1)) := by
  obtain ⟨⟨h0, h1, h2, h3, h4⟩, ⟨h9, h10, h11, h12⟩, ⟨h13, h14, h15, h16⟩, ⟨h17, h18⟩, e, f⟩ := h
  refine ⟨⟨rfl, rfl, rfl, rfl, rfl⟩, ⟨rfl, rfl, rfl, h12⟩, ⟨rfl, h14, h15, h16⟩, ⟨h17, h18⟩, fun s hs => ?_, Or.inl ⟨rfl, rfl⟩⟩
  unfold fX0_reset
  rw [upd_ne (by omega), upd_ne (by omega), upd_ne (by omega)]
  unfold fillG
  rw [if_pos (by omega), if_pos (by omega)]
end GR
def Lq (g : Nat) (M M' : Nat → Nat → Int32) : Prop := (∀ j, j ≠ g → colM M' j = colM M j) ∧ ∀ k, (k < 2 ∨ 22 ≤ k) → M' k = M k
theorem Lq.rf {g : Nat} {M : Nat → Nat → Int32} : Lq g M M := ⟨fun _ _ => rfl, fun _ _ => rfl⟩
theorem Lq.tr {g : Nat} {M M1 M2 : Nat → Nat → Int32} (h1 : Lq g M M1) (h2 : Lq g M1 M2) : Lq g M M2 := ⟨fun j hj => (h2.1 j hj).trans (h1.1 j hj), fun k a => (h2.2 k a).trans (h1.2 k a)⟩
theorem Lq.lc {g : Nat} {M M1 : Nat → Nat → Int32} (h : Lq g M M1) : Lc g M M1 := ⟨h.1, fun k a _ => h.2 k a⟩
theorem lq_up {g k : Nat} {M : Nat → Nat → Int32} {x : Int32} (h : 2 ≤ k ∧ k < 22 ∧ k ≠ 10) : Lq g M (up2 M k g x) := ⟨(lc_up h).1, fun k' h1 => up2_ne (by omega)⟩
theorem lq_sc {g i : Nat} {M : Nat → Nat → Int32} {x : Int32} (h : 16 * g ≤ i ∧ i < 16 * g + 16) : Lq g M (up2 M 10 i x) := ⟨(lc_sc h).1, fun k' h1 => up2_ne (by omega)⟩
theorem lq_fill {g : Nat} {M : Nat → Nat → Int32} : Lq g M (fillM M g 16) := ⟨lc_fill.1, fun k h1 => funext fun t => by
  unfold fillM
  rw [if_neg (by omega)]⟩
/-- one gear was told something, in the class and in the reference -/
def Sm (g : Nat) (M M' : Nat → Nat → Int32) (G' : Nat → Int32) : Prop := Lq g M M' ∧ GRel G' (colM M' g)
section SI
variable {n g : Nat} {M M1 M' : Nat → Nat → Int32} {G G' : Nat → Int32} {a b v tw x r : Int32}
theorem sm_rf (hG : GRel G (colM M g)) : Sm g M M G := ⟨Lq.rf, hG⟩
theorem Sm.af (h : Sm g M1 M' G') (h0 : Lq g M M1) : Sm g M M' G' := ⟨h0.tr h.1, h.2⟩
theorem sm_up (k : Nat) (h : 2 ≤ k ∧ k < 22 ∧ k ≠ 10) (hr : GRel G' (upd (colM M g) k x)) : Sm g M (up2 M k g x) G' := ⟨lq_up h, by rw [co_up h]; exact hr⟩
theorem si_set (hG : GRel G (colM M g)) : Sm g M (fX3_set M g v) (fX1_setLevel G v) := by
  refine ⟨(lq_up (by decide)).tr (lq_up (by decide)), ?_⟩
  unfold fX3_set
  rw [co_up (by decide), co_up (by decide)]
  exact gr_set hG
theorem cl_eq (hG : GRel G (colM M g)) : fX1_clamped G v = fX3_within M g v := by
  unfold fX1_clamped fX3_within
  rw [show G 1 = M 3 g from hG.1.2.1, show G 2 = M 4 g from hG.1.2.2.1]
theorem off_eq (hG : GRel G (colM M g)) : fX1_offOrClamped G v = if v = 0 then 0 else fX3_within M g v := by
  unfold fX1_offOrClamped
  rw [cl_eq hG]
theorem in_ne {B : Int} (h : inB x 0 B) : x ≠ -1 := fun z => by
  rw [z] at h
  exact absurd h.1 (by decide)
theorem wi_ne (hI : MInv n M) (hg : g < n) : fX3_within M g v ≠ -1 := fun z => by
  have h1 : 1 ≤ (M 3 g).toInt := (hI.2.2.1 g hg).1.1.1
  have h2 := (mk_within (v := v) hI hg).1
  rw [z] at h2
  have : (-1 : Int32).toInt = -1 := rfl
  omega
theorem an15 {k : Nat} (hk : k < 256) : nI k &&& 15 = nI (k % 16) := pk_andN (by omega) 4 (by decide)
theorem ft_eq (hI : MInv n M) (hg : g < n) : tabT (M 7 g &&& 15).toNatClampNeg = M 22 (M 7 g).toNatClampNeg := by
  obtain ⟨k, k1, k2, k3⟩ := inB_nI (hI.2.2.1 g hg).2.1.2.2.1
  have k3 : M 7 g = nI k := k3
  rw [k3, an15 (by omega), nI_clamp (by omega), nI_clamp (by omega), (hI.2.2.2.2.1 k (by omega)).1, Nat.mod_eq_of_lt (by omega)]
theorem rs_eq (hI : MInv n M) (hg : g < n) (hG : GRel G (colM M g)) : fX1_rateStep G = M 23 (M 8 g).toNatClampNeg := by
  obtain ⟨k, k1, k2, k3⟩ := inB_nI (x := M 8 g) (b := 15) ⟨by have := (hI.2.2.1 g hg).2.1.2.2.2.1.1; have e : 1 ≤ (M 8 g).toInt := this; omega, (hI.2.2.1 g hg).2.1.2.2.2.1.2⟩
  unfold fX1_rateStep
  rw [show G 4 = M 8 g from hG.1.2.2.2.2, k3, an15 (by omega), nI_clamp (by omega), nI_clamp (by omega), (hI.2.2.2.2.1 k (by omega)).2, Nat.mod_eq_of_lt (by omega)]
theorem si_goTo (hI : MInv n M) (hg : g < n) (hG : GRel G (colM M g)) : Sm g M (fX3_goTo M g v) (fX1_goTo G v) := by
  unfold fX3_goTo fX3_goTo_j1 fX1_goTo
  rw [off_eq hG, show G 3 = M 7 g from hG.1.2.2.2.1, show G 0 = M 2 g from hG.1.1, show G 1 = M 3 g from hG.1.2.1, ft_eq hI hg]
  have hx : (if v = 0 then 0 else fX3_within M g v) ≠ -1 := by
    by_cases c : v = 0
    · rw [if_pos c]; decide
    · rw [if_neg c]; exact wi_ne hI hg
  generalize (if v = 0 then 0 else fX3_within M g v) = x at hx ⊢
  have hf : Sm g M (up2 (up2 (up2 (up2 M 18 g x) 19 g (M 2 g)) 20 g (M 22 (M 7 g).toNatClampNeg)) 21 g 0) (upd (upd (upd (upd G 5 (M 2 g)) 6 x) 7 0) 8 (M 22 (M 7 g).toNatClampNeg)) := by
    refine ⟨(lq_up (by decide)).tr ((lq_up (by decide)).tr ((lq_up (by decide)).tr (lq_up (by decide)))), ?_⟩
    rw [co_up (by decide), co_up (by decide), co_up (by decide), co_up (by decide)]
    exact gr_fade hG hx
  exact it2 (P := Sm g M) (fun _ => si_set hG) (fun _ => it2 (P := Sm g M) (fun _ => si_set hG) (fun _ => it2 (P := Sm g M) (fun _ => it2 (P := Sm g M) (fun _ => si_set hG) (fun _ => hf)) (fun _ => hf)))
theorem si_step (hG : GRel G (colM M g)) : Sm g M (fX3_step M g v) (fX1_moveBy G v) := by
  unfold fX3_step fX1_moveBy
  rw [cl_eq hG, show G 0 = M 2 g from hG.1.1]
  exact it2 (P := Sm g M) (fun _ => sm_rf hG) (fun _ => si_set hG)
theorem si_down (hI : MInv n M) (hg : g < n) (hG : GRel G (colM M g)) : Sm g M (fX3_set M g (if M 3 g < M 2 g then M 2 g - 1 else 0)) (fX1_stepDownOrOff G) := by
  unfold fX1_stepDownOrOff fX1_stepDownOrOff_j1
  rw [cl_eq hG, show G 0 = M 2 g from hG.1.1, show G 1 = M 3 g from hG.1.2.1]
  by_cases c : M 3 g < M 2 g
  · rw [if_pos c, if_pos c]
    have c' := ti_lt.mp c
    have h1 : 1 ≤ (M 3 g).toInt := (hI.2.2.1 g hg).1.1.1
    have h2 : (M 2 g).toInt ≤ (M 4 g).toInt := (hI.2.2.1 g hg).1.2.2.2.2.1
    have h4 : (M 4 g).toInt ≤ 254 := (hI.2.2.1 g hg).1.2.1.2
    have e1 : (1 : Int32).toInt = 1 := rfl
    have e : (M 2 g - 1).toInt = (M 2 g).toInt - 1 := by rw [ti_sub (by omega) (by omega), e1]
    have ew : fX3_within M g (M 2 g - 1) = M 2 g - 1 := by
      unfold fX3_within
      rw [if_pos (ti_le.mpr (by omega)), if_pos (ti_le.mpr (by omega))]
    rw [ew]
    exact si_set hG
  · rw [if_neg c, if_neg c]
    exact si_set hG
theorem si_upst (hG : GRel G (colM M g)) : Sm g M (fX3_set M g (if M 2 g = 0 then M 3 g else fX3_within M g (M 2 g + 1))) (fX1_onOrStepUp G) := by
  unfold fX1_onOrStepUp fX1_onOrStepUp_j1
  rw [cl_eq hG, show G 0 = M 2 g from hG.1.1, show G 1 = M 3 g from hG.1.2.1]
  exact si_set hG
theorem si_level {k : Nat} (hk : k < 9) (hI : MInv n M) (hg : g < n) (hG : GRel G (colM M g)) : Sm g M (fX3_level M g (nI k)) (fX0_light G (nI k)) := by
  unfold fX3_level fX3_level_j9 fX3_level_j11 fX0_light
  rw [rs_eq hI hg hG, show G 2 = M 4 g from hG.1.2.2.1, show G 1 = M 3 g from hG.1.2.1]
  refine it2 (P := Sm g M) (fun _ => si_set hG) (fun c0 => ?_)
  refine it2 (P := Sm g M) (fun _ => si_step hG) (fun c1 => ?_)
  refine it2 (P := Sm g M) (fun _ => si_step hG) (fun c2 => ?_)
  refine it2 (P := Sm g M) (fun _ => si_step hG) (fun c3 => ?_)
  refine it2 (P := Sm g M) (fun _ => si_step hG) (fun c4 => ?_)
  refine it2 (P := Sm g M) (fun _ => si_set hG) (fun c5 => ?_)
  refine it2 (P := Sm g M) (fun _ => si_set hG) (fun c6 => ?_)
  refine it2 (P := Sm g M) (fun _ => si_down hI hg hG) (fun c7 => ?_)
  refine sy (P := Sm g M _) ?_ (si_upst hG)
  have k0 : k ≠ 0 := fun z => c0 (by rw [z]; rfl)
  have k1 : k ≠ 1 := fun z => c1 (by rw [z]; rfl)
  have k2 : k ≠ 2 := fun z => c2 (by rw [z]; rfl)
  have k3 : k ≠ 3 := fun z => c3 (by rw [z]; rfl)
  have k4 : k ≠ 4 := fun z => c4 (by rw [z]; rfl)
  have k5 : k ≠ 5 := fun z => c5 (by rw [z]; rfl)
  have k6 : k ≠ 6 := fun z => c6 (by rw [z]; rfl)
  have k7 : k ≠ 7 := fun z => c7 (by rw [z]; rfl)
  rw [show k = 8 by omega]
  rfl
theorem si_begin (hG : GRel G (colM M g)) : Sm g M (fX3_begin M g) (fX0_reset G) := by
  refine ⟨(lq_up (by decide)).tr ((lq_up (by decide)).tr ((lq_up (by decide)).tr ((lq_up (by decide)).tr ((lq_up (by decide)).tr ((lq_up (by decide)).tr ((lq_up (by decide)).tr ((lq_up (by decide)).tr (lq_fill.tr ((lq_up (by decide)).tr (lq_up (by decide))))))))))), ?_⟩
  unfold fX3_begin
  rw [co_up (by decide), co_up (by decide), co_fill, co_up (by decide), co_up (by decide), co_up (by decide), co_up (by decide), co_up (by decide), co_up (by decide), co_up (by decide), co_up (by decide)]
  exact gr_reset hG
theorem mm_eq {lo hi v : Int32} (h : lo.toInt ≤ hi.toInt) : fmax lo (fmin v hi) = if lo ≤ v then (if v ≤ hi then v else hi) else lo := by
  unfold fmin
  by_cases c : hi < v
  · have c' := ti_lt.mp c
    rw [if_pos c, if_pos (ti_le.mpr (by omega)), if_neg (fun z => by have := ti_le.mp z; omega)]
    unfold fmax
    by_cases d : lo < hi
    · rw [if_pos d]
    · rw [if_neg d]
      exact ti_eq.mpr (by have : ¬ lo.toInt < hi.toInt := fun z => d (ti_lt.mpr z); omega)
  · have c' : ¬ hi.toInt < v.toInt := fun z => c (ti_lt.mpr z)
    rw [if_neg c, if_pos (show v ≤ hi from ti_le.mpr (by omega))]
    unfold fmax
    by_cases d : lo < v
    · have d' := ti_lt.mp d
      rw [if_pos d, if_pos (ti_le.mpr (by omega))]
    · have d' : ¬ lo.toInt < v.toInt := fun z => d (ti_lt.mpr z)
      rw [if_neg d]
      by_cases e : lo ≤ v
      · have e' := ti_le.mp e
        rw [if_pos e]
        exact ti_eq.mpr (by omega)
      · rw [if_neg e]
theorem si_bring (hG : GRel G (colM M g)) (h0 : M 2 g ≤ 0 → M 2 g = 0 ∧ M 18 g = -1) : Sm g M (fX3_bring M g) (fX1_setLevel G (fX1_offOrClamped G (G 0))) := by
  unfold fX3_bring
  rw [off_eq hG, show G 0 = M 2 g from hG.1.1]
  by_cases c : M 2 g ≤ 0
  · obtain ⟨e1, e2⟩ := h0 c
    rw [if_pos c, if_pos e1]
    refine ⟨Lq.rf, ?_⟩
    have h := gr_set (v := 0) hG
    rw [upd_id (G := upd (colM M g) 2 0) (k := 18) (x := -1) e2, upd_id (G := colM M g) (k := 2) (x := 0) e1] at h
    exact h
  · rw [if_neg c, if_neg (fun z => c (by rw [z]; decide))]
    exact si_set hG
theorem lv_0 (hI : MInv n M) (hg : g < n) (h : M 2 g ≤ 0) : M 2 g = 0 ∧ M 18 g = -1 := by
  have h1 : 0 ≤ (M 2 g).toInt := (hI.2.2.1 g hg).1.2.2.2.1.1
  have h2 : (M 2 g).toInt ≤ 0 := ti_le.mp h
  have h3 : (0 : Int32).toInt = 0 := rfl
  exact ⟨ti_eq.mpr (by omega), cv_not (hI.2.2.1 g hg) h2⟩
theorem si_most (hI : MInv n M) (hg : g < n) (hG : GRel G (colM M g)) : Sm g M (fX3_bring (up2 M 4 g (if (M 3 g) ≤ v then (if v ≤ 254 then v else 254) else (M 3 g))) g) (fX1_setMost G v) := by
  unfold fX1_setMost
  have h3 : (M 3 g).toInt ≤ 254 := (hI.2.2.1 g hg).1.1.2
  rw [show G 1 = M 3 g from hG.1.2.1, mm_eq (hi := 254) (by have : (254 : Int32).toInt = 254 := rfl; omega)]
  generalize (if (M 3 g) ≤ v then (if v ≤ 254 then v else 254) else (M 3 g)) = x
  refine Sm.af (M1 := up2 M 4 g x) ?_ (lq_up (by decide))
  exact si_bring (G := upd G 2 x) (by rw [co_up (by decide)]; exact gr_2 hG) (fun c => (show M 2 g = 0 ∧ M 18 g = -1 from lv_0 hI hg c))
theorem si_least (hI : MInv n M) (hg : g < n) (hG : GRel G (colM M g)) : Sm g M (fX3_bring (up2 M 3 g (if 1 ≤ v then (if v ≤ (M 4 g) then v else (M 4 g)) else 1)) g) (fX1_setLeast G v) := by
  unfold fX1_setLeast
  have h3 : 1 ≤ (M 4 g).toInt := (hI.2.2.1 g hg).1.2.1.1
  rw [show G 2 = M 4 g from hG.1.2.2.1, mm_eq (lo := 1) (by have : (1 : Int32).toInt = 1 := rfl; omega)]
  generalize (if 1 ≤ v then (if v ≤ (M 4 g) then v else (M 4 g)) else 1) = x
  refine Sm.af (M1 := up2 M 3 g x) ?_ (lq_up (by decide))
  exact si_bring (G := upd G 1 x) (by rw [co_up (by decide)]; exact gr_1 hG) (fun c => (show M 2 g = 0 ∧ M 18 g = -1 from lv_0 hI hg c))
theorem odd_eq {k : Nat} (hk : k < 256) : nI k &&& 1 = nI k - nI k / 2 * 2 := by
  rw [show nI k &&& 1 = nI (k % 2) from pk_andN (by omega) 1 (by decide), show (2 : Int32) = nI 2 from rfl, pk_rem (by omega) (by decide) (by decide)]
theorem si_short (hv : inB v 0 255) (hG : GRel G (colM M g)) : Sm g M (fX3_setShort M g v) (fX0_takeShort G v) := by
  obtain ⟨k, k1, k2, rfl⟩ := inB_nI hv
  unfold fX3_setShort fX0_takeShort
  rw [odd_eq (by omega)]
  exact it2 (P := Sm g M) (fun _ => sm_up 11 (by decide) (gr_12 hG)) (fun _ => it2 (P := Sm g M) (fun _ => it2 (P := Sm g M) (fun _ => sm_rf hG) (fun _ => sm_up 11 (by decide) (gr_12 hG))) (fun _ => sm_rf hG))
end SI
