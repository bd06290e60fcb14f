/-! PURE: numbers -/
theorem ti_lt {a b : Int32} : a < b ↔ a.toInt < b.toInt := Int32.lt_iff_toInt_lt
theorem ti_le {a b : Int32} : a ≤ b ↔ a.toInt ≤ b.toInt := Int32.le_iff_toInt_le
theorem ti_eq {a b : Int32} : a = b ↔ a.toInt = b.toInt := Int32.toInt_inj.symm
theorem ti_add {a b : Int32} (h1 : -2147483648 ≤ a.toInt + b.toInt) (h2 : a.toInt + b.toInt ≤ 2147483647) : (a + b).toInt = a.toInt + b.toInt := by
  rw [Int32.toInt_add, Int.bmod_eq_of_le] <;> omega
theorem ti_sub {a b : Int32} (h1 : -2147483648 ≤ a.toInt - b.toInt) (h2 : a.toInt - b.toInt ≤ 2147483647) : (a - b).toInt = a.toInt - b.toInt := by
  rw [Int32.toInt_sub, Int.bmod_eq_of_le] <;> omega
theorem inB_nI {x : Int32} {b : Int} (h : inB x 0 b) : ∃ k : Nat, (k : Int) ≤ b ∧ k < 2 ^ 31 ∧ x = nI k := by
  obtain ⟨k, hk, rfl⟩ := nI_of (x := x) (by rw [ti_lt]; have := h.1; show ¬ x.toInt < 0; omega)
  exact ⟨k, by have := h.2; rw [nI_toInt hk] at this; exact this, hk, rfl⟩
theorem nI_inB {k : Nat} {b : Int} (h : (k : Int) ≤ b) (hk : k < 2 ^ 31) : inB (nI k) 0 b := ⟨by rw [nI_toInt hk]; omega, by rw [nI_toInt hk]; exact h⟩
theorem within_in {lo hi v : Int32} (h : lo.toInt ≤ hi.toInt) : lo.toInt ≤ (if lo ≤ v then (if v ≤ hi then v else hi) else lo).toInt ∧ (if lo ≤ v then (if v ≤ hi then v else hi) else lo).toInt ≤ hi.toInt := by
  by_cases c : lo ≤ v
  · rw [if_pos c]
    by_cases d : v ≤ hi
    · rw [if_pos d]
      exact ⟨ti_le.mp c, ti_le.mp d⟩
    · rw [if_neg d]
      exact ⟨h, Int.le_refl _⟩
  · rw [if_neg c]
    exact ⟨Int.le_refl _, h⟩
/-! PURE: which columns an update touches -/
def Lc (g : Nat) (M M' : Nat → Nat → Int32) : Prop := (∀ j, j ≠ g → colM M' j = colM M j) ∧ ∀ k, (k < 2 ∨ 22 ≤ k) → k ≠ 29 → M' k = M k
theorem Lc.rf {g : Nat} {M : Nat → Nat → Int32} : Lc g M M := ⟨fun _ _ => rfl, fun _ _ _ => rfl⟩
theorem Lc.tr {g : Nat} {M M1 M2 : Nat → Nat → Int32} (h1 : Lc g M M1) (h2 : Lc g M1 M2) : Lc g M M2 := ⟨fun j hj => (h2.1 j hj).trans (h1.1 j hj), fun k a b => (h2.2 k a b).trans (h1.2 k a b)⟩
theorem lc_up {g k : Nat} {M : Nat → Nat → Int32} {x : Int32} (h : 2 ≤ k ∧ k < 22 ∧ k ≠ 10) : Lc g M (up2 M k g x) := by
  refine ⟨fun j hj => funext fun i => ?_, fun k' h1 h2 => up2_ne (by omega)⟩
  unfold colM
  by_cases c : 32 ≤ i ∧ i < 48
  · rw [if_pos c, if_pos c, up2_ne (by omega)]
  · rw [if_neg c, if_neg c]
    by_cases d : 2 ≤ i ∧ i < 22 ∧ i ≠ 10
    · rw [if_pos d, if_pos d]
      by_cases e : i = k
      · subst e
        rw [up2_at, upd_ne hj]
      · rw [up2_ne e]
    · rw [if_neg d, if_neg d]
theorem co_up {g k : Nat} {M : Nat → Nat → Int32} {x : Int32} (h : 2 ≤ k ∧ k < 22 ∧ k ≠ 10) : colM (up2 M k g x) g = upd (colM M g) k x := by
  funext i
  by_cases e : i = k
  · subst e
    rw [upd_eq]
    unfold colM
    rw [if_neg (by omega), if_pos (by omega), up2_at, upd_eq]
  · rw [upd_ne e]
    unfold colM
    by_cases c : 32 ≤ i ∧ i < 48
    · rw [if_pos c, if_pos c, up2_ne (by omega)]
    · rw [if_neg c, if_neg c, up2_ne e]
theorem lc_sc {g i : Nat} {M : Nat → Nat → Int32} {x : Int32} (h : 16 * g ≤ i ∧ i < 16 * g + 16) : Lc g M (up2 M 10 i x) := by
  refine ⟨fun j hj => funext fun t => ?_, fun k' h1 h2 => up2_ne (by omega)⟩
  unfold colM
  by_cases c : 32 ≤ t ∧ t < 48
  · rw [if_pos c, if_pos c, up2_at, upd_ne (by omega)]
  · rw [if_neg c, if_neg c]
    by_cases d : 2 ≤ t ∧ t < 22 ∧ t ≠ 10
    · rw [if_pos d, if_pos d, up2_ne (by omega)]
    · rw [if_neg d, if_neg d]
theorem co_sc {g s : Nat} {M : Nat → Nat → Int32} {x : Int32} (h : s < 16) : colM (up2 M 10 (16 * g + s) x) g = upd (colM M g) (32 + s) x := by
  funext i
  by_cases e : i = 32 + s
  · subst e
    rw [upd_eq]
    unfold colM
    rw [if_pos (by omega), show 16 * g + (32 + s - 32) = 16 * g + s by omega, up2_at, upd_eq]
  · rw [upd_ne e]
    unfold colM
    by_cases c : 32 ≤ i ∧ i < 48
    · rw [if_pos c, if_pos c, up2_at, upd_ne (by omega)]
    · rw [if_neg c, if_neg c]
      by_cases d : 2 ≤ i ∧ i < 22 ∧ i ≠ 10
      · rw [if_pos d, if_pos d, up2_ne (by omega)]
      · rw [if_neg d, if_neg d]
theorem colM_sc {M : Nat → Nat → Int32} {k i g : Nat} {x : Int32} (h : k < 2 ∨ 22 ≤ k) : colM (up2 M k i x) g = colM M g := by
  funext j
  unfold colM
  by_cases c : 32 ≤ j ∧ j < 48
  · rw [if_pos c, if_pos c, up2_ne (by omega)]
  · rw [if_neg c, if_neg c]
    by_cases d : 2 ≤ j ∧ j < 22 ∧ j ≠ 10
    · rw [if_pos d, if_pos d, up2_ne (by omega)]
    · rw [if_neg d, if_neg d]
theorem lc_hd {g : Nat} {M : Nat → Nat → Int32} {x : Int32} : Lc g M (up2 M 29 0 x) := ⟨fun j _ => colM_sc (Or.inr (by decide)), fun k _ h => up2_ne h⟩
theorem lc_fill {g : Nat} {M : Nat → Nat → Int32} : Lc g M (fillM M g 16) := by
  refine ⟨fun j hj => funext fun t => ?_, fun k h1 h2 => funext fun t => ?_⟩
  · unfold colM fillM
    by_cases c : 32 ≤ t ∧ t < 48
    · rw [if_pos c, if_pos c]
      show (if 10 = 10 ∧ 16 * g ≤ 16 * j + (t - 32) ∧ 16 * j + (t - 32) < 16 * g + 16 then 255 else M 10 (16 * j + (t - 32))) = _
      rw [if_neg (by omega)]
    · rw [if_neg c, if_neg c]
      by_cases d : 2 ≤ t ∧ t < 22 ∧ t ≠ 10
      · rw [if_pos d, if_pos d]
        show (if t = 10 ∧ 16 * g ≤ j ∧ j < 16 * g + 16 then 255 else M t j) = _
        rw [if_neg (by omega)]
      · rw [if_neg d, if_neg d]
  · unfold fillM
    show (if k = 10 ∧ 16 * g ≤ t ∧ t < 16 * g + 16 then 255 else M k t) = _
    rw [if_neg (by omega)]
theorem co_fill {g : Nat} {M : Nat → Nat → Int32} : colM (fillM M g 16) g = fillG (colM M g) 255 16 := by
  funext t
  unfold fillG
  by_cases c : 32 ≤ t ∧ t < 48
  · rw [if_pos (by omega)]
    unfold colM fillM
    rw [if_pos c]
    show (if 10 = 10 ∧ 16 * g ≤ 16 * g + (t - 32) ∧ 16 * g + (t - 32) < 16 * g + 16 then 255 else M 10 (16 * g + (t - 32))) = _
    rw [if_pos (by omega)]
  · rw [if_neg (by omega)]
    unfold colM fillM
    rw [if_neg c, if_neg c]
    by_cases d : 2 ≤ t ∧ t < 22 ∧ t ≠ 10
    · rw [if_pos d, if_pos d]
      show (if t = 10 ∧ 16 * g ≤ g ∧ g < 16 * g + 16 then 255 else M t g) = _
      rw [if_neg (by omega)]
    · rw [if_neg d, if_neg d]
theorem mi_step {n g : Nat} {M M' : Nat → Nat → Int32} (h : MInv n M) (hg : g < n) (hL : Lc g M M') (hc : CV (colM M' g)) : MInv n M' := by
  obtain ⟨h1, h2, h3, h4, h5, h6⟩ := h
  refine ⟨by rw [hL.2 1 (by decide) (by decide)]; exact h1, h2, fun j hj => ?_, fun j hj h16 => ?_, fun k hk => ?_, by rw [hL.2 26 (by decide) (by decide)]; exact h6⟩
  · by_cases c : j = g
    · subst c; exact hc
    · rw [hL.1 j c]; exact h3 j hj
  · have e := hL.1 j (by omega)
    have e13 : M' 13 j = M 13 j := congrFun e 13
    have e15 : M' 15 j = M 15 j := congrFun e 15
    have e16 : M' 16 j = M 16 j := congrFun e 16
    have e17 : M' 17 j = M 17 j := congrFun e 17
    rw [e13, e15, e16, e17]
    exact h4 j hj h16
  · rw [hL.2 22 (by decide) (by decide), hL.2 23 (by decide) (by decide)]
    exact h5 k hk
/-! PURE: one gear's numbers stay within -/
section CVS
variable {C : Nat → Int32} {x v : Int32}
theorem cv_set (h : CV C) (hv : v.toInt = 0 ∨ ((C 3).toInt ≤ v.toInt ∧ v.toInt ≤ (C 4).toInt)) : CV (upd (upd C 2 v) 18 (-1)) := by
  obtain ⟨⟨a1, a2, a3, a4, a5, a6⟩, b, c, d, e, f, g⟩ := h
  have q1 := a1.1; have q2 := a2.2
  refine ⟨⟨a1, a2, a3, ⟨?_, ?_⟩, ?_, ?_⟩, b, fun s hs => by rw [upd_ne (by omega), upd_ne (by omega)]; exact c s hs, d, e, f, Or.inl rfl⟩
  · show 0 ≤ v.toInt; rcases hv with h | h <;> omega
  · show v.toInt ≤ 254; rcases hv with h | h <;> omega
  · show v.toInt ≤ (C 4).toInt; rcases hv with h | h <;> omega
  · show v.toInt = 0 ∨ (C 3).toInt ≤ v.toInt; rcases hv with h | h <;> omega
theorem cv_end (h : CV C) : CV (upd C 18 (-1)) := by
  obtain ⟨a, b, c, d, e, f, g⟩ := h
  exact ⟨a, b, fun s hs => by rw [upd_ne (by omega)]; exact c s hs, d, e, f, Or.inl rfl⟩
theorem cv_fade (h : CV C) (h2 : 0 < (C 2).toInt) (hv : v.toInt = 0 ∨ ((C 3).toInt ≤ v.toInt ∧ v.toInt ≤ (C 4).toInt)) (hx : inB x 1 905) : CV (upd (upd (upd (upd C 18 v) 19 (C 2)) 20 x) 21 0) := by
  obtain ⟨⟨a1, a2, a3, a4, a5, a6⟩, b, c, d, e, f, g⟩ := h
  have q1 := a1.1; have q2 := a2.2; have q4 := a4.2; have q5 := hx.1
  refine ⟨⟨a1, a2, a3, a4, a5, a6⟩, b, fun s hs => by rw [upd_ne (by omega), upd_ne (by omega), upd_ne (by omega), upd_ne (by omega)]; exact c s hs, d, e, f, Or.inr ⟨⟨?_, ?_⟩, ?_, h2, ⟨?_, q4⟩, a5, hx, ?_, ?_, ?_⟩⟩
  · show 0 ≤ v.toInt; rcases hv with h | h <;> omega
  · show v.toInt ≤ 254; rcases hv with h | h <;> omega
  · show v.toInt ≤ (C 4).toInt; rcases hv with h | h <;> omega
  · show 1 ≤ (C 2).toInt; omega
  · show 0 ≤ (0 : Int32).toInt; decide
  · show (0 : Int32).toInt < x.toInt
    have : (0 : Int32).toInt = 0 := rfl
    omega
  · show v.toInt = 0 ∨ (C 3).toInt ≤ v.toInt
    rcases hv with h | h <;> omega
theorem cv_5 (h : CV C) (hx : inB x 0 255) : CV (upd C 5 x) := by
  obtain ⟨a, ⟨b1, b2, b3, b4, b5, b6⟩, c, d, e, f, g⟩ := h
  exact ⟨a, ⟨hx, b2, b3, b4, b5, b6⟩, fun s hs => by rw [upd_ne (by omega)]; exact c s hs, d, e, f, g⟩
theorem cv_6 (h : CV C) (hx : inB x 0 255) : CV (upd C 6 x) := by
  obtain ⟨a, ⟨b1, b2, b3, b4, b5, b6⟩, c, d, e, f, g⟩ := h
  exact ⟨a, ⟨b1, hx, b3, b4, b5, b6⟩, fun s hs => by rw [upd_ne (by omega)]; exact c s hs, d, e, f, g⟩
theorem cv_7 (h : CV C) (hx : inB x 0 15) : CV (upd C 7 x) := by
  obtain ⟨a, ⟨b1, b2, b3, b4, b5, b6⟩, c, d, e, f, g⟩ := h
  exact ⟨a, ⟨b1, b2, hx, b4, b5, b6⟩, fun s hs => by rw [upd_ne (by omega)]; exact c s hs, d, e, f, g⟩
theorem cv_8 (h : CV C) (hx : inB x 1 15) : CV (upd C 8 x) := by
  obtain ⟨a, ⟨b1, b2, b3, b4, b5, b6⟩, c, d, e, f, g⟩ := h
  exact ⟨a, ⟨b1, b2, b3, hx, b5, b6⟩, fun s hs => by rw [upd_ne (by omega)]; exact c s hs, d, e, f, g⟩
theorem cv_9 (h : CV C) (hx : inB x 0 65535) : CV (upd C 9 x) := by
  obtain ⟨a, ⟨b1, b2, b3, b4, b5, b6⟩, c, d, e, f, g⟩ := h
  exact ⟨a, ⟨b1, b2, b3, b4, hx, b6⟩, fun s hs => by rw [upd_ne (by omega)]; exact c s hs, d, e, f, g⟩
theorem cv_13 (h : CV C) (hx : inB x 0 255) : CV (upd C 13 x) := by
  obtain ⟨a, ⟨b1, b2, b3, b4, b5, b6⟩, c, d, e, f, g⟩ := h
  exact ⟨a, ⟨b1, b2, b3, b4, b5, hx⟩, fun s hs => by rw [upd_ne (by omega)]; exact c s hs, d, e, f, g⟩
theorem cv_sc {s : Nat} (h : CV C) (hs : s < 16) (hx : inB x 0 255) : CV (upd C (32 + s) x) := by
  obtain ⟨a, b, c, d, e, f, g⟩ := h
  have k : ∀ j, j < 32 → upd C (32 + s) x j = C j := fun j hj => upd_ne (by omega)
  unfold CV
  rw [k 3 (by decide), k 4 (by decide), k 2 (by decide), k 5 (by decide), k 6 (by decide), k 7 (by decide), k 8 (by decide), k 9 (by decide), k 13 (by decide), k 11 (by decide), k 12 (by decide), k 14 (by decide), k 15 (by decide), k 16 (by decide), k 17 (by decide), k 18 (by decide), k 19 (by decide), k 20 (by decide), k 21 (by decide)]
  refine ⟨a, b, fun t ht => ?_, d, e, f, g⟩
  by_cases z : t = s
  · subst z; rw [upd_eq]; exact hx
  · rw [upd_ne (by omega)]; exact c t ht
theorem cv_11 (h : CV C) (hx : x = 255 ∨ inB x 0 63) : CV (upd C 11 x) := by
  obtain ⟨a, b, c, d, e, f, g⟩ := h
  exact ⟨a, b, fun s hs => by rw [upd_ne (by omega)]; exact c s hs, hx, e, f, g⟩
theorem cv_12 (h : CV C) (hx : inB x 0 16777215) : CV (upd C 12 x) := by
  obtain ⟨a, b, c, d, ⟨e1, e2, e3⟩, f, g⟩ := h
  exact ⟨a, b, fun s hs => by rw [upd_ne (by omega)]; exact c s hs, d, ⟨hx, e2, e3⟩, f, g⟩
theorem cv_14 (h : CV C) (hx : inB x 0 16777215) : CV (upd C 14 x) := by
  obtain ⟨a, b, c, d, ⟨e1, e2, e3⟩, f, g⟩ := h
  exact ⟨a, b, fun s hs => by rw [upd_ne (by omega)]; exact c s hs, d, ⟨e1, hx, e3⟩, f, g⟩
theorem cv_15 (h : CV C) (hx : inB x 0 16777215) : CV (upd C 15 x) := by
  obtain ⟨a, b, c, d, ⟨e1, e2, e3⟩, f, g⟩ := h
  exact ⟨a, b, fun s hs => by rw [upd_ne (by omega)]; exact c s hs, d, ⟨e1, e2, hx⟩, f, g⟩
theorem cv_16 (h : CV C) (hx : x = 0 ∨ x = 1) : CV (upd C 16 x) := by
  obtain ⟨a, b, c, d, e, ⟨f1, f2⟩, g⟩ := h
  exact ⟨a, b, fun s hs => by rw [upd_ne (by omega)]; exact c s hs, d, e, ⟨hx, f2⟩, g⟩
theorem cv_17 (h : CV C) (hx : x = 0 ∨ x = 1) : CV (upd C 17 x) := by
  obtain ⟨a, b, c, d, e, ⟨f1, f2⟩, g⟩ := h
  exact ⟨a, b, fun s hs => by rw [upd_ne (by omega)]; exact c s hs, d, e, ⟨f1, hx⟩, g⟩
theorem cv_not (h : CV C) (h0 : (C 2).toInt ≤ 0) : C 18 = -1 := by
  rcases h.2.2.2.2.2.2 with g | g
  · exact g
  · have := g.2.2.1; omega
theorem cv_most0 (h : CV C) (h0 : (C 2).toInt ≤ 0) (hx : (C 3).toInt ≤ x.toInt) (hx2 : x.toInt ≤ 254) : CV (upd C 4 x) := by
  have h18 := cv_not h h0
  obtain ⟨⟨a1, a2, a3, a4, a5, a6⟩, b, c, d, e, f, g⟩ := h
  have q1 := a1.1; have q4 := a4.1
  exact ⟨⟨a1, ⟨by show 1 ≤ x.toInt; omega, hx2⟩, hx, a4, by show (C 2).toInt ≤ x.toInt; omega, a6⟩, b, fun s hs => by rw [upd_ne (by omega)]; exact c s hs, d, e, f, Or.inl h18⟩
theorem cv_most1 (h : CV C) (hx : (C 3).toInt ≤ x.toInt) (hx2 : x.toInt ≤ 254) (hv : (C 3).toInt ≤ v.toInt) (hv2 : v.toInt ≤ x.toInt) : CV (upd (upd (upd C 4 x) 2 v) 18 (-1)) := by
  obtain ⟨⟨a1, a2, a3, a4, a5, a6⟩, b, c, d, e, f, g⟩ := h
  have q1 := a1.1
  exact ⟨⟨a1, ⟨by show 1 ≤ x.toInt; omega, hx2⟩, hx, ⟨by show 0 ≤ v.toInt; omega, by show v.toInt ≤ 254; omega⟩, hv2, Or.inr hv⟩, b, fun s hs => by rw [upd_ne (by omega), upd_ne (by omega), upd_ne (by omega)]; exact c s hs, d, e, f, Or.inl rfl⟩
theorem cv_least0 (h : CV C) (h0 : (C 2).toInt ≤ 0) (hx : 1 ≤ x.toInt) (hx2 : x.toInt ≤ (C 4).toInt) : CV (upd C 3 x) := by
  have h18 := cv_not h h0
  obtain ⟨⟨a1, a2, a3, a4, a5, a6⟩, b, c, d, e, f, g⟩ := h
  have q1 := a2.2; have q4 := a4.1
  exact ⟨⟨⟨hx, by show x.toInt ≤ 254; omega⟩, a2, hx2, a4, a5, Or.inl (by show (C 2).toInt = 0; omega)⟩, b, fun s hs => by rw [upd_ne (by omega)]; exact c s hs, d, e, f, Or.inl h18⟩
theorem cv_least1 (h : CV C) (hx : 1 ≤ x.toInt) (hx2 : x.toInt ≤ (C 4).toInt) (hv : x.toInt ≤ v.toInt) (hv2 : v.toInt ≤ (C 4).toInt) : CV (upd (upd (upd C 3 x) 2 v) 18 (-1)) := by
  obtain ⟨⟨a1, a2, a3, a4, a5, a6⟩, b, c, d, e, f, g⟩ := h
  have q1 := a2.2
  exact ⟨⟨⟨hx, by show x.toInt ≤ 254; omega⟩, a2, hx2, ⟨by show 0 ≤ v.toInt; omega, by show v.toInt ≤ 254; omega⟩, hv2, Or.inr hv⟩, b, fun s hs => by rw [upd_ne (by omega), upd_ne (by omega), upd_ne (by omega)]; exact c s hs, d, e, f, Or.inl rfl⟩
theorem cv_tick {t : Int32} (h : CV C) (hc : C 18 ≠ -1) (ht : 0 ≤ t.toInt) (ht2 : t.toInt < (C 20).toInt) (hv : (C 3).toInt ≤ v.toInt) (hv2 : v.toInt ≤ (C 4).toInt) : CV (upd (upd C 21 t) 2 v) := by
  obtain ⟨⟨a1, a2, a3, a4, a5, a6⟩, b, c, d, e, f, g⟩ := h
  have q1 := a1.1; have q2 := a2.2
  rcases g with g | ⟨g1, g2, g3, g4, g5, g6, g7, g8, g9⟩
  · exact absurd g hc
  · exact ⟨⟨a1, a2, a3, ⟨by show 0 ≤ v.toInt; omega, by show v.toInt ≤ 254; omega⟩, hv2, Or.inr hv⟩, b, fun s hs => by rw [upd_ne (by omega), upd_ne (by omega)]; exact c s hs, d, e, f, Or.inr ⟨g1, g2, by show 0 < v.toInt; omega, g4, g5, g6, ht, ht2, g9⟩⟩
theorem cv_fin {t : Int32} (h : CV C) (hc : C 18 ≠ -1) : CV (upd (upd (upd C 21 t) 2 (C 18)) 18 (-1)) := by
  obtain ⟨⟨a1, a2, a3, a4, a5, a6⟩, b, c, d, e, f, g⟩ := h
  rcases g with g | ⟨g1, g2, g3, g4, g5, g6, g7, g8, g9⟩
  · exact absurd g hc
  · exact ⟨⟨a1, a2, a3, g1, g2, g9⟩, b, fun s hs => by rw [upd_ne (by omega), upd_ne (by omega), upd_ne (by omega)]; exact c s hs, d, e, f, Or.inl rfl⟩
end CVS
theorem mi_sc {n k : Nat} {M : Nat → Nat → Int32} {x : Int32} (h : MInv n M) (hk : 24 ≤ k ∧ k ≠ 26) : MInv n (up2 M k 0 x) := by
  obtain ⟨h1, h2, h3, h4, h5, h6⟩ := h
  refine ⟨by rw [up2_ne (by omega)]; exact h1, h2, fun g hg => by rw [colM_sc (by omega)]; exact h3 g hg, fun g h g2 => ?_, fun j hj => ?_, by rw [up2_ne (by omega)]; exact h6⟩
  · rw [up2_ne (by omega), up2_ne (by omega), up2_ne (by omega), up2_ne (by omega)]
    exact h4 g h g2
  · rw [up2_ne (by omega), up2_ne (by omega)]
    exact h5 j hj
theorem mi_may {n : Nat} {M : Nat → Nat → Int32} {x : Int32} (h : MInv n M) (hx : x = 0 ∨ x = 1) : MInv n (up2 M 26 0 x) := by
  obtain ⟨h1, h2, h3, h4, h5, h6⟩ := h
  refine ⟨by rw [up2_ne (by omega)]; exact h1, h2, fun g hg => by rw [colM_sc (by omega)]; exact h3 g hg, fun g h g2 => ?_, fun j hj => ?_, by rw [up2_at, upd_eq]; exact hx⟩
  · rw [up2_ne (by omega), up2_ne (by omega), up2_ne (by omega), up2_ne (by omega)]
    exact h4 g h g2
  · rw [up2_ne (by omega), up2_ne (by omega)]
    exact h5 j hj
theorem isIn_inB {x a b : Int32} (h : ¬ fX3_isIn x a b = 0) : inB x a.toInt b.toInt := by
  obtain ⟨h1, h2⟩ := isIn_of h
  rw [Int32.lt_iff_toInt_lt] at h1 h2
  exact ⟨by omega, by omega⟩
