/-! THE RELATION: give, told, gear, commission -/
section CM
variable {n g : Nat} {T M M' : Nat → Nat → Int32} {a b : Int32}
theorem ig (hI : MInv n M) : (fX2_isGear n T a = 0 ∧ ¬ fX3_no M a = 0) ∨ (¬ fX2_isGear n T a = 0 ∧ fX3_no M a = 0 ∧ ∃ g, g < n ∧ a = nI g) := by
  unfold fX2_isGear fX3_no
  have h16 := hI.2.1
  by_cases c1 : a < 0
  · rw [if_pos c1, if_pos c1]
    exact Or.inl ⟨rfl, by decide⟩
  · rw [if_neg c1, if_neg c1, hI.1]
    obtain ⟨j, hj, rfl⟩ := nI_of c1
    by_cases c2 : j < n
    · refine Or.inr ⟨?_, ?_, j, c2, rfl⟩
      · rw [if_neg (fun z => by have := (nI_leI (by omega) hj).mp z; omega)]; decide
      · rw [if_pos (nI_lt c2 (by omega))]
    · refine Or.inl ⟨?_, ?_⟩
      · rw [if_pos (nI_le (by omega) hj)]
      · rw [if_neg (fun z => c2 ((nI_ltI hj (by omega)).mp z))]; decide
theorem rl_give (h : Rl n T M) (hI : MInv n M) : (fX2_give n T a b).1 = (fX3_give M a b).1 ∧ Rl n (fX2_give n T a b).2 (fX3_give M a b).2 ∧ MInv n (fX3_give M a b).2 := by
  unfold fX2_give fX3_give
  rcases ig (T := T) (a := a) hI with ⟨p1, p2⟩ | ⟨p1, p2, g, hg, rfl⟩
  · rw [if_pos p1, if_neg p2]
    exact ⟨rfl, h, hI⟩
  · rw [if_neg p1, if_pos p2]
    have h16 := hI.2.1
    unfold fX3_isIn
    by_cases c1 : b < 0
    · rw [if_pos c1, if_pos c1, if_pos rfl]
      exact ⟨rfl, h, hI⟩
    · rw [if_neg c1, if_neg c1]
      have e0 : (16777215 : Int32).toInt = 16777215 := rfl
      by_cases c2 : b ≤ 16777215
      · have c2' := ti_le.mp c2
        have c1' : ¬ b.toInt < (0 : Int32).toInt := fun z => c1 (ti_lt.mpr z)
        have z0 : (0 : Int32).toInt = 0 := rfl
        have n2 : ¬ (16777215 : Int32) < b := fun z => by have := ti_lt.mp z; omega
        rw [if_pos c2, if_neg n2, if_neg (by decide), nI_clamp (by omega)]
        have hL : Lc g M (up2 M 15 g b) := lc_up (by decide)
        refine ⟨rfl, rl_st h h16 hg hL (by rw [co_up (by decide)]; exact gr_14 (h.1 g hg)), ?_⟩
        exact mk_1 15 (by decide) hI hg (fun q => cv_15 q ⟨by omega, by omega⟩)
      · have c2' : ¬ b.toInt ≤ (16777215 : Int32).toInt := fun z => c2 (ti_le.mpr z)
        rw [if_neg c2, if_pos (show (16777215 : Int32) < b from ti_lt.mpr (by omega)), if_pos rfl]
        exact ⟨rfl, h, hI⟩
theorem rl_told (h : Rl n T M) (hI : MInv n M) : fX2_told n T a b = fX3_told M a b := by
  unfold fX2_told fX3_told
  rcases ig (T := T) (a := a) hI with ⟨p1, p2⟩ | ⟨p1, p2, g, hg, rfl⟩
  · rw [if_pos p1, if_neg p2]
  · have h16 := hI.2.1
    rw [if_neg p1, if_pos p2, nI_clamp (by omega)]
    have hG := h.1 g hg
    generalize T g = G at hG ⊢
    unfold fX0_valueOf
    by_cases c : fX3_isIn b 16 31 = 0
    · rw [if_pos c]
      refine it2 (P := Eq) (fun _ => hG.1.1) (fun _ => ?_)
      refine it2 (P := Eq) (fun _ => hG.1.2.1) (fun _ => ?_)
      refine it2 (P := Eq) (fun _ => hG.1.2.2.1) (fun _ => ?_)
      refine it2 (P := Eq) (fun _ => hG.2.1.1) (fun _ => ?_)
      refine it2 (P := Eq) (fun _ => hG.2.1.2.1) (fun _ => ?_)
      refine it2 (P := Eq) (fun _ => hG.1.2.2.2.1) (fun _ => ?_)
      refine it2 (P := Eq) (fun _ => hG.1.2.2.2.2) (fun _ => ?_)
      refine it2 (P := Eq) (fun _ => hG.2.1.2.2.1) (fun _ => ?_)
      refine it2 (P := Eq) (fun _ => hG.2.1.2.2.2) (fun _ => ?_)
      refine it2 (P := Eq) (fun _ => hG.2.2.1.1) (fun _ => ?_)
      refine it2 (P := Eq) (fun _ => hG.2.2.1.2.2.1) (fun _ => ?_)
      refine it2 (P := Eq) (fun _ => hG.2.2.1.2.2.2) (fun _ => ?_)
      refine it2 (P := Eq) (fun _ => by rw [show G 17 = M 16 g from hG.2.2.2.1.1]) (fun _ => ?_)
      refine it2 (P := Eq) (fun _ => by rw [show G 18 = M 17 g from hG.2.2.2.1.2]) (fun _ => ?_)
      refine it2 (P := Eq) (fun _ => ?_) (fun _ => ?_)
      · rw [fd hI hg hG]
        rcases hG.2.2.2.2.2 with ⟨f1, f2⟩ | ⟨f1, f2, f3, -⟩
        · have f1 : M 18 g = -1 := f1
          rw [if_pos f1, if_pos rfl, f1]
        · have f1 : ¬ M 18 g = -1 := f1
          rw [if_neg f1, if_neg (by decide)]
          exact f3
      · unfold fX3_isIn at c
        by_cases c1 : b < 16
        · rw [if_pos c1]
        · rw [if_neg c1]
          rw [if_neg c1] at c
          by_cases c2 : (32 : Int32) ≤ b
          · rw [if_pos c2]
          · have c2' : ¬ (32 : Int32).toInt ≤ b.toInt := fun z => c2 (ti_le.mpr z)
            have e32 : (32 : Int32).toInt = 32 := rfl
            have e31 : (31 : Int32).toInt = 31 := rfl
            rw [if_neg (fun z => by have := ti_lt.mp z; omega)] at c
            exact absurd c (by decide)
    · rw [if_neg c]
      have hb := isIn_inB c
      obtain ⟨k, k1, k2, rfl⟩ := inB_nI (x := b) (b := 31) ⟨by have := hb.1; have e : (16 : Int32).toInt = 16 := rfl; omega, hb.2⟩
      have k16 : 16 ≤ k := by
        have := hb.1
        rw [nI_toInt k2] at this
        have e : (16 : Int32).toInt = 16 := rfl
        omega
      refine sk (P := fun X => X = _) (nn (c := 0) (by omega) (by omega) (by decide)) ?_
      refine sk (P := fun X => X = _) (nn (c := 1) (by omega) (by omega) (by decide)) ?_
      refine sk (P := fun X => X = _) (nn (c := 2) (by omega) (by omega) (by decide)) ?_
      refine sk (P := fun X => X = _) (nn (c := 3) (by omega) (by omega) (by decide)) ?_
      refine sk (P := fun X => X = _) (nn (c := 4) (by omega) (by omega) (by decide)) ?_
      refine sk (P := fun X => X = _) (nn (c := 5) (by omega) (by omega) (by decide)) ?_
      refine sk (P := fun X => X = _) (nn (c := 6) (by omega) (by omega) (by decide)) ?_
      refine sk (P := fun X => X = _) (nn (c := 7) (by omega) (by omega) (by decide)) ?_
      refine sk (P := fun X => X = _) (nn (c := 8) (by omega) (by omega) (by decide)) ?_
      refine sk (P := fun X => X = _) (nn (c := 9) (by omega) (by omega) (by decide)) ?_
      refine sk (P := fun X => X = _) (nn (c := 10) (by omega) (by omega) (by decide)) ?_
      refine sk (P := fun X => X = _) (nn (c := 11) (by omega) (by omega) (by decide)) ?_
      refine sk (P := fun X => X = _) (nn (c := 12) (by omega) (by omega) (by decide)) ?_
      refine sk (P := fun X => X = _) (nn (c := 13) (by omega) (by omega) (by decide)) ?_
      refine sk (P := fun X => X = _) (nn (c := 14) (by omega) (by omega) (by decide)) ?_
      refine sk (P := fun X => X = _) (nI_nlt (b := 16) (by omega) (by omega)) ?_
      refine sk (P := fun X => X = _) (nI_ge (b := 32) (by omega) (by decide)) ?_
      rw [show (16 : Int32) = nI 16 from rfl, pk_sub k16, nI_clamp (by omega), scn hG (by omega)]
      exact congrArg (M 10) (sc_ix2 (lo := 16) (by omega) (by omega) k16).symm
theorem rl_gear (h : Rl n T M) (hI : MInv n M) (hn : n < 16) : (fX3_gear M).1 = nI (n + 1) - 1 ∧ Rl (n + 1) (upG T n newG) (fX3_gear M).2 ∧ MInv (n + 1) (fX3_gear M).2 := by
  have hne : ¬ M 1 0 = 16 := by
    rw [hI.1]
    exact nn (c := 16) (by omega) (by omega) (by decide)
  unfold fX3_gear
  rw [if_neg hne, nOf_eq hI]
  have hL : Lq n M (up2 (up2 (fX3_begin M n) 11 n 255) 14 n 16777215) := by
    refine Lq.tr ?_ ((lq_up (by decide)).tr (lq_up (by decide)))
    exact (lq_up (by decide)).tr ((lq_up (by decide)).tr ((lq_up (by decide)).tr ((lq_up (by decide)).tr ((lq_up (by decide)).tr ((lq_up (by decide)).tr ((lq_up (by decide)).tr ((lq_up (by decide)).tr (lq_fill.tr ((lq_up (by decide)).tr (lq_up (by decide)))))))))))
  have hcol : colM (up2 (up2 (fX3_begin M n) 11 n 255) 14 n 16777215) n = upd (upd (upd (upd (fillG (upd (upd (upd (upd (upd (upd (upd (upd (colM M n) 2 254) 3 1) 4 254) 5 254) 6 254) 7 0) 8 7) 9 0) 255 16) 12 16777215) 18 (-1)) 11 255) 14 16777215 := by
    unfold fX3_begin
    rw [co_up (by decide), co_up (by decide), co_up (by decide), co_up (by decide), co_fill, co_up (by decide), co_up (by decide), co_up (by decide), co_up (by decide), co_up (by decide), co_up (by decide), co_up (by decide), co_up (by decide)]
  obtain ⟨m1, m2, m3, m4, m5, m6⟩ := hI
  obtain ⟨z13, z15, z16, z17⟩ := m4 n (Nat.le_refl _) hn
  have z13 : colM M n 13 = 0 := z13
  have z15 : colM M n 15 = 0 := z15
  have z16 : colM M n 16 = 0 := z16
  have z17 : colM M n 17 = 0 := z17
  generalize up2 (up2 (fX3_begin M n) 11 n 255) 14 n 16777215 = N at hL hcol ⊢
  have eN : ∀ k, k ≠ 1 → up2 N 1 0 (nI n + 1) k = N k := fun k hk => up2_ne hk
  have eC : ∀ j, colM (up2 N 1 0 (nI n + 1)) j = colM N j := fun j => colM_sc (by decide)
  obtain ⟨h1, a1, a2, a3, a4, a5⟩ := h
  refine ⟨by rw [nI_succ], ⟨fun j hj => ?_, ?_, ?_, ?_, ?_, ?_⟩, ?_⟩
  · show GRel (upG T n newG j) (colM (up2 N 1 0 (nI n + 1)) j)
    rw [eC]
    by_cases q : j = n
    · subst q
      rw [upG_at, hcol]
      refine ⟨⟨rfl, rfl, rfl, rfl, rfl⟩, ⟨rfl, rfl, rfl, rfl⟩, ⟨rfl, z15.symm, z13.symm, rfl⟩, ⟨z16.symm, z17.symm⟩, fun s hs => ?_, Or.inl ⟨rfl, rfl⟩⟩
      unfold newG fX0_forgetSearch fX0_reset
      rw [upd_ne (by omega), upd_ne (by omega), upd_ne (by omega), upd_ne (by omega), upd_ne (by omega), upd_ne (by omega), upd_ne (by omega), upd_ne (by omega), upd_ne (by omega)]
      unfold fillG
      rw [if_pos (by omega), if_pos (by omega)]
    · rw [upG_ne q, hL.1 j q]
      exact h1 j (by omega)
  · show upG T n newG 100 1 = up2 N 1 0 (nI n + 1) 24 0
    rw [upG_ne (by omega), eN 24 (by decide), hL.2 24 (by decide)]; exact a1
  · show upG T n newG 100 2 = up2 N 1 0 (nI n + 1) 25 0
    rw [upG_ne (by omega), eN 25 (by decide), hL.2 25 (by decide)]; exact a2
  · show upG T n newG 100 3 = up2 N 1 0 (nI n + 1) 27 0
    rw [upG_ne (by omega), eN 27 (by decide), hL.2 27 (by decide)]; exact a3
  · show upG T n newG 100 4 = up2 N 1 0 (nI n + 1) 28 0
    rw [upG_ne (by omega), eN 28 (by decide), hL.2 28 (by decide)]; exact a4
  · show upG T n newG 100 5 = up2 N 1 0 (nI n + 1) 26 0
    rw [upG_ne (by omega), eN 26 (by decide), hL.2 26 (by decide)]; exact a5
  · show MInv (n + 1) (up2 N 1 0 (nI n + 1))
    refine ⟨by rw [up2_at, upd_eq, nI_succ], hn, fun j hj => ?_, fun j hj h16 => ?_, fun k hk => ?_, by rw [eN 26 (by decide), hL.2 26 (by decide)]; exact m6⟩
    · rw [eC]
      by_cases q : j = n
      · subst q
        rw [hcol]
        have i1 : inB (1 : Int32) 1 254 := ⟨by decide, by decide⟩
        have i2 : inB (254 : Int32) 1 254 := ⟨by decide, by decide⟩
        have i3 : (1 : Int32).toInt ≤ (254 : Int32).toInt := by decide
        have i4 : inB (254 : Int32) 0 254 := ⟨by decide, by decide⟩
        have i7 : inB (254 : Int32) 0 255 := ⟨by decide, by decide⟩
        have i8 : inB (0 : Int32) 0 15 := ⟨by decide, by decide⟩
        have i9 : inB (7 : Int32) 1 15 := ⟨by decide, by decide⟩
        have i10 : inB (0 : Int32) 0 65535 := ⟨by decide, by decide⟩
        have i12 : inB (16777215 : Int32) 0 16777215 := ⟨by decide, by decide⟩
        have i13 : inB (colM M j 13) 0 255 := by rw [z13]; exact ⟨by decide, by decide⟩
        have i15 : inB (colM M j 15) 0 16777215 := by rw [z15]; exact ⟨by decide, by decide⟩
        refine ⟨⟨i1, i2, i3, i4, Int.le_refl _, Or.inr i3⟩, ⟨i7, i7, i8, i9, i10, i13⟩, fun s hs => ?_, Or.inl rfl, ⟨i12, i12, i15⟩, ⟨Or.inl z16, Or.inl z17⟩, Or.inl rfl⟩
        rw [upd_ne (by omega), upd_ne (by omega), upd_ne (by omega), upd_ne (by omega)]
        unfold fillG
        rw [if_pos (by omega)]
        exact ⟨by decide, by decide⟩
      · rw [hL.1 j q]
        exact m3 j (by omega)
    · have e := hL.1 j (by omega)
      have e13 : N 13 j = M 13 j := congrFun e 13
      have e15 : N 15 j = M 15 j := congrFun e 15
      have e16 : N 16 j = M 16 j := congrFun e 16
      have e17 : N 17 j = M 17 j := congrFun e 17
      rw [eN 13 (by decide), eN 15 (by decide), eN 16 (by decide), eN 17 (by decide), e13, e15, e16, e17]
      exact m4 j (by omega) h16
    · rw [eN 22 (by decide), eN 23 (by decide), hL.2 22 (by decide), hL.2 23 (by decide)]
      exact m5 k hk
/-! commission -/
noncomputable def s3 (M : Nat → Nat → Int32) (v : Int32) : Nat → Nat → Int32 := (fX3_send (fX3_send (fX3_send M 177 (v / 65536)).2 179 ((v / 256) - (v / 256) / 256 * 256)).2 181 (v - v / 256 * 256)).2
theorem mi_s3 {v : Int32} (hI : MInv n M) : MInv n (s3 M v) := mi_send (mi_send (mi_send hI))
theorem rl_s3 {t : Nat} (ht : t < 16777216) (h : Rl n T M) (hI : MInv n M) : Rl n (fX2_sendSearch n T (nI t)) (s3 M (nI t)) := by
  rw [fX2_sendSearch_eq]
  unfold raw_X2_sendSearch s3
  rw [sr16 (by omega), sr8 (by omega), an255 (by omega), an255 (by omega), an255 (by omega), dv65536 (by omega), rm256 (k := t) (by omega), dv256 (by omega), rm256 (by omega), show t / 65536 % 256 = t / 65536 by omega]
  have h1 := (rl_sp (ka := 177) (kb := t / 65536) (by omega) (by omega) h hI).2
  have h2 := (rl_sp (ka := 179) (kb := t / 256 % 256) (by omega) (by omega) h1 (mi_send hI)).2
  exact (rl_sp (ka := 181) (kb := t % 256) (by omega) (by omega) h2 (mi_send (mi_send hI))).2
theorem rl_c {x : Int32} (h : Rl n T M) (h16 : n ≤ 16) : Rl n (up2 T 100 2 x) (up2 M 25 0 x) := by
  obtain ⟨h1, a1, a2, a3, a4, a5⟩ := h
  exact ⟨fun j hj => by rw [gears_T h16 hj, colM_sc (by decide)]; exact h1 j hj, a1, rfl, a3, a4, a5⟩
theorem rl_within (h : Rl n T M) (hI : MInv n M) : ((fX2_isAnyWithinSearch n T).1 = 0 ↔ (fX3_send (up2 M 25 0 (M 25 0 + 1)) 169 0).1 = -1) ∧ Rl n (fX2_isAnyWithinSearch n T).2 (fX3_send (up2 M 25 0 (M 25 0 + 1)) 169 0).2 := by
  rw [fX2_isAnyWithinSearch_eq]
  unfold raw_X2_isAnyWithinSearch
  rw [h.2.2.1]
  have h1 := rl_sp (ka := 169) (kb := 0) (by omega) (by omega) (rl_c (x := M 25 0 + 1) h hI.2.1) (mi_sc hI (by decide))
  have q1 : (fX2_sendSpecial n (up2 T 100 2 (M 25 0 + 1)) 169 0).1 = (fX3_send (up2 M 25 0 (M 25 0 + 1)) 169 0).1 := h1.1
  have q2 : Rl n (fX2_sendSpecial n (up2 T 100 2 (M 25 0 + 1)) 169 0).2 (fX3_send (up2 M 25 0 (M 25 0 + 1)) 169 0).2 := h1.2
  rw [q1]
  by_cases c : (fX3_send (up2 M 25 0 (M 25 0 + 1)) 169 0).1 = -1
  · rw [if_pos c]
    exact ⟨⟨fun _ => c, fun _ => rfl⟩, q2⟩
  · rw [if_neg c]
    exact ⟨⟨fun z => absurd (show (1 : Int32) = 0 from z) (by decide), fun z => absurd z c⟩, q2⟩
theorem rl_search {t : Nat} (ht : t < 16777216) (h : Rl n T M) (hI : MInv n M) : ((fX2_isAnyWithinSearch n (fX2_sendSearch n T (nI t))).1 = 0 ↔ (fX3_search M (nI t)).1 = -1) ∧ Rl n (fX2_isAnyWithinSearch n (fX2_sendSearch n T (nI t))).2 (fX3_search M (nI t)).2 := by
  rw [fX3_search_eq]
  exact rl_within (rl_s3 ht h hI) (mi_s3 hI)
theorem sh_1 : ∀ j, j < 24 → ((1 : Int32) <<< (nI j &&& 31)) = nI (2 ^ j) := by decide +kernel
theorem rl_in : ∀ (j : Nat), j ≤ 24 → ∀ (t : Nat) (T M : Nat → Nat → Int32), t < 16777216 → 2 ^ j ≤ t + 1 → Rl n T M → MInv n M → ∃ t', t' < 16777216 ∧ (slIt n (nI t) j T).1 = nI t' ∧ (cmIn j (nI t) M).1 = nI t' ∧ Rl n (slIt n (nI t) j T).2 (cmIn j (nI t) M).2 := by
  intro j
  induction j with
  | zero =>
    intro _ t T M ht _ h hI
    refine ⟨t, ht, ?_, rfl, ?_⟩
    · unfold slIt; rfl
    · unfold slIt; exact h
  | succ j ih =>
    intro hj t T M ht hp h hI
    have e2 : 2 ^ (j + 1) = 2 * 2 ^ j := by rw [Nat.pow_succ]; omega
    have p1 : 1 ≤ 2 ^ j := Nat.one_le_two_pow
    rw [slIt_s, cmIn_s, sh_1 j (by omega), show bitOf (j + 1) = nI (2 ^ j) from rfl, pk_sub (by omega)]
    obtain ⟨q1, q2⟩ := rl_search (t := t - 2 ^ j) (by omega) h hI
    have hI' := mi_search (a := nI (t - 2 ^ j)) hI
    by_cases c : (fX3_search M (nI (t - 2 ^ j))).1 = -1
    · rw [if_pos c, if_pos (q1.mpr c)]
      exact ih (by omega) t _ _ ht (by omega) q2 hI'
    · rw [if_neg c, if_neg (fun z => c (q1.mp z))]
      exact ih (by omega) (t - 2 ^ j) _ _ (by omega) (by omega) q2 hI'
theorem rl_O {x : Nat} (hx : x ≤ 63) : ∀ (f y : Nat) (T M : Nat → Nat → Int32), y + f ≤ 100 → Rl n T M → MInv n M → (bcO n (nI x) f (nI y) T).1 = (cmO (nI x) f (nI y) M).1 ∧ Rl n (bcO n (nI x) f (nI y) T).2 (cmO (nI x) f (nI y) M).2 := by
  intro f
  induction f with
  | zero =>
    intro y T M _ h hI
    unfold bcO
    exact ⟨rfl, h⟩
  | succ f ih =>
    intro y T M hy h hI
    rw [bcO_s, cmO_s, nI_add]
    by_cases c1 : 20 ≤ y
    · rw [if_pos (show 20 ≤ nI y from nI_le (a := 20) c1 (by omega))]
      by_cases c2 : (64 : Int32) ≤ nI (x + y)
      · rw [if_pos c2]; exact ⟨rfl, h⟩
      · rw [if_neg c2, if_pos (show 20 ≤ nI y from nI_le (a := 20) c1 (by omega))]; exact ⟨rfl, h⟩
    · rw [if_neg (show ¬ 20 ≤ nI y from nI_ge (b := 20) (by omega) (by decide))]
      by_cases c2 : 64 ≤ x + y
      · rw [if_pos (show (64 : Int32) ≤ nI (x + y) from nI_le (a := 64) c2 (by omega)), if_pos (show (63 : Int32) < nI (x + y) from nI_lt (a := 63) (by omega) (by omega))]
        exact ⟨rfl, h⟩
      · rw [if_neg (show ¬ (64 : Int32) ≤ nI (x + y) from nI_ge (b := 64) (by omega) (by decide)), if_neg (show ¬ (63 : Int32) < nI (x + y) from nI_nlt (a := 63) (by omega) (by decide)), if_neg (show ¬ 20 ≤ nI y from nI_ge (b := 20) (by omega) (by decide))]
        have hL : ((fX2_isAnyLeft n T).1 = 0 ↔ (fX3_search M 16777215).1 = -1) ∧ Rl n (fX2_isAnyLeft n T).2 (fX3_search M 16777215).2 := by
          rw [fX2_isAnyLeft_eq]
          exact rl_search (t := 16777215) (by decide) h hI
        have hI1 : MInv n (fX3_search M 16777215).2 := mi_search hI
        obtain ⟨q1, q2⟩ := hL
        by_cases c3 : (fX3_search M 16777215).1 = -1
        · rw [if_pos c3, if_pos (q1.mpr c3)]
          exact ⟨rfl, q2⟩
        · rw [if_neg c3, if_neg (fun z => c3 (q1.mp z))]
          generalize (fX3_search M 16777215).2 = M1 at q2 hI1 ⊢
          generalize (fX2_isAnyLeft n T).2 = T1 at q2 ⊢
          obtain ⟨t', ht', e1, e2, hR⟩ := rl_in (n := n) 24 (by decide) 16777215 T1 M1 (by decide) (by decide) q2 hI1
          have hI2 : MInv n (cmIn 24 16777215 M1).2 := mi_cmIn 24 16777215 M1 hI1
          have e1 : (slIt n 16777215 24 T1).1 = nI t' := e1
          have e2 : (cmIn 24 16777215 M1).1 = nI t' := e2
          have hR : Rl n (slIt n 16777215 24 T1).2 (cmIn 24 16777215 M1).2 := hR
          rw [fX2_searchLeastRandom_eq]
          unfold slr0
          rw [e1, e2]
          have hS := rl_s3 ht' hR hI2
          have hI3 : MInv n (s3 (cmIn 24 16777215 M1).2 (nI t')) := mi_s3 hI2
          unfold bcAf cmAf
          rw [nI_add, show (2 : Int32) = nI 2 from rfl, pk_mul, nI_1, nI_1]
          have w1 := (rl_sp (ka := 183) (kb := 2 * (x + y) + 1) (by omega) (by omega) hS hI3).2
          have w2 := (rl_sp (ka := 171) (kb := 0) (by omega) (by omega) w1 (mi_send hI3)).2
          exact ih (y + 1) _ _ (by omega) w2 (mi_send (mi_send hI3))
theorem rl_commission (h : Rl n T M) (hI : MInv n M) : (fX2_commission n T a).1 = (fX3_commission M a).1 ∧ Rl n (fX2_commission n T a).2 (fX3_commission M a).2 := by
  unfold fX2_commission fX3_commission fX3_isIn
  by_cases c1 : a < 0
  · rw [if_pos c1, if_pos c1, if_pos rfl]
    exact ⟨rfl, h⟩
  · rw [if_neg c1, if_neg c1]
    obtain ⟨x, hx, rfl⟩ := nI_of c1
    by_cases c2 : x ≤ 63
    · rw [if_pos (show nI x ≤ 63 from nI_le (b := 63) c2 (by decide)), if_neg (show ¬ (63 : Int32) < nI x from nI_nlt (a := 63) c2 (by decide)), if_neg (by decide)]
      have h0 := rl_c (x := 0) h hI.2.1
      have i0 : MInv n (up2 M 25 0 0) := mi_sc hI (by decide)
      have h1 := (rl_sp (ka := 165) (kb := 0) (by omega) (by omega) h0 i0).2
      have h2 := (rl_sp (ka := 165) (kb := 0) (by omega) (by omega) h1 (mi_send i0)).2
      have h3 := (rl_sp (ka := 167) (kb := 0) (by omega) (by omega) h2 (mi_send (mi_send i0))).2
      have h4 := (rl_sp (ka := 167) (kb := 0) (by omega) (by omega) h3 (mi_send (mi_send (mi_send i0)))).2
      have h4 : Rl n (bcM1 n T) (cmM1 M) := h4
      have i4 : MInv n (cmM1 M) := mi_cmM1 hI
      obtain ⟨q1, q2⟩ := rl_O c2 21 0 _ _ (by decide) h4 i4
      have i5 : MInv n (cmO (nI x) 21 (nI 0) (cmM1 M)).2 := mi_cmO 21 (nI 0) _ i4
      exact ⟨q1, (rl_sp (ka := 161) (kb := 0) (by omega) (by omega) q2 i5).2⟩
    · rw [if_neg (show ¬ nI x ≤ 63 from nI_ge (a := 63) (by omega) hx), if_pos (show (63 : Int32) < nI x from nI_lt (a := 63) (by omega) hx), if_pos rfl]
      exact ⟨rfl, h⟩
end CM
