/-! THE RELATION: special frames -/
theorem and_sp {i a b c d : Nat} (hb : b < 2 ^ i) (hd : d < 2 ^ i) : (2 ^ i * a + b) &&& (2 ^ i * c + d) = 2 ^ i * (a &&& c) + (b &&& d) := by
  apply Nat.eq_of_testBit_eq
  intro j
  have h : b &&& d < 2 ^ i := Nat.lt_of_le_of_lt Nat.and_le_left hb
  rw [Nat.testBit_and, Nat.testBit_two_pow_mul_add _ hb, Nat.testBit_two_pow_mul_add _ hd, Nat.testBit_two_pow_mul_add _ h]
  by_cases q : j < i
  · rw [if_pos q, if_pos q, if_pos q, Nat.testBit_and]
  · rw [if_neg q, if_neg q, if_neg q, Nat.testBit_and]
theorem or_sp {i a b c d : Nat} (hb : b < 2 ^ i) (hd : d < 2 ^ i) : (2 ^ i * a + b) ||| (2 ^ i * c + d) = 2 ^ i * (a ||| c) + (b ||| d) := by
  apply Nat.eq_of_testBit_eq
  intro j
  have h : b ||| d < 2 ^ i := Nat.or_lt_two_pow hb hd
  rw [Nat.testBit_or, Nat.testBit_two_pow_mul_add _ hb, Nat.testBit_two_pow_mul_add _ hd, Nat.testBit_two_pow_mul_add _ h]
  by_cases q : j < i
  · rw [if_pos q, if_pos q, if_pos q, Nat.testBit_or]
  · rw [if_neg q, if_neg q, if_neg q, Nat.testBit_or]
theorem or_lo {i b c : Nat} (hb : b < 2 ^ i) : b ||| (2 ^ i * c) = 2 ^ i * c + b := by
  have e := or_sp (i := i) (a := 0) (b := b) (c := c) (d := 0) hb (Nat.two_pow_pos i)
  rw [Nat.zero_or, Nat.or_zero, Nat.mul_zero, Nat.zero_add, Nat.add_zero] at e
  exact e
theorem c_hi {t k : Nat} (hk : k < 256) (ht : t < 16777216) : (nI t &&& 65535) ||| (nI k <<< ((16 : Int32) &&& 31)) = nI (t % 65536 + 65536 * k) := by
  rw [show nI t &&& 65535 = nI (t % 65536) from pk_andN (by omega) 16 (by decide), show nI k <<< ((16 : Int32) &&& 31) = nI (k * 65536) from pk_shlN _ 16 (by decide) (by omega), by_nx_or]
  have e := or_lo (i := 16) (b := t % 65536) (c := k) (Nat.mod_lt _ (by decide))
  rw [show k * 65536 = 2 ^ 16 * k by omega, e, show 2 ^ 16 * k + t % 65536 = t % 65536 + 65536 * k by omega]
theorem n_255 (x : Nat) : x &&& 255 = x % 256 := Nat.and_two_pow_sub_one_eq_mod x 8
theorem n_65535 (x : Nat) : x &&& 65535 = x % 65536 := Nat.and_two_pow_sub_one_eq_mod x 16
theorem c_mi {t k : Nat} (hk : k < 256) (ht : t < 16777216) : (nI t &&& 16711935) ||| (nI k <<< ((8 : Int32) &&& 31)) = nI (t / 65536 * 65536 + t % 256 + 256 * k) := by
  have ea := and_sp (i := 16) (a := t / 65536) (b := t % 65536) (c := 255) (d := 255) (Nat.mod_lt _ (by decide)) (by decide)
  rw [show 2 ^ 16 * (t / 65536) + t % 65536 = t by omega, show 2 ^ 16 * 255 + 255 = 16711935 by decide, n_255, n_255] at ea
  rw [show (16711935 : Int32) = nI 16711935 from rfl, by_nx_and, ea, show nI k <<< ((8 : Int32) &&& 31) = nI (k * 256) from pk_shlN _ 8 (by decide) (by omega), by_nx_or]
  have e := or_sp (i := 16) (a := t / 65536 % 256) (b := t % 65536 % 256) (c := 0) (d := k * 256) (by omega) (by omega)
  rw [Nat.mul_zero, Nat.zero_add, Nat.or_zero] at e
  have e2 := or_lo (i := 8) (b := t % 65536 % 256) (c := k) (Nat.mod_lt _ (by decide))
  rw [show k * 256 = 2 ^ 8 * k by omega, e2] at e
  rw [show k * 256 = 2 ^ 8 * k by omega, e, show 2 ^ 16 * (t / 65536 % 256) + (2 ^ 8 * k + t % 65536 % 256) = t / 65536 * 65536 + t % 256 + 256 * k by omega]
theorem c_lo {t k : Nat} (hk : k < 256) (ht : t < 16777216) : (nI t &&& 16776960) ||| nI k = nI (t / 256 * 256 + k) := by
  have ea := and_sp (i := 8) (a := t / 256) (b := t % 256) (c := 65535) (d := 0) (Nat.mod_lt _ (by decide)) (by decide)
  rw [show 2 ^ 8 * (t / 256) + t % 256 = t by omega, show 2 ^ 8 * 65535 + 0 = 16776960 by decide, n_65535, Nat.and_zero, Nat.add_zero] at ea
  rw [show (16776960 : Int32) = nI 16776960 from rfl, by_nx_and, ea, by_nx_or]
  have e := or_lo (i := 8) (b := k) (c := t / 256 % 65536) hk
  rw [Nat.or_comm, e, show 2 ^ 8 * (t / 256 % 65536) + k = t / 256 * 256 + k by omega]
def oddX (b : Int32) : Int32 := (if (b - b / 2 * 2) = 1 then (if 128 ≤ b then 0 else 1) else 0)
theorem oA : ∀ k, k < 256 → oddX (nI k) ≠ 0 → nI k = 2 * ((nI k - 1) / 2) + 1 ∧ (nI k - 1) / 2 ≠ 255 := by
  unfold oddX
  decide +kernel
theorem oB : ∀ j, j < 64 → oddX (2 * nI j + 1) ≠ 0 ∧ ((2 * nI j + 1) - 1) / 2 = nI j := by
  unfold oddX
  decide +kernel
section SP
variable {n g : Nat} {M M1 M' : Nat → Nat → Int32} {G G' : Nat → Int32} {a b v tw x r : Int32}
theorem so_eq {k : Nat} (hk : k < 256) (hI : MInv n M) (hg : g < n) (hG : GRel G (colM M g)) : fX0_isShortOf G (nI k) = if oddX (nI k) = 0 then 0 else (if M 11 g = (nI k - 1) / 2 then 1 else 0) := by
  unfold fX0_isShortOf
  rw [show G 12 = M 11 g from hG.2.1.2.2.2]
  have h11 : M 11 g = 255 ∨ inB (M 11 g) 0 63 := (hI.2.2.1 g hg).2.2.2.1
  by_cases c : oddX (nI k) = 0
  · rw [if_pos c]
    rcases h11 with h | h
    · rw [if_pos h]
    · obtain ⟨j, j1, j2, j3⟩ := inB_nI h
      rw [j3]
      have := oB j (by omega)
      by_cases d : nI j = 255
      · rw [if_pos d]
      · rw [if_neg d, if_neg (fun z => this.1 (by rw [← z]; exact c))]
  · rw [if_neg c]
    obtain ⟨q1, q2⟩ := oA k hk c
    rcases h11 with h | h
    · rw [if_pos h, if_neg (fun z => q2 (by rw [← z]; exact h))]
    · obtain ⟨j, j1, j2, j3⟩ := inB_nI h
      rw [j3]
      have hb := oB j (by omega)
      rw [if_neg (show ¬ nI j = 255 from nn (c := 255) (by omega) j2 (by decide))]
      by_cases d : nI k = 2 * nI j + 1
      · rw [if_pos d, if_pos (by rw [d]; exact hb.2.symm)]
      · rw [if_neg d, if_neg (fun z => d (by rw [z]; exact q1))]
def foundX (M : Nat → Nat → Int32) (g : Nat) : Int32 := (if (M 16 g) = 0 then 0 else (if (M 17 g) = 0 then (if (M 12 g) = (M 14 g) then 1 else 0) else 0))
def spY (G : Nat → Int32) (a b : Int32) : Int32 × (Nat → Int32) := (if (G 17) = 0 then ((-1), G) else (if (G 18) = 0 then (((fX0_hearInSearch G a b).1), (fX0_hearInSearch G a b).2) else ((-1), G)))
theorem y0 (ha : a ≠ 169) (hG : GRel G (colM M g)) (h : foundX M g = 0) : spY G a b = ((-1), G) := by
  unfold spY
  unfold foundX at h
  rw [show G 17 = M 16 g from hG.2.2.2.1.1, show G 18 = M 17 g from hG.2.2.2.1.2]
  by_cases c1 : M 16 g = 0
  · rw [if_pos c1]
  · rw [if_neg c1]
    rw [if_neg c1] at h
    by_cases c2 : M 17 g = 0
    · rw [if_pos c2]
      rw [if_pos c2] at h
      by_cases c3 : M 12 g = M 14 g
      · rw [if_pos c3] at h
        exact absurd h (by decide)
      · unfold fX0_hearInSearch
        rw [if_neg ha, show G 13 = M 12 g from hG.2.2.1.1, show G 16 = M 14 g from hG.2.2.1.2.2.2, if_neg c3]
    · rw [if_neg c2]
theorem y1 (ha : a ≠ 169) (hG : GRel G (colM M g)) (h : ¬ foundX M g = 0) : M 17 g = 0 ∧ spY G a b = (if a = 171 then ((-1), (upd G 18 1)) else (if a = 183 then ((-1), (fX0_takeShort G b)) else (if a = 185 then ((fX0_yesIf (fX0_isShortOf G b)), G) else (if a = 187 then (if (G 12) = 255 then (255, G) else (((2 * (G 12)) + 1), G)) else ((-1), G))))) := by
  unfold spY
  unfold foundX at h
  rw [show G 17 = M 16 g from hG.2.2.2.1.1, show G 18 = M 17 g from hG.2.2.2.1.2]
  by_cases c1 : M 16 g = 0
  · rw [if_pos c1] at h
    exact absurd rfl h
  · rw [if_neg c1]
    rw [if_neg c1] at h
    by_cases c2 : M 17 g = 0
    · rw [if_pos c2]
      rw [if_pos c2] at h
      by_cases c3 : M 12 g = M 14 g
      · refine ⟨c2, ?_⟩
        show fX0_hearInSearch G a b = _
        unfold fX0_hearInSearch
        rw [if_neg ha, show G 13 = M 12 g from hG.2.2.1.1, show G 16 = M 14 g from hG.2.2.1.2.2.2, if_pos c3]
      · rw [if_neg c3] at h
        exact absurd rfl h
    · rw [if_neg c2] at h
      exact absurd rfl h
theorem hr_rf (hG : GRel G (colM M g)) : Hr g M M (-1, G) := hr_s (sm_rf hG)
theorem hr_id (k : Nat) (hk : 2 ≤ k ∧ k < 22 ∧ k ≠ 10) (hx : colM M g k = x) (hG : GRel G (colM M g)) : Hr g M (up2 M k g x) (-1, G) := hr_s (sm_up k hk (by rw [upd_id hx]; exact hG))
theorem si_special {k : Nat} (hk : k < 256) (hI : MInv n M) (hg : g < n) (hG : GRel G (colM M g)) : Hr g M (fX3_special M g a (nI k) tw) (fX0_hearSpecial G a (nI k) tw) := by
  have hc := hI.2.2.1 g hg
  have h14 : inB (M 14 g) 0 16777215 := hc.2.2.2.2.1.2.1
  have h11 : M 11 g = 255 ∨ inB (M 11 g) 0 63 := hc.2.2.2.1
  have h17 : M 17 g = 0 ∨ M 17 g = 1 := hc.2.2.2.2.2.1.2
  obtain ⟨t, t1, t2, t3⟩ := inB_nI h14
  have init : Hr g M (up2 (up2 M 16 g 1) 17 g 0) (-1, upd (upd G 17 1) 18 0) := hr_s ⟨(lq_up (by decide)).tr (lq_up (by decide)), by rw [co_up (by decide), co_up (by decide)]; exact gr_18 (gr_17 hG)⟩
  have hso := so_eq hk hI hg hG
  have h255 : oddX 255 = 0 := by decide
  unfold fX3_special fX3_special_j1
  show Hr g M (fX3_special_j2 M g a (nI k) tw (oddX (nI k)) (foundX M g)) _
  unfold fX3_special_j2 fX3_special_j15 fX3_special_j23 fX3_special_j37 fX0_hearSpecial
  refine it2 (P := Hr g M) (fun _ => hr_s (sm_up 16 (by decide) (gr_17 hG))) (fun _ => ?_)
  refine it2 (P := Hr g M) (fun _ => hr_s (sm_up 13 (by decide) (gr_15 hG))) (fun _ => ?_)
  refine it2 (P := Hr g M) (fun _ => ?_) (fun _ => ?_)
  · refine it2 (P := Hr g M) (fun _ => hr_rf hG) (fun _ => ?_)
    unfold fX0_isToInitialise
    rw [hso, show G 12 = M 11 g from hG.2.1.2.2.2]
    by_cases c0 : nI k = 0
    · rw [if_pos c0, if_pos c0, if_neg (by decide)]; exact init
    · rw [if_neg c0, if_neg c0]
      by_cases c1 : nI k = 255
      · rw [if_pos c1, if_pos c1]
        by_cases c2 : M 11 g = 255
        · rw [if_pos c2, if_pos c2, if_neg (by decide)]; exact init
        · rw [if_neg c2, if_neg c2, if_pos rfl, c1, if_pos h255]; exact hr_rf hG
      · rw [if_neg c1, if_neg c1]
        by_cases c2 : oddX (nI k) = 0
        · rw [if_pos c2, if_pos c2, if_pos rfl]; exact hr_rf hG
        · rw [if_neg c2, if_neg c2]
          by_cases c3 : M 11 g = (nI k - 1) / 2
          · rw [if_pos c3, if_pos c3, if_neg (by decide)]; exact init
          · rw [if_neg c3, if_neg c3, if_pos rfl]; exact hr_rf hG
  refine it2 (P := Hr g M) (fun _ => ?_) (fun _ => ?_)
  · rw [show G 17 = M 16 g from hG.2.2.2.1.1, show G 14 = M 15 g from hG.2.2.1.2.1]
    by_cases c0 : tw = 0
    · rw [if_pos c0, if_pos c0]; exact hr_id 12 (by decide) rfl hG
    · rw [if_neg c0, if_neg c0]
      by_cases c1 : M 16 g = 0
      · rw [if_pos c1, if_pos c1]; exact hr_id 12 (by decide) rfl hG
      · rw [if_neg c1, if_neg c1]; exact hr_s (sm_up 12 (by decide) (gr_13 hG))
  by_cases a169 : a = 169
  · subst a169
    refine sy (P := fun X => Hr g M X _) rfl ?_
    refine sk (P := Hr g M _) (by decide) ?_
    refine sk (P := Hr g M _) (by decide) ?_
    refine sk (P := Hr g M _) (by decide) ?_
    rw [show G 17 = M 16 g from hG.2.2.2.1.1, show G 18 = M 17 g from hG.2.2.2.1.2]
    refine it2 (P := Hr g M) (fun _ => hr_rf hG) (fun _ => ?_)
    refine it2 (P := Hr g M) (fun _ => ?_) (fun _ => hr_rf hG)
    show Hr g M _ (fX0_hearInSearch G 169 (nI k))
    unfold fX0_hearInSearch fX0_hearInSearch_j8 fX0_yesIf
    rw [if_pos rfl, show G 13 = M 12 g from hG.2.2.1.1, show G 16 = M 14 g from hG.2.2.1.2.2.2]
    by_cases c : M 14 g < M 12 g
    · rw [if_pos c, if_pos c, if_pos rfl]; exact hr_rf hG
    · rw [if_neg c, if_neg c, if_neg (by decide)]; exact hr_a (an_say (by decide)) hG
  refine sk (P := fun X => Hr g M X _) a169 ?_
  by_cases a171 : a = 171
  · subst a171
    refine sy (P := fun X => Hr g M X _) rfl ?_
    refine sk (P := Hr g M _) (by decide) ?_
    refine sk (P := Hr g M _) (by decide) ?_
    refine sk (P := Hr g M _) (by decide) ?_
    show Hr g M _ (spY G 171 (nI k))
    by_cases c : foundX M g = 0
    · rw [y0 (by decide) hG c, if_pos c]
      rcases h17 with h | h
      · rw [if_pos h]; exact hr_id 17 (by decide) h hG
      · rw [if_neg (by rw [h]; decide)]; exact hr_id 17 (by decide) h hG
    · obtain ⟨y1, y2⟩ := y1 (b := nI k) (by decide : (171 : Int32) ≠ 169) hG c
      rw [y2, if_pos y1, if_neg c, if_pos rfl]
      exact hr_s (sm_up 17 (by decide) (gr_18 hG))
  refine sk (P := fun X => Hr g M X _) a171 ?_
  by_cases a177 : a = 177
  · subst a177
    refine it2 (P := Hr g M) (fun _ => ?_) (fun z => absurd rfl z)
    rw [show G 16 = M 14 g from hG.2.2.1.2.2.2, t3, c_hi hk (by omega), sh_hi (by omega)]
    exact hr_s (sm_up 14 (by decide) (gr_16 hG))
  refine it2 (P := Hr g M) (fun z => absurd z a177) (fun _ => ?_)
  by_cases a179 : a = 179
  · subst a179
    refine it2 (P := Hr g M) (fun _ => ?_) (fun z => absurd rfl z)
    rw [show G 16 = M 14 g from hG.2.2.1.2.2.2, t3, c_mi hk (by omega), sh_mi (by omega)]
    exact hr_s (sm_up 14 (by decide) (gr_16 hG))
  refine it2 (P := Hr g M) (fun z => absurd z a179) (fun _ => ?_)
  by_cases a181 : a = 181
  · subst a181
    refine it2 (P := Hr g M) (fun _ => ?_) (fun z => absurd rfl z)
    rw [show G 16 = M 14 g from hG.2.2.1.2.2.2, t3, c_lo hk (by omega), sh_lo (by omega)]
    exact hr_s (sm_up 14 (by decide) (gr_16 hG))
  refine it2 (P := Hr g M) (fun z => absurd z a181) (fun _ => ?_)
  show Hr g M _ (spY G a (nI k))
  by_cases c : foundX M g = 0
  · rw [y0 a169 hG c, if_pos c, if_pos c, if_pos c]
    exact it_ind (P := fun X => Hr g M X _) (fun _ => hr_rf hG) (fun _ => it_ind (P := fun X => Hr g M X _) (fun _ => hr_rf hG) (fun _ => it_ind (P := fun X => Hr g M X _) (fun _ => hr_rf hG) (fun _ => hr_rf hG)))
  · rw [(y1 (b := nI k) a169 hG c).2, if_neg c, if_neg c, if_neg c]
    refine sk (P := Hr g M _) a171 ?_
    refine it2 (P := Hr g M) (fun _ => hr_s (si_short (nI_inB (by omega) (by omega)) hG)) (fun _ => ?_)
    refine it2 (P := Hr g M) (fun _ => ?_) (fun _ => ?_)
    · rw [hso]
      unfold fX0_yesIf
      by_cases c2 : oddX (nI k) = 0
      · rw [if_pos c2, if_pos c2, if_pos rfl]; exact hr_rf hG
      · rw [if_neg c2, if_neg c2]
        by_cases c3 : M 11 g = (nI k - 1) / 2
        · rw [if_pos c3, if_pos c3, if_neg (by decide)]; exact hr_a (an_say (by decide)) hG
        · rw [if_neg c3, if_neg c3, if_pos rfl]; exact hr_rf hG
    refine it2 (P := Hr g M) (fun _ => ?_) (fun _ => hr_rf hG)
    rw [show G 12 = M 11 g from hG.2.1.2.2.2]
    by_cases c2 : M 11 g = 255
    · rw [if_pos c2, if_pos c2]; exact hr_a (an_say (by decide)) hG
    · rw [if_neg c2, if_neg c2]
      refine hr_a (an_say ?_) hG
      rcases h11 with h | h
      · exact absurd h c2
      · obtain ⟨j, j1, j2, j3⟩ := inB_nI h
        rw [j3, show (2 : Int32) = nI 2 from rfl, pk_mul, nI_1]
        exact in_ne (B := 255) (nI_inB (by omega) (by omega))
theorem im_eq (hG : GRel G (colM M g)) : fX3_isMeant M g a = fX0_isMeantBy G a := by
  unfold fX3_isMeant fX0_isMeantBy
  rw [show G 11 = M 9 g from hG.2.1.2.2.1, show G 12 = M 11 g from hG.2.1.2.2.2]
  refine it2 (P := Eq) (fun _ => ?_) (fun _ => rfl)
  refine it2 (P := Eq) (fun _ => ?_) (fun _ => rfl)
  have e1 : (253 : Int32).toInt = 253 := rfl
  have e2 : (254 : Int32).toInt = 254 := rfl
  by_cases c : a ≤ 253
  · rw [if_pos c, if_pos (ti_lt.mpr (by have := ti_le.mp c; omega))]
  · rw [if_neg c, if_neg (fun z => c (ti_le.mpr (by have := ti_lt.mp z; omega)))]
theorem si_lev (hI : MInv n M) (hg : g < n) (hG : GRel G (colM M g)) : Sm g M (if b = 255 then (up2 M 18 g (-1)) else (fX3_goTo M g b)) (fX0_hearLevel G b) := by
  unfold fX0_hearLevel
  exact it2 (P := Sm g M) (fun _ => sm_up 18 (by decide) (gr_end hG)) (fun _ => si_goTo hI hg hG)
theorem si_fail (hI : MInv n M) (hg : g < n) (hG : GRel G (colM M g)) : Sm g M (bodyF M g) (fX0_goToUnlessUnset G (G 10)) := by
  unfold bodyF fX0_goToUnlessUnset
  rw [show G 10 = M 6 g from hG.2.1.2.1]
  exact it2 (P := Sm g M) (fun _ => sm_rf hG) (fun _ => si_goTo hI hg hG)
theorem si_forget (hG : GRel G (colM M g)) : Sm g M (up2 (up2 (up2 (up2 M 14 g 16777215) 13 g 0) 16 g 0) 17 g 0) (fX0_forgetSearch G) := by
  refine ⟨(lq_up (by decide)).tr ((lq_up (by decide)).tr ((lq_up (by decide)).tr (lq_up (by decide)))), ?_⟩
  rw [co_up (by decide), co_up (by decide), co_up (by decide), co_up (by decide)]
  exact gr_18 (gr_17 (gr_15 (gr_16 hG)))
theorem si_power (hG : GRel G (colM M g)) : Sm g M (bodyP M g) (fX0_startAgain G) := by
  unfold bodyP fX0_startAgain
  have e9 : fX1_endFade G 9 = M 5 g := hG.2.1.1
  have hE : GRel (fX1_endFade G) (upd (colM M g) 18 (-1)) := gr_end hG
  have hE' : GRel (fX1_endFade G) (colM (up2 M 18 g (-1)) g) := by rw [co_up (by decide)]; exact hE
  rw [e9, off_eq hE']
  by_cases c : M 5 g = 255
  · rw [if_pos c, if_pos c]
    have h1 : Sm g M (fX3_set M g (M 2 g)) (fX1_endFade G) := by
      refine ⟨(lq_up (by decide)).tr (lq_up (by decide)), ?_⟩
      unfold fX3_set
      rw [co_up (by decide), co_up (by decide), upd_id (G := colM M g) (k := 2) (x := M 2 g) rfl]
      exact hE
    exact (si_forget h1.2).af h1.1
  · rw [if_neg c, if_neg c]
    have ew : fX3_within (up2 M 18 g (-1)) g (M 5 g) = fX3_within M g (M 5 g) := rfl
    rw [ew]
    generalize (if M 5 g = 0 then 0 else fX3_within M g (M 5 g)) = x
    have h1 : Sm g M (fX3_set M g x) (fX1_setLevel (fX1_endFade G) x) := by
      refine ⟨(lq_up (by decide)).tr (lq_up (by decide)), ?_⟩
      unfold fX3_set
      rw [co_up (by decide), co_up (by decide)]
      have h := gr_set (v := x) hE
      have e : upd (upd (upd (colM M g) 18 (-1)) 2 x) 18 (-1) = upd (upd (colM M g) 2 x) 18 (-1) := by
        funext j
        by_cases q : j = 18
        · subst q; rw [upd_eq, upd_eq]
        · rw [upd_ne q, upd_ne q]
          by_cases q2 : j = 2
          · subst q2; rw [upd_eq, upd_eq]
          · rw [upd_ne q2, upd_ne q2, upd_ne q]
      rw [e] at h
      exact h
    exact (si_forget h1.2).af h1.1
theorem si_tick {k : Int32} (hI : MInv n M) (hg : g < n) (hG : GRel G (colM M g)) : Sm g M (bodyT k M g) (fX1_passTicks G k) ∧ (∀ y : Int32, bodyTn k M g y = if fX1_isFading (fX1_passTicks G k) = 0 then y else y + 1) := by
  unfold bodyT bodyTn fX1_passTicks
  have z0 : (0 : Int32).toInt = 0 := rfl
  rcases hG.2.2.2.2.2 with ⟨f1, f2⟩ | ⟨f1, f2, f3, f4, f5⟩
  · have f1 : M 18 g = -1 := f1
    rw [if_pos f1, f2, if_neg (by decide)]
    refine ⟨sm_rf hG, fun y => ?_⟩
    rw [if_pos f1]
    unfold fX1_isFading
    rw [f2, if_pos (by decide)]
  · have f1 : ¬ M 18 g = -1 := f1
    have f2 : G 8 = M 20 g := f2
    have f3 : G 6 = M 18 g := f3
    have f4 : G 5 = M 19 g := f4
    have f5 : G 7 = M 21 g := f5
    have hpos : 0 < M 20 g := by
      rcases (hI.2.2.1 g hg).2.2.2.2.2.2 with q | q
      · exact absurd q f1
      · have q6 : 1 ≤ (M 20 g).toInt := q.2.2.2.2.2.1.1
        exact ti_lt.mpr (by omega)
    rw [f2, f3, f4, f5, show G 1 = M 3 g from hG.1.2.1, if_neg f1, if_pos hpos]
    by_cases c : M 21 g + k < M 20 g
    · rw [if_pos c, if_pos c]
      have e : fmax (tickV k M g) (M 3 g) = if M 3 g ≤ tickV k M g then tickV k M g else M 3 g := by
        unfold fmax
        by_cases d : tickV k M g < M 3 g
        · rw [if_pos d, if_neg (fun z => by have := ti_le.mp z; have := ti_lt.mp d; omega)]
        · rw [if_neg d, if_pos (ti_le.mpr (by have : ¬ (tickV k M g).toInt < (M 3 g).toInt := fun z => d (ti_lt.mpr z); omega))]
      show Sm g M _ (upd (upd G 7 (M 21 g + k)) 0 (fmax (tickV k M g) (M 3 g))) ∧ ∀ y : Int32, _ = if fX1_isFading (upd (upd G 7 (M 21 g + k)) 0 (fmax (tickV k M g) (M 3 g))) = 0 then y else y + 1
      rw [e]
      refine ⟨⟨(lq_up (by decide)).tr (lq_up (by decide)), by rw [co_up (by decide), co_up (by decide)]; exact gr_tick hG f1⟩, fun y => ?_⟩
      rw [if_neg f1, if_pos c]
      unfold fX1_isFading
      show y + 1 = if (if G 8 ≤ 0 then (0 : Int32) else 1) = 0 then y else y + 1
      have hn : ¬ M 20 g ≤ 0 := fun z => by have := ti_le.mp z; have := ti_lt.mp hpos; omega
      rw [f2, if_neg hn, if_neg (by decide)]
    · rw [if_neg c, if_neg c]
      refine ⟨⟨(lq_up (by decide)).tr ((lq_up (by decide)).tr (lq_up (by decide))), by unfold fX3_set; rw [co_up (by decide), co_up (by decide), co_up (by decide)]; exact gr_fin hG⟩, fun y => ?_⟩
      rw [if_neg f1, if_neg c]
      rfl
end SP
