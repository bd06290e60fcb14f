/-! THE RELATION: commands -/
theorem ii0 {k lo hi : Nat} (h : k < lo ∨ hi < k) (hk : k < 2 ^ 31) (hl : lo < 2 ^ 31) (hh : hi < 2 ^ 31) : fX3_isIn (nI k) (nI lo) (nI hi) = 0 := by
  unfold fX3_isIn
  by_cases c : nI k < nI lo
  · rw [if_pos c]
  · rw [if_neg c, if_pos ((nI_ltI hh hk).mpr (by have : ¬ k < lo := fun z => c ((nI_ltI hk hl).mpr z); omega))]
theorem ii1 {k lo hi : Nat} (h : lo ≤ k ∧ k ≤ hi) (hk : k < 2 ^ 31) (hl : lo < 2 ^ 31) (hh : hi < 2 ^ 31) : ¬ fX3_isIn (nI k) (nI lo) (nI hi) = 0 := by
  unfold fX3_isIn
  rw [if_neg (fun z => by have := (nI_ltI hk hl).mp z; omega), if_neg (fun z => by have := (nI_ltI hh hk).mp z; omega)]
  decide
theorem nn {k c : Nat} (h : k ≠ c) (hk : k < 2 ^ 31) (hc : c < 2 ^ 31) : ¬ nI k = nI c := fun z => h ((nI_eq hk hc).mp z)
theorem sr4 {k : Nat} (hk : k < 256) : nI k >>> ((4 : Int32) &&& 31) = nI (k / 16) := pk_shrN (by omega) _ 4 (by decide)
theorem sr8 {k : Nat} (hk : k < 2 ^ 31) : nI k >>> ((8 : Int32) &&& 31) = nI (k / 256) := pk_shrN hk _ 8 (by decide)
theorem sr16 {k : Nat} (hk : k < 2 ^ 31) : nI k >>> ((16 : Int32) &&& 31) = nI (k / 65536) := pk_shrN hk _ 16 (by decide)
theorem an255 {k : Nat} (hk : k < 2 ^ 31) : nI k &&& 255 = nI (k % 256) := pk_andN (by omega) 8 (by decide)
theorem rm16 {k : Nat} (hk : k < 2 ^ 31) : nI k - nI k / 16 * 16 = nI (k % 16) := by
  rw [show (16 : Int32) = nI 16 from rfl, pk_rem hk (by decide) (by decide)]
theorem rm256 {k : Nat} (hk : k < 2 ^ 31) : nI k - nI k / 256 * 256 = nI (k % 256) := by
  rw [show (256 : Int32) = nI 256 from rfl, pk_rem hk (by decide) (by decide)]
theorem dv256 {k : Nat} (hk : k < 2 ^ 31) : nI k / 256 = nI (k / 256) := by
  rw [show (256 : Int32) = nI 256 from rfl, pk_div hk (by decide) (by decide)]
theorem dv65536 {k : Nat} (hk : k < 2 ^ 31) : nI k / 65536 = nI (k / 65536) := by
  rw [show (65536 : Int32) = nI 65536 from rfl, pk_div hk (by decide) (by decide)]
theorem jn_v {h v : Int32} (hv : v ≠ -1) : (if h = -1 then v else (if h = v then v else 256)) = fX2_joined h v := by
  unfold fX2_joined
  rw [if_neg hv]
  by_cases c : h = -1
  · rw [if_pos c, if_pos c, if_neg (fun z => hv (z.trans c))]
  · rw [if_neg c, if_neg c]
    by_cases d : h = v
    · rw [if_pos d, if_pos d.symm, d]
    · rw [if_neg d, if_neg (fun z => d z.symm)]
theorem jn_no {h : Int32} : fX2_joined h (-1) = h := by unfold fX2_joined; rw [if_pos rfl]
/-- a gear may have answered -/
def Hr (g : Nat) (M M' : Nat → Nat → Int32) (p : Int32 × (Nat → Int32)) : Prop := Lc g M M' ∧ M' 29 0 = fX2_joined (M 29 0) p.1 ∧ GRel p.2 (colM M' g)
def An (M M' : Nat → Nat → Int32) (r : Int32) : Prop := (r = -1 ∧ M' = M) ∨ (r ≠ -1 ∧ M' = fX3_say M r)
section SC
variable {n g : Nat} {M M1 M' : Nat → Nat → Int32} {G G' : Nat → Int32} {a b v tw x r : Int32}
theorem hr_s (h : Sm g M M' G') : Hr g M M' (-1, G') := ⟨h.1.lc, by rw [h.1.2 29 (by decide)]; exact jn_no.symm, h.2⟩
theorem hr_a (h : An M M' r) (hG : GRel G (colM M g)) : Hr g M M' (r, G) := by
  rcases h with ⟨rfl, rfl⟩ | ⟨h, rfl⟩
  · exact ⟨Lc.rf, jn_no.symm, hG⟩
  · unfold fX3_say fX3_say_j1
    rw [jn_v h]
    exact ⟨lc_hd, rfl, by rw [colM_sc (by decide)]; exact hG⟩
theorem an_no : An M M (-1) := Or.inl ⟨rfl, rfl⟩
theorem an_say (h : r ≠ -1) : An M (fX3_say M r) r := Or.inr ⟨h, rfl⟩
theorem an_in {B : Int} (h : inB r 0 B) : An M (fX3_say M r) r := an_say (in_ne h)
theorem fd (hI : MInv n M) (hg : g < n) (hG : GRel G (colM M g)) : fX1_isFading G = if M 18 g = -1 then 0 else 1 := by
  unfold fX1_isFading
  rcases hG.2.2.2.2.2 with ⟨h1, h2⟩ | ⟨h1, h2, -⟩
  · rw [h2, if_pos (by decide), if_pos (show M 18 g = -1 from h1)]
  · have h2 : G 8 = M 20 g := h2
    have h1 : ¬ M 18 g = -1 := h1
    rw [h2, if_neg h1]
    rcases (hI.2.2.1 g hg).2.2.2.2.2.2 with q | q
    · exact absurd q h1
    · have q6 : 1 ≤ (M 20 g).toInt := q.2.2.2.2.2.1.1
      have z0 : (0 : Int32).toInt = 0 := rfl
      rw [if_neg (fun z => by have := ti_le.mp z; omega)]
theorem scn {k : Nat} (hG : GRel G (colM M g)) (hk : k < 16) : G (32 + k) = M 10 (16 * g + k) := by
  rw [hG.2.2.2.2.1 k hk]
  unfold colM
  rw [if_pos (by omega), show 32 + k - 32 = k by omega]
theorem scn_in {k : Nat} (hI : MInv n M) (hg : g < n) (hk : k < 16) : inB (M 10 (16 * g + k)) 0 255 := by
  have h := (hI.2.2.1 g hg).2.2.1 k hk
  unfold colM at h
  rw [if_pos (by omega), show 32 + k - 32 = k by omega] at h
  exact h
theorem si_ask {k : Nat} (hk : k < 256) (hI : MInv n M) (hg : g < n) (hG : GRel G (colM M g)) : An M (fX3_ask M g (nI k)) (fX0_answerTo G (nI k)) := by
  have hc := hI.2.2.1 g hg
  have h2 : inB (M 2 g) 0 254 := hc.1.2.2.2.1
  have h3 : inB (M 3 g) 1 254 := hc.1.1
  have h4 : inB (M 4 g) 1 254 := hc.1.2.1
  have h5 : inB (M 5 g) 0 255 := hc.2.1.1
  have h6 : inB (M 6 g) 0 255 := hc.2.1.2.1
  have h7 : inB (M 7 g) 0 15 := hc.2.1.2.2.1
  have h8 : inB (M 8 g) 1 15 := hc.2.1.2.2.2.1
  have h9 : inB (M 9 g) 0 65535 := hc.2.1.2.2.2.2.1
  have h13 : inB (M 13 g) 0 255 := hc.2.1.2.2.2.2.2
  have h12 : inB (M 12 g) 0 16777215 := hc.2.2.2.2.1.1
  have g16 := mi_16 hI hg
  obtain ⟨t9, u1, u2, u3⟩ := inB_nI h9
  obtain ⟨t12, w1, w2, w3⟩ := inB_nI h12
  obtain ⟨t7, x1, x2, x3⟩ := inB_nI h7
  obtain ⟨t8, y1, y2, y3⟩ := inB_nI (x := M 8 g) (b := 15) ⟨by have := h8.1; omega, h8.2⟩
  unfold fX3_ask fX0_answerTo
  refine it_ind (P := fun X => An M X _) (fun cI => ?_) (fun cI => ?_)
  · refine it2 (P := An M) (fun _ => ?_) (fun _ => ?_)
    · unfold fX3_ask_j3 fX3_ask_j4 fX3_ask_j5 fX0_status fX0_status_j1 fX0_status_j2 fX0_status_j3
      rw [fd hI hg hG, show G 0 = M 2 g from hG.1.1, show G 12 = M 11 g from hG.2.1.2.2.2]
      have e : (if (if M 18 g = -1 then (0 : Int32) else 1) = 0 then (0 : Int32) else 16) = if M 18 g = -1 then 0 else 16 := by
        by_cases c : M 18 g = -1
        · rw [if_pos c, if_pos c, if_pos rfl]
        · rw [if_neg c, if_neg c, if_neg (by decide)]
      rw [e]
      refine an_say ?_
      (repeat' split) <;> decide
    refine it2 (P := An M) (fun _ => an_say (by decide)) (fun _ => ?_)
    refine it2 (P := An M) (fun _ => ?_) (fun _ => ?_)
    · unfold fX0_answerTo_j4 fX0_yesIf
      rw [show G 0 = M 2 g from hG.1.1]
      by_cases c : M 2 g ≤ 0
      · rw [if_pos c, if_pos c, if_pos rfl]; exact an_no
      · rw [if_neg c, if_neg c, if_neg (by decide)]; exact an_say (by decide)
    refine it2 (P := An M) (fun _ => ?_) (fun _ => ?_)
    · unfold fX0_answerTo_j7 fX0_yesIf
      rw [show G 12 = M 11 g from hG.2.1.2.2.2]
      by_cases c : M 11 g = 255
      · rw [if_pos c, if_pos c, if_neg (by decide)]; exact an_say (by decide)
      · rw [if_neg c, if_neg c, if_pos rfl]; exact an_no
    refine it2 (P := An M) (fun _ => by rw [show G 15 = M 13 g from hG.2.2.1.2.2.1]; exact an_in h13) (fun _ => ?_)
    refine it2 (P := An M) (fun _ => by rw [show G 0 = M 2 g from hG.1.1]; exact an_in h2) (fun _ => ?_)
    refine it2 (P := An M) (fun _ => by rw [show G 2 = M 4 g from hG.1.2.2.1]; exact an_in (B := 254) ⟨by have := h4.1; omega, h4.2⟩) (fun _ => ?_)
    refine it2 (P := An M) (fun _ => by rw [show G 1 = M 3 g from hG.1.2.1]; exact an_in (B := 254) ⟨by have := h3.1; omega, h3.2⟩) (fun _ => ?_)
    refine it2 (P := An M) (fun _ => by rw [show G 9 = M 5 g from hG.2.1.1]; exact an_in h5) (fun _ => ?_)
    refine it2 (P := An M) (fun _ => by rw [show G 10 = M 6 g from hG.2.1.2.1]; exact an_in h6) (fun _ => ?_)
    refine it2 (P := An M) (fun _ => ?_) (fun _ => ?_)
    · rw [show G 3 = M 7 g from hG.1.2.2.2.1, show G 4 = M 8 g from hG.1.2.2.2.2, x3, y3, show (16 : Int32) = nI 16 from rfl, pk_mul, nI_add]
      exact an_in (B := 255) (nI_inB (by omega) (by omega))
    refine it2 (P := An M) (fun _ => ?_) (fun _ => ?_)
    · rw [show G 11 = M 9 g from hG.2.1.2.2.1, u3, an255 u2, rm256 u2]
      exact an_in (B := 255) (nI_inB (by omega) (by omega))
    refine it2 (P := An M) (fun _ => ?_) (fun _ => ?_)
    · rw [show G 11 = M 9 g from hG.2.1.2.2.1, u3, sr8 u2, an255 (by omega), dv256 u2, Nat.mod_eq_of_lt (by omega)]
      exact an_in (B := 255) (nI_inB (by omega) (by omega))
    refine it2 (P := An M) (fun _ => ?_) (fun _ => ?_)
    · rw [show G 13 = M 12 g from hG.2.2.1.1, w3, sr16 w2, an255 (by omega), dv65536 w2, Nat.mod_eq_of_lt (by omega)]
      exact an_in (B := 255) (nI_inB (by omega) (by omega))
    refine it2 (P := An M) (fun _ => ?_) (fun _ => ?_)
    · rw [show G 13 = M 12 g from hG.2.2.1.1, w3, sr8 w2, an255 (by omega), dv256 w2, rm256 (by omega)]
      exact an_in (B := 255) (nI_inB (by omega) (by omega))
    refine it2 (P := An M) (fun _ => ?_) (fun _ => ?_)
    · rw [show G 13 = M 12 g from hG.2.2.1.1, w3, an255 w2, rm256 w2]
      exact an_in (B := 255) (nI_inB (by omega) (by omega))
    refine sk (P := fun r => An M M r) ?_ an_no
    intro z
    rw [sr4 hk] at z
    have z' : k / 16 = 11 := (nI_eq (by omega) (by decide)).mp z
    exact ii1 (k := k) (lo := 176) (hi := 191) (by omega) (by omega) (by decide) (by decide) cI
  · have hin : 176 ≤ k ∧ k ≤ 191 := by
      rcases Nat.lt_or_ge k 176 with z | z
      · exact absurd (ii0 (k := k) (lo := 176) (hi := 191) (Or.inl z) (by omega) (by decide) (by decide)) cI
      · rcases Nat.lt_or_ge 191 k with z2 | z2
        · exact absurd (ii0 (k := k) (lo := 176) (hi := 191) (Or.inr z2) (by omega) (by decide) (by decide)) cI
        · exact ⟨z, z2⟩
    refine sk (P := An M _) (nn (c := 144) (by omega) (by omega) (by decide)) ?_
    refine sk (P := An M _) (nn (c := 145) (by omega) (by omega) (by decide)) ?_
    refine sk (P := An M _) (nn (c := 147) (by omega) (by omega) (by decide)) ?_
    refine sk (P := An M _) (nn (c := 150) (by omega) (by omega) (by decide)) ?_
    refine sk (P := An M _) (nn (c := 152) (by omega) (by omega) (by decide)) ?_
    refine sk (P := An M _) (nn (c := 160) (by omega) (by omega) (by decide)) ?_
    refine sk (P := An M _) (nn (c := 161) (by omega) (by omega) (by decide)) ?_
    refine sk (P := An M _) (nn (c := 162) (by omega) (by omega) (by decide)) ?_
    refine sk (P := An M _) (nn (c := 163) (by omega) (by omega) (by decide)) ?_
    refine sk (P := An M _) (nn (c := 164) (by omega) (by omega) (by decide)) ?_
    refine sk (P := An M _) (nn (c := 165) (by omega) (by omega) (by decide)) ?_
    refine sk (P := An M _) (nn (c := 192) (by omega) (by omega) (by decide)) ?_
    refine sk (P := An M _) (nn (c := 193) (by omega) (by omega) (by decide)) ?_
    refine sk (P := An M _) (nn (c := 194) (by omega) (by omega) (by decide)) ?_
    refine sk (P := An M _) (nn (c := 195) (by omega) (by omega) (by decide)) ?_
    refine sk (P := An M _) (nn (c := 196) (by omega) (by omega) (by decide)) ?_
    refine sy (P := An M _) (by rw [sr4 hk, show k / 16 = 11 by omega]; rfl) ?_
    rw [an15 hk, nI_clamp (by omega), scn hG (by omega), show (176 : Int32) = nI 176 from rfl, sc_ix2 hk g16 (by omega), show k - 176 = k % 16 by omega]
    exact an_in (scn_in hI hg (by omega))
theorem si_ask0 {k : Nat} (hk : k < 144) : fX3_ask M g (nI k) = M := by
  unfold fX3_ask
  refine sy (P := fun X => X = M) (ii0 (lo := 176) (hi := 191) (by omega) (by omega) (by decide) (by decide)) ?_
  refine sk (P := fun X => X = M) (nn (c := 144) (by omega) (by omega) (by decide)) ?_
  refine sk (P := fun X => X = M) (nn (c := 145) (by omega) (by omega) (by decide)) ?_
  refine sk (P := fun X => X = M) (nn (c := 147) (by omega) (by omega) (by decide)) ?_
  refine sk (P := fun X => X = M) (nn (c := 150) (by omega) (by omega) (by decide)) ?_
  refine sk (P := fun X => X = M) (nn (c := 152) (by omega) (by omega) (by decide)) ?_
  refine sk (P := fun X => X = M) (nn (c := 160) (by omega) (by omega) (by decide)) ?_
  refine sk (P := fun X => X = M) (nn (c := 161) (by omega) (by omega) (by decide)) ?_
  refine sk (P := fun X => X = M) (nn (c := 162) (by omega) (by omega) (by decide)) ?_
  refine sk (P := fun X => X = M) (nn (c := 163) (by omega) (by omega) (by decide)) ?_
  refine sk (P := fun X => X = M) (nn (c := 164) (by omega) (by omega) (by decide)) ?_
  refine sk (P := fun X => X = M) (nn (c := 165) (by omega) (by omega) (by decide)) ?_
  refine sk (P := fun X => X = M) (nn (c := 192) (by omega) (by omega) (by decide)) ?_
  refine sk (P := fun X => X = M) (nn (c := 193) (by omega) (by omega) (by decide)) ?_
  refine sk (P := fun X => X = M) (nn (c := 194) (by omega) (by omega) (by decide)) ?_
  refine sk (P := fun X => X = M) (nn (c := 195) (by omega) (by omega) (by decide)) ?_
  refine sk (P := fun X => X = M) (nn (c := 196) (by omega) (by omega) (by decide)) ?_
  rfl
theorem cn_no {k : Nat} (hk : k < 256) (h : k < 64 ∨ 128 ≤ k) : fX0_configureNumbered G (nI k >>> ((4 : Int32) &&& 31)) x = G := by
  unfold fX0_configureNumbered
  rw [sr4 hk, if_neg (show ¬ nI (k / 16) = 4 from nn (c := 4) (by omega) (by omega) (by decide)), if_neg (show ¬ nI (k / 16) = 5 from nn (c := 5) (by omega) (by omega) (by decide)), if_neg (show ¬ nI (k / 16) = 6 from nn (c := 6) (by omega) (by omega) (by decide)), if_neg (show ¬ nI (k / 16) = 7 from nn (c := 7) (by omega) (by omega) (by decide))]
theorem si_change {k : Nat} (hk : 32 ≤ k ∧ k ≤ 128) (hI : MInv n M) (hg : g < n) (hG : GRel G (colM M g)) : Sm g M (fX3_change M g (nI k)) (fX0_configure G (nI k)) := by
  have hd := dt_in hI hg
  have g16 := mi_16 hI hg
  unfold fX3_change fX3_change_j12 fX3_change_j14 fX3_change_j16 fX3_change_j19 fX3_change_j21 fX3_change_j24 fX0_configure
  rw [show G 15 = M 13 g from hG.2.2.1.2.2.1, show G 0 = M 2 g from hG.1.1]
  refine it2 (P := Sm g M) (fun _ => si_begin hG) (fun _ => ?_)
  refine it2 (P := Sm g M) (fun _ => sm_up 13 (by decide) (gr_15 hG)) (fun _ => ?_)
  refine it2 (P := Sm g M) (fun _ => si_most hI hg hG) (fun _ => ?_)
  refine it2 (P := Sm g M) (fun _ => si_least hI hg hG) (fun _ => ?_)
  refine it2 (P := Sm g M) (fun _ => sm_up 6 (by decide) (gr_10 hG)) (fun _ => ?_)
  refine it2 (P := Sm g M) (fun _ => sm_up 5 (by decide) (gr_9 hG)) (fun _ => ?_)
  refine it2 (P := Sm g M) (fun _ => ?_) (fun _ => ?_)
  · unfold fX1_setFade fmin
    have e : (if (15 : Int32) < M 13 g then 15 else M 13 g) = if M 13 g ≤ 15 then M 13 g else 15 := by
      by_cases c : M 13 g ≤ 15
      · rw [if_pos c, if_neg (fun z => by have := ti_le.mp c; have := ti_lt.mp z; omega)]
      · rw [if_neg c, if_pos (ti_lt.mpr (by have : ¬ (M 13 g).toInt ≤ (15 : Int32).toInt := fun z => c (ti_le.mpr z); omega))]
    rw [e]
    exact sm_up 7 (by decide) (gr_3 hG)
  refine it2 (P := Sm g M) (fun _ => ?_) (fun _ => ?_)
  · unfold fX1_setRate
    rw [mm_eq (by decide)]
    exact sm_up 8 (by decide) (gr_4 hG)
  by_cases c128 : k = 128
  · subst c128
    refine sy (P := Sm g M _) rfl ?_
    refine sy (P := fun X => Sm g M X _) (ii0 (lo := 64) (hi := 95) (by omega) (by omega) (by decide) (by decide)) ?_
    refine sy (P := fun X => Sm g M X _) (ii0 (lo := 96) (hi := 127) (by omega) (by omega) (by decide) (by decide)) ?_
    refine sy (P := fun X => Sm g M X _) rfl ?_
    exact si_short hd hG
  refine sk (P := Sm g M _) (nn (c := 128) c128 (by omega) (by decide)) ?_
  by_cases c64 : k < 64
  · rw [cn_no (by omega) (Or.inl c64)]
    refine sy (P := fun X => Sm g M X _) (ii0 (lo := 64) (hi := 95) (by omega) (by omega) (by decide) (by decide)) ?_
    refine sy (P := fun X => Sm g M X _) (ii0 (lo := 96) (hi := 127) (by omega) (by omega) (by decide) (by decide)) ?_
    refine sk (P := fun X => Sm g M X _) (nn (c := 128) c128 (by omega) (by decide)) ?_
    exact sm_rf hG
  rw [an15 (by omega), sr4 (by omega)]
  unfold fX0_configureNumbered
  rw [show G 15 = M 13 g from hG.2.2.1.2.2.1, show G 11 = M 9 g from hG.2.1.2.2.1]
  have hm : k % 16 < 16 := Nat.mod_lt _ (by decide)
  by_cases c96 : k < 96
  · refine sk (P := fun X => Sm g M X _) (ii1 (lo := 64) (hi := 95) (by omega) (by omega) (by decide) (by decide)) ?_
    rw [sc_ix (by omega) g16, an15 (by omega), nI_clamp (by omega), Nat.mod_mod]
    by_cases c80 : k < 80
    · refine sy (P := Sm g M _) (by rw [show k / 16 = 4 by omega]; rfl) ?_
      rw [if_neg (show ¬ (80 : Int32) ≤ nI k from fun z => by have := (nI_leI (a := 80) (b := k) (by decide) (by omega)).mp z; omega)]
      exact ⟨lq_sc (by omega), by rw [co_sc hm]; exact gr_sc hG hm⟩
    · refine sk (P := Sm g M _) (nn (c := 4) (by omega) (by omega) (by decide)) ?_
      refine sy (P := Sm g M _) (by rw [show k / 16 = 5 by omega]; rfl) ?_
      rw [if_pos (show (80 : Int32) ≤ nI k from (nI_leI (a := 80) (b := k) (by decide) (by omega)).mpr (by omega))]
      exact ⟨lq_sc (by omega), by rw [co_sc hm]; exact gr_sc hG hm⟩
  · refine sy (P := fun X => Sm g M X _) (ii0 (lo := 64) (hi := 95) (by omega) (by omega) (by decide) (by decide)) ?_
    refine sk (P := fun X => Sm g M X _) (ii1 (lo := 96) (hi := 127) (by omega) (by omega) (by decide) (by decide)) ?_
    refine sk (P := Sm g M _) (nn (c := 4) (by omega) (by omega) (by decide)) ?_
    refine sk (P := Sm g M _) (nn (c := 5) (by omega) (by omega) (by decide)) ?_
    rw [rm16 (by omega)]
    by_cases c112 : k < 112
    · refine sy (P := Sm g M _) (by rw [show k / 16 = 6 by omega]; rfl) ?_
      rw [if_neg (show ¬ (112 : Int32) ≤ nI k from fun z => by have := (nI_leI (a := 112) (b := k) (by decide) (by omega)).mp z; omega)]
      exact sm_up 9 (by decide) (gr_11 hG)
    · refine sk (P := Sm g M _) (nn (c := 6) (by omega) (by omega) (by decide)) ?_
      refine sy (P := Sm g M _) (by rw [show k / 16 = 7 by omega]; rfl) ?_
      rw [if_pos (show (112 : Int32) ≤ nI k from (nI_leI (a := 112) (b := k) (by decide) (by omega)).mpr (by omega))]
      exact sm_up 9 (by decide) (gr_11 hG)
theorem le_k {c k : Nat} (h : c ≤ k) (hk : k < 2 ^ 31) : nI c ≤ nI k := nI_le h hk
theorem si_command {k : Nat} (hk : k < 256) (hI : MInv n M) (hg : g < n) (hG : GRel G (colM M g)) : Hr g M (fX3_command M g (nI k) tw) (fX0_hearCommand G (nI k) tw) := by
  have g16 := mi_16 hI hg
  unfold fX3_command fX0_hearCommand
  by_cases c9 : k < 9
  · refine sk (P := fun X => Hr g M X _) (fun z => by have := (nI_leI (a := 9) (b := k) (by decide) (by omega)).mp z; omega) ?_
    refine sy (P := Hr g M _) (nI_lt (b := 144) (by omega) (by decide)) ?_
    refine sk (P := Hr g M _) (fun z => by have := (nI_leI (a := 32) (b := k) (by decide) (by omega)).mp z; omega) ?_
    exact hr_s (si_level c9 hI hg hG)
  refine sy (P := fun X => Hr g M X _) (nI_le (a := 9) (b := k) (by omega) (by omega)) ?_
  by_cases c32 : k < 32
  · refine sy (P := Hr g M _) (nI_lt (b := 144) (by omega) (by decide)) ?_
    refine sk (P := Hr g M _) (fun z => by have := (nI_leI (a := 32) (b := k) (by decide) (by omega)).mp z; omega) ?_
    unfold fX0_light
    rw [if_neg (show ¬ nI k = 0 from nn (c := 0) (by omega) (by omega) (by decide)), if_neg (show ¬ nI k = 1 from nn (c := 1) (by omega) (by omega) (by decide)), if_neg (show ¬ nI k = 2 from nn (c := 2) (by omega) (by omega) (by decide)), if_neg (show ¬ nI k = 3 from nn (c := 3) (by omega) (by omega) (by decide)), if_neg (show ¬ nI k = 4 from nn (c := 4) (by omega) (by omega) (by decide)), if_neg (show ¬ nI k = 5 from nn (c := 5) (by omega) (by omega) (by decide)), if_neg (show ¬ nI k = 6 from nn (c := 6) (by omega) (by omega) (by decide)), if_neg (show ¬ nI k = 7 from nn (c := 7) (by omega) (by omega) (by decide)), if_neg (show ¬ nI k = 8 from nn (c := 8) (by omega) (by omega) (by decide))]
    by_cases c16 : k < 16
    · rw [if_pos (show nI k < 16 from nI_lt (b := 16) c16 (by decide))]
      refine sy (P := fun X => Hr g M X _) (ii0 (lo := 16) (hi := 31) (by omega) (by omega) (by decide) (by decide)) ?_
      refine sy (P := fun X => Hr g M X _) (ii0 (lo := 32) (hi := 128) (by omega) (by omega) (by decide) (by decide)) ?_
      rw [si_ask0 (by omega)]
      exact hr_s (sm_rf hG)
    · rw [if_neg (show ¬ nI k < 16 from nI_nlt (b := 16) (by omega) (by omega))]
      refine sk (P := fun X => Hr g M X _) (ii1 (lo := 16) (hi := 31) (by omega) (by omega) (by decide) (by decide)) ?_
      rw [an15 hk, nI_clamp (by omega), scn hG (by omega), show (((16 * (nI g)) + nI k) - 16).toNatClampNeg = 16 * g + k % 16 from (by rw [show k % 16 = k - 16 by omega]; exact sc_ix2 (lo := 16) hk g16 (by omega))]
      unfold fX0_goToUnlessUnset
      exact hr_s (it2 (P := Sm g M) (fun _ => sm_rf hG) (fun _ => si_goTo hI hg hG))
  refine sy (P := fun X => Hr g M X _) (ii0 (lo := 16) (hi := 31) (by omega) (by omega) (by decide) (by decide)) ?_
  by_cases c129 : k ≤ 128
  · refine sk (P := fun X => Hr g M X _) (ii1 (lo := 32) (hi := 128) (by omega) (by omega) (by decide) (by decide)) ?_
    refine sy (P := Hr g M _) (nI_lt (b := 144) (by omega) (by decide)) ?_
    refine sy (P := Hr g M _) (nI_le (a := 32) (by omega) (by omega)) ?_
    exact it2 (P := Hr g M) (fun _ => hr_s (sm_rf hG)) (fun _ => hr_s (si_change (by omega) hI hg hG))
  refine sy (P := fun X => Hr g M X _) (ii0 (lo := 32) (hi := 128) (by omega) (by omega) (by decide) (by decide)) ?_
  by_cases c144 : k < 144
  · refine sy (P := Hr g M _) (nI_lt (b := 144) c144 (by decide)) ?_
    refine sy (P := Hr g M _) (nI_le (a := 32) (by omega) (by omega)) ?_
    rw [si_ask0 c144]
    have e : fX0_configure G (nI k) = G := by
      unfold fX0_configure
      rw [if_neg (show ¬ nI k = 32 from nn (c := 32) (by omega) (by omega) (by decide)), if_neg (show ¬ nI k = 33 from nn (c := 33) (by omega) (by omega) (by decide)), if_neg (show ¬ nI k = 42 from nn (c := 42) (by omega) (by omega) (by decide)), if_neg (show ¬ nI k = 43 from nn (c := 43) (by omega) (by omega) (by decide)), if_neg (show ¬ nI k = 44 from nn (c := 44) (by omega) (by omega) (by decide)), if_neg (show ¬ nI k = 45 from nn (c := 45) (by omega) (by omega) (by decide)), if_neg (show ¬ nI k = 46 from nn (c := 46) (by omega) (by omega) (by decide)), if_neg (show ¬ nI k = 47 from nn (c := 47) (by omega) (by omega) (by decide)), if_neg (show ¬ nI k = 128 from nn (c := 128) (by omega) (by omega) (by decide)), cn_no hk (Or.inr (by omega))]
    rw [e]
    exact it_ind (P := Hr g M M) (fun _ => hr_s (sm_rf hG)) (fun _ => hr_s (sm_rf hG))
  · refine sk (P := Hr g M _) (nI_nlt (b := 144) (by omega) (by omega)) ?_
    exact hr_a (si_ask hk hI hg hG) hG
end SC
