/-! THE RELATION: the loops over the gears, and the calls -/
section LO
variable {n g : Nat} {T M M' : Nat → Nat → Int32} {G' : Nat → Int32} {a b tw : Int32}
theorem rl_st (h : Rl n T M) (h16 : n ≤ 16) (hg : g < n) (hL : Lc g M M') (hG : GRel G' (colM M' g)) : Rl n (upG T g G') M' := by
  obtain ⟨h1, a1, a2, a3, a4, a5⟩ := h
  have h100 : upG T g G' 100 = T 100 := upG_ne (by omega)
  refine ⟨fun j hj => ?_, ?_, ?_, ?_, ?_, ?_⟩
  · by_cases q : j = g
    · subst q; rw [upG_at]; exact hG
    · rw [upG_ne q, hL.1 j q]; exact h1 j hj
  · rw [h100, hL.2 24 (by decide) (by decide)]; exact a1
  · rw [h100, hL.2 25 (by decide) (by decide)]; exact a2
  · rw [h100, hL.2 27 (by decide) (by decide)]; exact a3
  · rw [h100, hL.2 28 (by decide) (by decide)]; exact a4
  · rw [h100, hL.2 26 (by decide) (by decide)]; exact a5
theorem mi_itF (hI : MInv n M) (i : Nat) (hi : i ≤ n) : MInv n (itM bodyF i M) := mi_it (fun _ _ h hg => mi_F h hg) hI i hi
theorem mi_itP (hI : MInv n M) (i : Nat) (hi : i ≤ n) : MInv n (itM bodyP i M) := mi_it (fun _ _ h hg => mi_P h hg) hI i hi
theorem mi_itT {k : Int32} (hk : inB k 1 2000) (hI : MInv n M) (i : Nat) (hi : i ≤ n) : MInv n (itM (bodyT k) i M) := mi_it (fun _ _ h hg => mi_T hk h hg) hI i hi
theorem mi_itS (ha : inB a 0 255) (hb : inB b 0 255) (ht : tw = 0 ∨ tw = 1) (hI : MInv n M) (i : Nat) (hi : i ≤ n) : MInv n (itM (bodyS a b tw) i M) := mi_it (fun _ _ h hg => mi_S ha hb ht h hg) hI i hi
theorem rl_flIt (h : Rl n T M) (hI : MInv n M) : ∀ i, i ≤ n → Rl n (flIt T i) (itM bodyF i M) := by
  intro i
  induction i with
  | zero => intro _; exact h
  | succ i ih =>
    intro hi
    have h1 := ih (by omega)
    have hs := si_fail (mi_itF hI i (by omega)) (by omega : i < n) (h1.1 i (by omega))
    exact rl_st h1 hI.2.1 (by omega) hs.1.lc hs.2
theorem rl_fail (h : Rl n T M) (hI : MInv n M) : Rl n (fX2_fail n T) (fX3_fail M) ∧ MInv n (fX3_fail M) := by
  unfold fX2_fail fX3_fail
  rw [nOf_eq hI]
  exact ⟨rl_flIt h hI n (Nat.le_refl _), mi_itF hI n (Nat.le_refl _)⟩
theorem rl_pwIt (h : Rl n T M) (hI : MInv n M) : ∀ i, i ≤ n → Rl n (pwIt T i) (itM bodyP i M) := by
  intro i
  induction i with
  | zero => intro _; exact h
  | succ i ih =>
    intro hi
    have h1 := ih (by omega)
    have hs := si_power (h1.1 i (by omega))
    exact rl_st h1 hI.2.1 (by omega) hs.1.lc hs.2
theorem rl_power (h : Rl n T M) (hI : MInv n M) : Rl n (fX2_power n T) (fX3_power M) ∧ MInv n (fX3_power M) := by
  unfold fX2_power fX3_power
  rw [nOf_eq hI]
  exact ⟨rl_pwIt h hI n (Nat.le_refl _), mi_itP hI n (Nat.le_refl _)⟩
theorem rl_tkIt {k : Int32} (hk : inB k 1 2000) (h : Rl n T M) (hI : MInv n M) : ∀ i, i ≤ n → Rl n (tkIt k T i).2 (itM (bodyT k) i M) ∧ (tkIt k T i).1 = tickN k M i := by
  intro i
  induction i with
  | zero => intro _; exact ⟨h, rfl⟩
  | succ i ih =>
    intro hi
    obtain ⟨h1, h2⟩ := ih (by omega)
    have hs := si_tick (k := k) (mi_itT hk hI i (by omega)) (by omega : i < n) (h1.1 i (by omega))
    refine ⟨rl_st h1 hI.2.1 (by omega) hs.1.1.lc hs.1.2, ?_⟩
    show (if (fX1_isFading (fX1_passTicks ((tkIt k T i).2 i) k)) = 0 then (tkIt k T i).1 else (tkIt k T i).1 + 1) = bodyTn k (itM (bodyT k) i M) i (tickN k M i)
    rw [hs.2, h2]
theorem gears_T {j : Nat} {x : Int32} (h16 : n ≤ 16) (hg : g < n) : up2 T 100 j x g = T g := up2_ne (by omega)
theorem rl_tick (h : Rl n T M) (hI : MInv n M) : (fX2_tick n T a).1 = (fX3_tick M a).1 ∧ Rl n (fX2_tick n T a).2 (fX3_tick M a).2 ∧ MInv n (fX3_tick M a).2 := by
  unfold fX2_tick fX3_tick fX3_isIn
  by_cases c1 : a < 1
  · rw [if_pos c1, if_pos c1, if_pos rfl]
    exact ⟨rfl, h, hI⟩
  · rw [if_neg c1, if_neg c1]
    by_cases c2 : a ≤ 2000
    · have c2' := ti_le.mp c2
      have c1' : ¬ a.toInt < (1 : Int32).toInt := fun z => c1 (ti_lt.mpr z)
      have e1 : (1 : Int32).toInt = 1 := rfl
      have e2 : (2000 : Int32).toInt = 2000 := rfl
      have hk : inB a 1 2000 := ⟨by omega, by omega⟩
      have n2 : ¬ (2000 : Int32) < a := fun z => by have := ti_lt.mp z; omega
      rw [if_pos c2, if_neg n2, if_neg (by decide), nOf_eq hI]
      have hI' : MInv n (up2 M 26 0 0) := mi_may hI (Or.inl rfl)
      have h' : Rl n (up2 T 100 5 0) (up2 M 26 0 0) := by
        obtain ⟨h1, a1, a2, a3, a4, a5⟩ := h
        exact ⟨fun j hj => by rw [gears_T hI.2.1 hj, colM_sc (by decide)]; exact h1 j hj, a1, a2, a3, a4, rfl⟩
      obtain ⟨q1, q2⟩ := rl_tkIt hk h' hI' n (Nat.le_refl _)
      exact ⟨q2, q1, mi_itT hk hI' n (Nat.le_refl _)⟩
    · have c2' : ¬ a.toInt ≤ (2000 : Int32).toInt := fun z => c2 (ti_le.mpr z)
      rw [if_neg c2, if_pos (show (2000 : Int32) < a from ti_lt.mpr (by omega)), if_pos rfl]
      exact ⟨rfl, h, hI⟩
theorem cf_eq (h : Rl n T M) : fX2_countFrame n T a b = (twM M a b, (up2 (up2 (up2 (up2 T 100 1 ((T 100 1) + 1)) 100 3 a) 100 4 b) 100 5 (if twM M a b = 0 then 1 else 0))) := by
  obtain ⟨h1, a1, a2, a3, a4, a5⟩ := h
  have e : (if ((up2 T 100 1 ((T 100 1) + 1)) 100 5) = 0 then 0 else (if a = ((up2 T 100 1 ((T 100 1) + 1)) 100 3) then (if b = ((up2 T 100 1 ((T 100 1) + 1)) 100 4) then 1 else 0) else 0)) = twM M a b := by
    show (if T 100 5 = 0 then 0 else (if a = T 100 3 then (if b = T 100 4 then 1 else 0) else 0)) = twM M a b
    unfold twM
    rw [a3, a4, a5]
    refine it2 (P := Eq) (fun _ => rfl) (fun _ => ?_)
    by_cases c : M 27 0 = a
    · rw [if_pos c, if_pos c.symm]
      by_cases d : M 28 0 = b
      · rw [if_pos d, if_pos d.symm]
      · rw [if_neg d, if_neg (fun z => d z.symm)]
    · rw [if_neg c, if_neg (fun z => c z.symm)]
  unfold fX2_countFrame fX2_countFrame_j1 fX2_countFrame_j2
  rw [e]
theorem rl_cf (h : Rl n T M) (h16 : n ≤ 16) : Rl n (up2 (up2 (up2 (up2 T 100 1 ((T 100 1) + 1)) 100 3 a) 100 4 b) 100 5 (if tw = 0 then 1 else 0)) (sendM1 M a b tw) := by
  obtain ⟨h1, a1, a2, a3, a4, a5⟩ := h
  refine ⟨fun j hj => ?_, ?_, a2, rfl, rfl, rfl⟩
  · rw [gears_T h16 hj, gears_T h16 hj, gears_T h16 hj, gears_T h16 hj]
    unfold sendM1
    rw [colM_sc (by decide), colM_sc (by decide), colM_sc (by decide), colM_sc (by decide), colM_sc (by decide)]
    exact h1 j hj
  · show T 100 1 + 1 = M 24 0 + 1
    rw [a1]
theorem rl_spIt {ka kb : Nat} (ha : 160 ≤ ka ∧ ka ≤ 253) (hb : kb < 256) (ht : tw = 0 ∨ tw = 1) (h : Rl n T M) (hI : MInv n M) (h29 : M 29 0 = -1) : ∀ i, i ≤ n → Rl n (spIt (nI ka) (nI kb) tw T i).2 (itM (bodyS (nI ka) (nI kb) tw) i M) ∧ (spIt (nI ka) (nI kb) tw T i).1 = itM (bodyS (nI ka) (nI kb) tw) i M 29 0 := by
  intro i
  induction i with
  | zero => intro _; exact ⟨h, h29.symm⟩
  | succ i ih =>
    intro hi
    obtain ⟨h1, h2⟩ := ih (by omega)
    have hM := mi_itS (a := nI ka) (b := nI kb) (nI_inB (by omega) (by omega)) (nI_inB (by omega) (by omega)) ht hI i (by omega)
    have hs := si_special (a := nI ka) (tw := tw) hb hM (by omega : i < n) (h1.1 i (by omega))
    have e : itM (bodyS (nI ka) (nI kb) tw) (i + 1) M = fX3_special (itM (bodyS (nI ka) (nI kb) tw) i M) i (nI ka) (nI kb) tw := by
      show bodyS (nI ka) (nI kb) tw (itM (bodyS (nI ka) (nI kb) tw) i M) i = _
      unfold bodyS
      exact if_neg (ii1 (lo := 160) (hi := 253) ha (by omega) (by decide) (by decide))
    rw [e]
    refine ⟨rl_st h1 hI.2.1 (by omega) hs.1 hs.2.2, ?_⟩
    rw [hs.2.1, ← h2]
    rfl
theorem rl_sp {ka kb : Nat} (ha : 160 ≤ ka ∧ ka ≤ 253) (hb : kb < 256) (h : Rl n T M) (hI : MInv n M) : (fX2_sendSpecial n T (nI ka) (nI kb)).1 = (fX3_send M (nI ka) (nI kb)).1 ∧ Rl n (fX2_sendSpecial n T (nI ka) (nI kb)).2 (fX3_send M (nI ka) (nI kb)).2 := by
  rw [fX2_sendSpecial_eq, fX3_send_eq]
  unfold ssp0 snd0 sendM2
  rw [if_neg (show ¬ fX3_isIn (nI ka) 0 255 = 0 from ii1 (lo := 0) (hi := 255) (by omega) (by omega) (by decide) (by decide)), if_neg (show ¬ fX3_isIn (nI kb) 0 255 = 0 from ii1 (lo := 0) (hi := 255) (by omega) (by omega) (by decide) (by decide)), nOf_eq hI, cf_eq h]
  obtain ⟨q1, q2⟩ := rl_spIt (tw := twM M (nI ka) (nI kb)) ha hb twM_b (rl_cf (a := nI ka) (b := nI kb) h hI.2.1) (mi_send1 hI) rfl n (Nat.le_refl _)
  exact ⟨q2, q1⟩
theorem rl_adIt {ka kb : Nat} (ha : ka < 160 ∨ 253 < ka) (ha2 : ka < 256) (hb : kb < 256) (ht : tw = 0 ∨ tw = 1) (h : Rl n T M) (hI : MInv n M) (h29 : M 29 0 = -1) : ∀ i, i ≤ n → Rl n (adIt (nI ka) (nI kb) tw (if (nI ka &&& 1) = 0 then 1 else 0) T i).2 (itM (bodyS (nI ka) (nI kb) tw) i M) ∧ (adIt (nI ka) (nI kb) tw (if (nI ka &&& 1) = 0 then 1 else 0) T i).1 = itM (bodyS (nI ka) (nI kb) tw) i M 29 0 := by
  intro i
  induction i with
  | zero => intro _; exact ⟨h, h29.symm⟩
  | succ i ih =>
    intro hi
    obtain ⟨h1, h2⟩ := ih (by omega)
    have hM := mi_itS (a := nI ka) (b := nI kb) (nI_inB (by omega) (by omega)) (nI_inB (by omega) (by omega)) ht hI i (by omega)
    have hG := h1.1 i (by omega)
    have hig : i < n := by omega
    show Rl n (adSt (nI ka) (nI kb) tw (if (nI ka &&& 1) = 0 then 1 else 0) (adIt (nI ka) (nI kb) tw (if (nI ka &&& 1) = 0 then 1 else 0) T i) i).2 (bodyS (nI ka) (nI kb) tw (itM (bodyS (nI ka) (nI kb) tw) i M) i) ∧ (adSt (nI ka) (nI kb) tw (if (nI ka &&& 1) = 0 then 1 else 0) (adIt (nI ka) (nI kb) tw (if (nI ka &&& 1) = 0 then 1 else 0) T i) i).1 = (bodyS (nI ka) (nI kb) tw (itM (bodyS (nI ka) (nI kb) tw) i M) i) 29 0
    generalize adIt (nI ka) (nI kb) tw (if (nI ka &&& 1) = 0 then 1 else 0) T i = p at h1 h2 hG ⊢
    generalize itM (bodyS (nI ka) (nI kb) tw) i M = N at h1 h2 hG hM ⊢
    unfold adSt bodyS
    rw [if_pos (show fX3_isIn (nI ka) 160 253 = 0 from ii0 (lo := 160) (hi := 253) ha (by omega) (by decide) (by decide)), im_eq hG]
    by_cases c : fX0_isMeantBy (p.2 i) (nI ka) = 0
    · rw [if_pos c, if_pos c]
      exact ⟨h1, h2⟩
    · rw [if_neg c, if_neg c]
      have e1 : nI ka &&& 1 = nI (ka % 2) := pk_andN (by omega) 1 (by decide)
      rw [← odd_eq ha2, e1]
      by_cases d : ka % 2 = 0
      · rw [d, if_pos (show nI 0 = 0 from rfl), if_neg (by decide), if_neg (by decide)]
        have hs := si_lev (b := nI kb) hM hig hG
        refine ⟨rl_st h1 hI.2.1 hig hs.1.lc hs.2, ?_⟩
        rw [hs.1.2 29 (by decide)]
        exact h2
      · rw [show ka % 2 = 1 by omega, if_neg (show ¬ nI 1 = 0 by decide), if_pos rfl, if_pos (show nI 1 = 1 from rfl)]
        have hs := si_command (tw := tw) hb hM hig hG
        refine ⟨rl_st h1 hI.2.1 hig hs.1 hs.2.2, ?_⟩
        rw [hs.2.1, ← h2]
theorem rl_ad {ka kb : Nat} (ha : ka < 160 ∨ 253 < ka) (ha2 : ka < 256) (hb : kb < 256) (h : Rl n T M) (hI : MInv n M) : (fX2_sendAddressed n T (nI ka) (nI kb)).1 = (fX3_send M (nI ka) (nI kb)).1 ∧ Rl n (fX2_sendAddressed n T (nI ka) (nI kb)).2 (fX3_send M (nI ka) (nI kb)).2 := by
  rw [fX2_sendAddressed_eq, fX3_send_eq]
  unfold sad0 snd0 sendM2
  rw [if_neg (show ¬ fX3_isIn (nI ka) 0 255 = 0 from ii1 (lo := 0) (hi := 255) (by omega) (by omega) (by decide) (by decide)), if_neg (show ¬ fX3_isIn (nI kb) 0 255 = 0 from ii1 (lo := 0) (hi := 255) (by omega) (by omega) (by decide) (by decide)), nOf_eq hI, cf_eq h]
  obtain ⟨q1, q2⟩ := rl_adIt (tw := twM M (nI ka) (nI kb)) ha ha2 hb twM_b (rl_cf (a := nI ka) (b := nI kb) h hI.2.1) (mi_send1 hI) rfl n (Nat.le_refl _)
  exact ⟨q2, q1⟩
theorem by_in (a : Int32) : (fX2_isByte a = 0 ∧ fX3_isIn a 0 255 = 0) ∨ (¬ fX2_isByte a = 0 ∧ ∃ k, k < 256 ∧ a = nI k) := by
  unfold fX2_isByte fX3_isIn
  by_cases c1 : a < 0
  · exact Or.inl ⟨if_pos c1, if_pos c1⟩
  · rw [if_neg c1]
    by_cases c2 : (255 : Int32) < a
    · exact Or.inl ⟨if_pos c2, if_pos c2⟩
    · refine Or.inr ⟨by rw [if_neg c2]; decide, ?_⟩
      obtain ⟨k, hk, rfl⟩ := nI_of c1
      exact ⟨k, by rcases Nat.lt_or_ge k 256 with z | z; exact z; exact absurd (nI_lt (a := 255) (b := k) (by omega) hk) c2, rfl⟩
theorem rl_send (h : Rl n T M) (hI : MInv n M) : (fX2_send n T a b).1 = (fX3_send M a b).1 ∧ Rl n (fX2_send n T a b).2 (fX3_send M a b).2 := by
  unfold fX2_send
  rcases by_in a with ⟨p1, p2⟩ | ⟨p1, ka, ha, rfl⟩
  · rw [if_pos p1, fX3_send_eq]
    unfold snd0
    rw [if_pos p2]
    exact ⟨rfl, h⟩
  · rw [if_neg p1]
    rcases by_in b with ⟨r1, r2⟩ | ⟨r1, kb, hb, rfl⟩
    · rw [if_pos r1, fX3_send_eq]
      unfold snd0
      rw [r2, if_pos rfl]
      by_cases c : fX3_isIn (nI ka) 0 255 = 0
      · rw [if_pos c]; exact ⟨rfl, h⟩
      · rw [if_neg c]; exact ⟨rfl, h⟩
    · rw [if_neg r1]
      unfold fX2_send_j3
      by_cases c1 : ka < 160
      · rw [if_pos (show nI ka < 160 from nI_lt (b := 160) c1 (by decide)), if_pos rfl]
        exact rl_ad (Or.inl c1) ha hb h hI
      · rw [if_neg (show ¬ nI ka < 160 from nI_nlt (b := 160) (by omega) (by omega))]
        by_cases c2 : 254 ≤ ka
        · rw [if_pos (show 254 ≤ nI ka from nI_le (a := 254) c2 (by omega)), if_pos rfl]
          exact rl_ad (Or.inr (by omega)) ha hb h hI
        · rw [if_neg (show ¬ 254 ≤ nI ka from fun z => c2 ((nI_leI (a := 254) (by decide) (by omega)).mp z)), if_neg (by decide)]
          exact rl_sp (by omega) hb h hI
end LO
