/-! PURE: the reference's invariant is kept -/
theorem by_nx_and (a b : Nat) : nI a &&& nI b = nI (a &&& b) := by
  apply Int32.toBitVec_inj.1
  show BitVec.ofNat 32 a &&& BitVec.ofNat 32 b = BitVec.ofNat 32 (a &&& b)
  apply BitVec.eq_of_getLsbD_eq
  intro i hi
  simp [hi]
theorem by_nx_or (a b : Nat) : nI a ||| nI b = nI (a ||| b) := by
  apply Int32.toBitVec_inj.1
  show BitVec.ofNat 32 a ||| BitVec.ofNat 32 b = BitVec.ofNat 32 (a ||| b)
  apply BitVec.eq_of_getLsbD_eq
  intro i hi
  simp [hi]
theorem by_of (x : Int32) : x = nI x.toBitVec.toNat := by
  apply Int32.toBitVec_inj.1
  apply BitVec.eq_of_toNat_eq
  show _ = (BitVec.ofNat 32 _).toNat
  rw [BitVec.toNat_ofNat]
  exact (Nat.mod_eq_of_lt x.toBitVec.isLt).symm
theorem by_andle {x y : Int32} {b : Int} (h : inB x 0 b) : inB (x &&& y) 0 b := by
  obtain ⟨k, h1, h2, rfl⟩ := inB_nI h
  rw [by_of y, by_nx_and]
  have := Nat.and_le_left (n := k) (m := y.toBitVec.toNat)
  exact nI_inB (by omega) (by omega)
theorem by_pow : ∀ l, l < 16 → ((1 : Int32) <<< (nI l &&& 31)) = nI (2 ^ l) := by decide +kernel
theorem by_orin {x : Int32} {l : Nat} (h : inB x 0 65535) (hl : l < 16) : inB (x ||| ((1 : Int32) <<< (nI l &&& 31))) 0 65535 := by
  obtain ⟨k, h1, h2, rfl⟩ := inB_nI h
  rw [by_pow l hl, by_nx_or]
  have h3 : k ||| 2 ^ l < 2 ^ 16 := Nat.or_lt_two_pow (by omega) (Nat.pow_lt_pow_right (by decide) hl)
  exact nI_inB (by omega) (by omega)
section OPS
variable {n g : Nat} {M : Nat → Nat → Int32} {a b v tw : Int32}
theorem mk_set (h : MInv n M) (hg : g < n) (hv : v.toInt = 0 ∨ ((M 3 g).toInt ≤ v.toInt ∧ v.toInt ≤ (M 4 g).toInt)) : MInv n (fX3_set M g v) := by
  unfold fX3_set
  refine mi_step h hg ((lc_up (by decide)).tr (lc_up (by decide))) ?_
  rw [co_up (by decide), co_up (by decide)]
  exact cv_set (h.2.2.1 g hg) hv
theorem mk_1 (k : Nat) (hk : 2 ≤ k ∧ k < 22 ∧ k ≠ 10) (h : MInv n M) (hg : g < n) (hc : CV (colM M g) → CV (upd (colM M g) k v)) : MInv n (up2 M k g v) :=
  mi_step h hg (lc_up hk) (by rw [co_up hk]; exact hc (h.2.2.1 g hg))
theorem le34 (h : MInv n M) (hg : g < n) : (M 3 g).toInt ≤ (M 4 g).toInt := (h.2.2.1 g hg).1.2.2.1
theorem mk_within (h : MInv n M) (hg : g < n) : (M 3 g).toInt ≤ (fX3_within M g v).toInt ∧ (fX3_within M g v).toInt ≤ (M 4 g).toInt := within_in (le34 h hg)
theorem lv_pos (h : MInv n M) (hg : g < n) (h0 : ¬ M 2 g = 0) : 0 < (M 2 g).toInt := by
  have h1 : 0 ≤ (M 2 g).toInt := (h.2.2.1 g hg).1.2.2.2.1.1
  have h2 : ¬ (M 2 g).toInt = 0 := fun z => h0 (ti_eq.mpr z)
  omega
theorem tabT_in : ∀ k, k < 16 → k ≠ 0 → inB (tabT k) 1 905 := by
  intro k hk h0
  rcases (show k = 1 ∨ k = 2 ∨ k = 3 ∨ k = 4 ∨ k = 5 ∨ k = 6 ∨ k = 7 ∨ k = 8 ∨ k = 9 ∨ k = 10 ∨ k = 11 ∨ k = 12 ∨ k = 13 ∨ k = 14 ∨ k = 15 by omega) with rfl | rfl | rfl | rfl | rfl | rfl | rfl | rfl | rfl | rfl | rfl | rfl | rfl | rfl | rfl <;> exact ⟨by decide, by decide⟩
theorem mk_goTo (h : MInv n M) (hg : g < n) : MInv n (fX3_goTo M g v) := by
  unfold fX3_goTo
  have hx : ∀ x : Int32, x = (if v = 0 then 0 else fX3_within M g v) → x.toInt = 0 ∨ ((M 3 g).toInt ≤ x.toInt ∧ x.toInt ≤ (M 4 g).toInt) := by
    intro x ex
    by_cases c : v = 0
    · rw [if_pos c] at ex; rw [ex]; exact Or.inl rfl
    · rw [if_neg c] at ex; rw [ex]; exact Or.inr (mk_within h hg)
  generalize hxe : (if v = 0 then (0 : Int32) else fX3_within M g v) = x
  have hx := hx x hxe.symm
  unfold fX3_goTo_j1
  have fade : ¬ M 7 g = 0 → ¬ M 2 g = 0 → MInv n (up2 (up2 (up2 (up2 M 18 g x) 19 g (M 2 g)) 20 g (M 22 (M 7 g).toNatClampNeg)) 21 g 0) := by
    intro h7 h2
    refine mi_step h hg ((lc_up (by decide)).tr ((lc_up (by decide)).tr ((lc_up (by decide)).tr (lc_up (by decide))))) ?_
    rw [co_up (by decide), co_up (by decide), co_up (by decide), co_up (by decide)]
    refine cv_fade (h.2.2.1 g hg) (lv_pos h hg h2) hx ?_
    obtain ⟨k, k1, k2, k3⟩ := inB_nI (h.2.2.1 g hg).2.1.2.2.1
    have k3 : M 7 g = nI k := k3
    rw [k3, nI_clamp k2, (h.2.2.2.2.1 k (by omega)).1]
    exact tabT_in k (by omega) (fun z => h7 (by rw [k3, z]; rfl))
  by_cases c1 : M 7 g = 0
  · rw [if_pos c1]; exact mk_set h hg hx
  · rw [if_neg c1]
    by_cases c2 : M 2 g = 0
    · rw [if_pos c2]; exact mk_set h hg hx
    · rw [if_neg c2]
      by_cases c3 : x = 0
      · rw [if_pos c3]
        by_cases c4 : M 2 g = M 3 g
        · rw [if_pos c4]; exact mk_set h hg hx
        · rw [if_neg c4]; exact fade c1 c2
      · rw [if_neg c3]; exact fade c1 c2
theorem mk_step (h : MInv n M) (hg : g < n) : MInv n (fX3_step M g v) := by
  unfold fX3_step
  split
  · exact h
  · exact mk_set h hg (Or.inr (mk_within h hg))
theorem mk_say (h : MInv n M) : MInv n (fX3_say M v) := by
  unfold fX3_say fX3_say_j1
  exact mi_sc h (by decide)
theorem mk_level (h : MInv n M) (hg : g < n) : MInv n (fX3_level M g b) := by
  unfold fX3_level fX3_level_j9 fX3_level_j11
  have h34 := le34 h hg
  split
  · exact mk_set h hg (Or.inl rfl)
  · split
    · exact mk_step h hg
    · split
      · exact mk_step h hg
      · split
        · exact mk_step h hg
        · split
          · exact mk_step h hg
          · split
            · exact mk_set h hg (Or.inr ⟨h34, Int.le_refl _⟩)
            · split
              · exact mk_set h hg (Or.inr ⟨Int.le_refl _, h34⟩)
              · split
                · by_cases c : M 3 g < M 2 g
                  · rw [if_pos c]
                    have c' := ti_lt.mp c
                    have h1 : 1 ≤ (M 3 g).toInt := (h.2.2.1 g hg).1.1.1
                    have h2 : (M 2 g).toInt ≤ (M 4 g).toInt := (h.2.2.1 g hg).1.2.2.2.2.1
                    have h4 : (M 4 g).toInt ≤ 254 := (h.2.2.1 g hg).1.2.1.2
                    have e1 : (1 : Int32).toInt = 1 := rfl
                    have e : (M 2 g - 1).toInt = (M 2 g).toInt - 1 := by rw [ti_sub (by omega) (by omega), e1]
                    exact mk_set h hg (Or.inr (by omega))
                  · rw [if_neg c]; exact mk_set h hg (Or.inl rfl)
                · by_cases c : M 2 g = 0
                  · rw [if_pos c]; exact mk_set h hg (Or.inr ⟨Int.le_refl _, h34⟩)
                  · rw [if_neg c]; exact mk_set h hg (Or.inr (mk_within h hg))
theorem mk_short (h : MInv n M) (hg : g < n) (hv : inB v 0 255) : MInv n (fX3_setShort M g v) := by
  unfold fX3_setShort
  by_cases c1 : v = 255
  · rw [if_pos c1]; exact mk_1 11 (by decide) h hg (fun q => cv_11 q (Or.inl rfl))
  · rw [if_neg c1]
    by_cases c2 : v - v / 2 * 2 = 1
    · rw [if_pos c2]
      by_cases c3 : 128 ≤ v
      · rw [if_pos c3]; exact h
      · rw [if_neg c3]
        refine mk_1 11 (by decide) h hg (fun q => cv_11 q (Or.inr ?_))
        obtain ⟨k, k1, k2, rfl⟩ := inB_nI hv
        have hk : k < 128 := by
          rcases Nat.lt_or_ge k 128 with z | z
          · exact z
          · exact absurd (nI_le z k2) c3
        have hk0 : k ≠ 0 := fun z => by subst z; exact absurd c2 (by decide)
        obtain ⟨j, rfl⟩ : ∃ j, k = j + 1 := ⟨k - 1, by omega⟩
        rw [nI_pred, show (2 : Int32) = nI 2 from rfl, pk_div (by omega) (by decide) (by decide)]
        exact nI_inB (by omega) (by omega)
    · rw [if_neg c2]; exact h
theorem mk_begin (h : MInv n M) (hg : g < n) : MInv n (fX3_begin M g) := by
  unfold fX3_begin
  refine mi_step h hg ?_ ?_
  · exact (lc_up (by decide)).tr ((lc_up (by decide)).tr ((lc_up (by decide)).tr ((lc_up (by decide)).tr ((lc_up (by decide)).tr ((lc_up (by decide)).tr ((lc_up (by decide)).tr ((lc_up (by decide)).tr (lc_fill.tr ((lc_up (by decide)).tr (lc_up (by decide)))))))))))
  · rw [co_up (by decide), co_up (by decide), co_fill, co_up (by decide), co_up (by decide), co_up (by decide), co_up (by decide), co_up (by decide), co_up (by decide), co_up (by decide), co_up (by decide)]
    obtain ⟨a, ⟨b1, b2, b3, b4, b5, b6⟩, c, d, ⟨e1, e2, e3⟩, f, -⟩ := h.2.2.1 g hg
    have i1 : inB (1 : Int32) 1 254 := ⟨by decide, by decide⟩
    have i2 : inB (254 : Int32) 1 254 := ⟨by decide, by decide⟩
    have i3 : (1 : Int32).toInt ≤ (254 : Int32).toInt := by decide
    have i4 : inB (254 : Int32) 0 254 := ⟨by decide, by decide⟩
    have i7 : inB (254 : Int32) 0 255 := ⟨by decide, by decide⟩
    have i8 : inB (0 : Int32) 0 15 := ⟨by decide, by decide⟩
    have i9 : inB (7 : Int32) 1 15 := ⟨by decide, by decide⟩
    have i10 : inB (0 : Int32) 0 65535 := ⟨by decide, by decide⟩
    have i12 : inB (16777215 : Int32) 0 16777215 := ⟨by decide, by decide⟩
    refine ⟨⟨i1, i2, i3, i4, Int.le_refl _, Or.inr i3⟩, ⟨i7, i7, i8, i9, i10, b6⟩, fun s hs => ?_, d, ⟨i12, e2, e3⟩, f, Or.inl rfl⟩
    rw [upd_ne (by omega), upd_ne (by omega)]
    unfold fillG
    rw [if_pos (by omega)]
    exact ⟨by decide, by decide⟩
end OPS
/-! PURE: the other commands -/
theorem it_ind {α : Type} {P : α → Prop} {c : Prop} [Decidable c] {a b : α} (h1 : c → P a) (h2 : ¬ c → P b) : P (if c then a else b) := by
  by_cases h : c
  · rw [if_pos h]; exact h1 h
  · rw [if_neg h]; exact h2 h
theorem ti_mul {a b : Int32} (h1 : -2147483648 ≤ a.toInt * b.toInt) (h2 : a.toInt * b.toInt ≤ 2147483647) : (a * b).toInt = a.toInt * b.toInt := by
  rw [Int32.toInt_mul, Int.bmod_eq_of_le] <;> omega
theorem ti_div {a b : Int32} (h : 1 ≤ b.toInt) : (a / b).toInt = a.toInt.tdiv b.toInt :=
  Int32.toInt_div_of_ne_right a b (fun z => by rw [z] at h; exact absurd h (by decide))
theorem tk_up {b e t s m : Int} (hs : 1 ≤ s) (ht : 0 ≤ t) (hts : t < s) (hb : b ≤ m) (he : e ≤ m) : b + ((e - b) * t).tdiv s ≤ m := by
  rcases Int.le_total b e with h | h
  · have h0 : 0 ≤ (e - b) * t := Int.mul_nonneg (by omega) ht
    have h1 : (e - b) * t ≤ (e - b) * s := Int.mul_le_mul_of_nonneg_left (by omega) (by omega)
    rw [Int.tdiv_eq_ediv_of_nonneg h0]
    have := Int.ediv_le_of_le_mul (by omega : 0 < s) h1
    omega
  · have h0 : 0 ≤ (b - e) * t := Int.mul_nonneg (by omega) ht
    have e1 : (e - b) * t = -((b - e) * t) := by rw [← Int.neg_mul, Int.neg_sub]
    rw [e1, Int.neg_tdiv]
    have := Int.tdiv_nonneg h0 (by omega : 0 ≤ s)
    omega
theorem tk_ab {x s m : Int} (hs : 1 ≤ s) (h1 : -m ≤ x) (h2 : x ≤ m) (hm : 0 ≤ m) : -m ≤ x.tdiv s ∧ x.tdiv s ≤ m := by
  rcases Int.le_total 0 x with h | h
  · have a := Int.tdiv_nonneg h (by omega : 0 ≤ s)
    have b := Int.tdiv_le_self s h
    omega
  · have e : x = -(-x) := by omega
    have h' : 0 ≤ -x := by omega
    have a := Int.tdiv_nonneg h' (by omega : 0 ≤ s)
    have b := Int.tdiv_le_self s h'
    rw [e, Int.neg_tdiv]
    omega
theorem sc_ix {k g : Nat} (hk : k < 256) (hg : g < 16) : ((16 * nI g) + (nI k - nI k / 16 * 16)).toNatClampNeg = 16 * g + k % 16 := by
  rw [show (16 : Int32) = nI 16 from rfl, pk_rem (by omega) (by decide) (by decide), pk_mul, nI_add, nI_clamp (by omega)]
theorem sc_ix2 {k g lo : Nat} (hk : k < 256) (hg : g < 16) (hlo : lo ≤ k) : (((16 * nI g) + nI k) - nI lo).toNatClampNeg = 16 * g + (k - lo) := by
  rw [show (16 : Int32) = nI 16 from rfl, pk_mul, nI_add, pk_sub (by omega), nI_clamp (by omega)]
  omega
theorem sh_hi {t k : Nat} (ht : t < 16777216) : (nI t - nI t / 65536 * 65536) + (65536 * nI k) = nI (t % 65536 + 65536 * k) := by
  rw [show (65536 : Int32) = nI 65536 from rfl, pk_rem (by omega) (by decide) (by decide), pk_mul, nI_add]
theorem sh_mi {t k : Nat} (ht : t < 16777216) : (((nI t / 65536) * 65536) + (nI t - nI t / 256 * 256)) + (256 * nI k) = nI (t / 65536 * 65536 + t % 256 + 256 * k) := by
  rw [show (65536 : Int32) = nI 65536 from rfl, show (256 : Int32) = nI 256 from rfl, pk_rem (by omega) (by decide) (by decide), pk_div (by omega) (by decide) (by decide), pk_mul, pk_mul, nI_add, nI_add]
theorem sh_lo {t k : Nat} (ht : t < 16777216) : ((nI t / 256) * 256) + nI k = nI (t / 256 * 256 + k) := by
  rw [show (256 : Int32) = nI 256 from rfl, pk_div (by omega) (by decide) (by decide), pk_mul, nI_add]
section OPS2
variable {n g : Nat} {M : Nat → Nat → Int32} {a b v tw x : Int32}
theorem mk_most (h : MInv n M) (hg : g < n) (h1 : (M 3 g).toInt ≤ x.toInt) (h2 : x.toInt ≤ 254) : MInv n (fX3_bring (up2 M 4 g x) g) := by
  have e4 : up2 M 4 g x 4 g = x := by rw [up2_at, upd_eq]
  unfold fX3_bring
  show MInv n (if M 2 g ≤ 0 then up2 M 4 g x else fX3_set (up2 M 4 g x) g (fX3_within (up2 M 4 g x) g (M 2 g)))
  by_cases c : M 2 g ≤ 0
  · rw [if_pos c]
    refine mk_1 4 (by decide) h hg (fun q => cv_most0 q (ti_le.mp c) h1 h2)
  · rw [if_neg c]
    have hw : (M 3 g).toInt ≤ (fX3_within (up2 M 4 g x) g (M 2 g)).toInt ∧ (fX3_within (up2 M 4 g x) g (M 2 g)).toInt ≤ x.toInt := by
      unfold fX3_within
      rw [e4]
      exact within_in h1
    unfold fX3_set
    refine mi_step h hg ((lc_up (by decide)).tr ((lc_up (by decide)).tr (lc_up (by decide)))) ?_
    rw [co_up (by decide), co_up (by decide), co_up (by decide)]
    exact cv_most1 (h.2.2.1 g hg) h1 h2 hw.1 hw.2
theorem mk_least (h : MInv n M) (hg : g < n) (h1 : 1 ≤ x.toInt) (h2 : x.toInt ≤ (M 4 g).toInt) : MInv n (fX3_bring (up2 M 3 g x) g) := by
  have e4 : up2 M 3 g x 3 g = x := by rw [up2_at, upd_eq]
  unfold fX3_bring
  show MInv n (if M 2 g ≤ 0 then up2 M 3 g x else fX3_set (up2 M 3 g x) g (fX3_within (up2 M 3 g x) g (M 2 g)))
  by_cases c : M 2 g ≤ 0
  · rw [if_pos c]
    refine mk_1 3 (by decide) h hg (fun q => cv_least0 q (ti_le.mp c) h1 h2)
  · rw [if_neg c]
    have hw : x.toInt ≤ (fX3_within (up2 M 3 g x) g (M 2 g)).toInt ∧ (fX3_within (up2 M 3 g x) g (M 2 g)).toInt ≤ (M 4 g).toInt := by
      unfold fX3_within
      rw [e4]
      exact within_in h2
    unfold fX3_set
    refine mi_step h hg ((lc_up (by decide)).tr ((lc_up (by decide)).tr (lc_up (by decide)))) ?_
    rw [co_up (by decide), co_up (by decide), co_up (by decide)]
    exact cv_least1 (h.2.2.1 g hg) h1 h2 hw.1 hw.2
theorem dt_in (h : MInv n M) (hg : g < n) : inB (M 13 g) 0 255 := (h.2.2.1 g hg).2.1.2.2.2.2.2
theorem mk_change (h : MInv n M) (hg : g < n) (hb : inB b 0 255) : MInv n (fX3_change M g b) := by
  have hd := dt_in h hg
  have hc := h.2.2.1 g hg
  have h3 : inB (M 3 g) 1 254 := hc.1.1
  have h4 : inB (M 4 g) 1 254 := hc.1.2.1
  have h34 := le34 h hg
  have q1 := h3.1; have q2 := h3.2; have q3 := h4.1; have q4 := h4.2; have d1 := hd.1; have d2 := hd.2
  have t1 : (1 : Int32).toInt = 1 := rfl
  have t2 : (254 : Int32).toInt = 254 := rfl
  have t3 : (15 : Int32).toInt = 15 := rfl
  obtain ⟨k, k1, k2, rfl⟩ := inB_nI hb
  unfold fX3_change fX3_change_j12 fX3_change_j14 fX3_change_j16 fX3_change_j19 fX3_change_j21 fX3_change_j24
  refine it_ind (P := MInv n) (fun _ => ?_) (fun _ => ?_)
  · exact mk_begin h hg
  refine it_ind (P := MInv n) (fun _ => ?_) (fun _ => ?_)
  · exact mk_1 13 (by decide) h hg (fun q => cv_13 q ⟨hc.1.2.2.2.1.1, by have := hc.1.2.2.2.1.2; have e : (M 2 g).toInt ≤ 254 := this; omega⟩)
  refine it_ind (P := MInv n) (fun _ => ?_) (fun _ => ?_)
  · have hw := within_in (lo := M 3 g) (hi := 254) (v := M 13 g) (by omega)
    exact mk_most h hg hw.1 (by omega)
  refine it_ind (P := MInv n) (fun _ => ?_) (fun _ => ?_)
  · have hw := within_in (lo := 1) (hi := M 4 g) (v := M 13 g) (by omega)
    exact mk_least h hg (by omega) hw.2
  refine it_ind (P := MInv n) (fun _ => ?_) (fun _ => ?_)
  · exact mk_1 6 (by decide) h hg (fun q => cv_6 q hd)
  refine it_ind (P := MInv n) (fun _ => ?_) (fun _ => ?_)
  · exact mk_1 5 (by decide) h hg (fun q => cv_5 q hd)
  refine it_ind (P := MInv n) (fun _ => ?_) (fun _ => ?_)
  · refine mk_1 7 (by decide) h hg (fun q => cv_7 q ?_)
    by_cases c : M 13 g ≤ 15
    · rw [if_pos c]
      have := ti_le.mp c
      exact ⟨d1, by omega⟩
    · rw [if_neg c]
      exact ⟨by decide, by decide⟩
  refine it_ind (P := MInv n) (fun _ => ?_) (fun _ => ?_)
  · refine mk_1 8 (by decide) h hg (fun q => cv_8 q ?_)
    have hw := within_in (lo := 1) (hi := 15) (v := M 13 g) (by decide)
    exact ⟨by omega, by omega⟩
  refine it_ind (P := MInv n) (fun _ => ?_) (fun _ => ?_)
  · refine it_ind (P := MInv n) (fun _ => ?_) (fun _ => ?_)
    · refine it_ind (P := MInv n) (fun _ => ?_) (fun _ => ?_)
      · exact mk_short h hg hd
      · exact h
    · refine mk_1 9 (by decide) h hg (fun q => cv_9 q ?_)
      have h9 : inB (M 9 g) 0 65535 := hc.2.1.2.2.2.2.1
      split
      · exact by_andle h9
      · rw [show (16 : Int32) = nI 16 from rfl, pk_rem (by omega) (by decide) (by decide)]
        exact by_orin h9 (Nat.mod_lt _ (by decide))
  · rw [sc_ix (by omega) (mi_16 h hg)]
    have hm : k % 16 < 16 := Nat.mod_lt _ (by decide)
    refine mi_step h hg (lc_sc (by omega)) ?_
    rw [co_sc hm]
    refine cv_sc hc hm ?_
    split
    · exact ⟨by decide, by decide⟩
    · exact hd
theorem mk_ask (h : MInv n M) : MInv n (fX3_ask M g b) := by
  unfold fX3_ask fX3_ask_j3 fX3_ask_j4 fX3_ask_j5
  refine it_ind (P := MInv n) (fun _ => ?_) (fun _ => ?_)
  · refine it_ind (P := MInv n) (fun _ => ?_) (fun _ => ?_)
    · exact mk_say h
    refine it_ind (P := MInv n) (fun _ => ?_) (fun _ => ?_)
    · exact mk_say h
    refine it_ind (P := MInv n) (fun _ => ?_) (fun _ => ?_)
    · refine it_ind (P := MInv n) (fun _ => ?_) (fun _ => ?_)
      · exact h
      · exact mk_say h
    refine it_ind (P := MInv n) (fun _ => ?_) (fun _ => ?_)
    · refine it_ind (P := MInv n) (fun _ => ?_) (fun _ => ?_)
      · exact mk_say h
      · exact h
    (repeat' (refine it_ind (P := MInv n) (fun _ => ?_) (fun _ => ?_))) <;> first | exact h | exact mk_say h
  · exact mk_say h
theorem mk_command (h : MInv n M) (hg : g < n) (hb : inB b 0 255) : MInv n (fX3_command M g b tw) := by
  unfold fX3_command
  split
  · split
    · split
      · exact mk_ask h
      · split
        · exact h
        · exact mk_change h hg hb
    · split
      · exact h
      · exact mk_goTo h hg
  · exact mk_level h hg
theorem mk_init (h : MInv n M) (hg : g < n) : MInv n (up2 (up2 M 16 g 1) 17 g 0) :=
  mk_1 17 (by decide) (mk_1 16 (by decide) h hg (fun q => cv_16 q (Or.inr rfl))) hg (fun q => cv_17 q (Or.inl rfl))
theorem mk_special (h : MInv n M) (hg : g < n) (hb : inB b 0 255) : MInv n (fX3_special M g a b tw) := by
  have hc := h.2.2.1 g hg
  have h12 : inB (M 12 g) 0 16777215 := hc.2.2.2.2.1.1
  have h14 : inB (M 14 g) 0 16777215 := hc.2.2.2.2.1.2.1
  have h15 : inB (M 15 g) 0 16777215 := hc.2.2.2.2.1.2.2
  obtain ⟨t, t1, t2, t3⟩ := inB_nI h14
  unfold fX3_special
  generalize (if (b - b / 2 * 2) = 1 then (if 128 ≤ b then (0 : Int32) else 1) else 0) = x1
  unfold fX3_special_j1
  generalize (if (M 16 g) = 0 then (0 : Int32) else (if (M 17 g) = 0 then (if (M 12 g) = (M 14 g) then 1 else 0) else 0)) = x2
  unfold fX3_special_j2 fX3_special_j15 fX3_special_j23 fX3_special_j37
  refine it_ind (P := MInv n) (fun _ => ?_) (fun _ => ?_)
  · exact mk_1 16 (by decide) h hg (fun q => cv_16 q (Or.inl rfl))
  refine it_ind (P := MInv n) (fun _ => ?_) (fun _ => ?_)
  · exact mk_1 13 (by decide) h hg (fun q => cv_13 q hb)
  refine it_ind (P := MInv n) (fun _ => ?_) (fun _ => ?_)
  · (repeat' (refine it_ind (P := MInv n) (fun _ => ?_) (fun _ => ?_))) <;> first | exact h | exact mk_init h hg
  refine it_ind (P := MInv n) (fun _ => ?_) (fun _ => ?_)
  · refine mk_1 12 (by decide) h hg (fun q => cv_12 q ?_)
    (repeat' split) <;> first | exact h12 | exact h15
  refine it_ind (P := MInv n) (fun _ => ?_) (fun _ => ?_)
  · (repeat' (refine it_ind (P := MInv n) (fun _ => ?_) (fun _ => ?_))) <;> first | exact h | exact mk_say h
  refine it_ind (P := MInv n) (fun _ => ?_) (fun _ => ?_)
  · refine mk_1 17 (by decide) h hg (fun q => cv_17 q ?_)
    (repeat' split) <;> first | exact Or.inl rfl | exact Or.inr rfl
  obtain ⟨k, k1, k2, rfl⟩ := inB_nI hb
  refine it_ind (P := MInv n) (fun _ => ?_) (fun _ => ?_)
  · refine mk_1 14 (by decide) h hg (fun q => cv_14 q ?_)
    rw [t3, sh_hi (by omega)]
    exact nI_inB (by omega) (by omega)
  refine it_ind (P := MInv n) (fun _ => ?_) (fun _ => ?_)
  · refine mk_1 14 (by decide) h hg (fun q => cv_14 q ?_)
    rw [t3, sh_mi (by omega)]
    exact nI_inB (by omega) (by omega)
  refine it_ind (P := MInv n) (fun _ => ?_) (fun _ => ?_)
  · refine mk_1 14 (by decide) h hg (fun q => cv_14 q ?_)
    rw [t3, sh_lo (by omega)]
    exact nI_inB (by omega) (by omega)
  refine it_ind (P := MInv n) (fun _ => ?_) (fun _ => ?_)
  · refine it_ind (P := MInv n) (fun _ => ?_) (fun _ => ?_)
    · exact h
    · exact mk_short h hg hb
  refine it_ind (P := MInv n) (fun _ => ?_) (fun _ => ?_)
  · (repeat' (refine it_ind (P := MInv n) (fun _ => ?_) (fun _ => ?_))) <;> first | exact h | exact mk_say h
  refine it_ind (P := MInv n) (fun _ => ?_) (fun _ => ?_)
  · refine it_ind (P := MInv n) (fun _ => ?_) (fun _ => ?_)
    · exact h
    · exact mk_say h
  · exact h
theorem mi_S (ha : inB a 0 255) (hb : inB b 0 255) (ht : tw = 0 ∨ tw = 1) (h : MInv n M) (hg : g < n) : MInv n (bodyS a b tw M g) := by
  unfold bodyS
  split
  · split
    · exact h
    · split
      · exact mk_command h hg hb
      · split
        · exact mk_1 18 (by decide) h hg cv_end
        · exact mk_goTo h hg
  · exact mk_special h hg hb
theorem mi_F (h : MInv n M) (hg : g < n) : MInv n (bodyF M g) := by
  unfold bodyF
  split
  · exact h
  · exact mk_goTo h hg
theorem lv_ok (h : MInv n M) (hg : g < n) : (M 2 g).toInt = 0 ∨ ((M 3 g).toInt ≤ (M 2 g).toInt ∧ (M 2 g).toInt ≤ (M 4 g).toInt) := by
  have hc := h.2.2.1 g hg
  have h5 : (M 2 g).toInt ≤ (M 4 g).toInt := hc.1.2.2.2.2.1
  have h6 : (M 2 g).toInt = 0 ∨ (M 3 g).toInt ≤ (M 2 g).toInt := hc.1.2.2.2.2.2
  omega
theorem mi_P (h : MInv n M) (hg : g < n) : MInv n (bodyP M g) := by
  unfold bodyP
  have hs : MInv n (fX3_set M g (if (M 5 g) = 255 then (M 2 g) else (if (M 5 g) = 0 then 0 else (fX3_within M g (M 5 g))))) := by
    refine mk_set h hg ?_
    split
    · exact lv_ok h hg
    · split
      · exact Or.inl rfl
      · exact Or.inr (mk_within h hg)
  exact mk_1 17 (by decide) (mk_1 16 (by decide) (mk_1 13 (by decide) (mk_1 14 (by decide) hs hg (fun q => cv_14 q ⟨by decide, by decide⟩)) hg (fun q => cv_13 q ⟨by decide, by decide⟩)) hg (fun q => cv_16 q (Or.inl rfl))) hg (fun q => cv_17 q (Or.inl rfl))
theorem tick_in {k : Int32} (hk : inB k 1 2000) (h : MInv n M) (hg : g < n) (c1 : ¬ M 18 g = -1) (c2 : M 21 g + k < M 20 g) : (0 ≤ (M 21 g + k).toInt ∧ (M 21 g + k).toInt < (M 20 g).toInt) ∧ (tickV k M g).toInt ≤ (M 4 g).toInt := by
  have hc := h.2.2.1 g hg
  rcases hc.2.2.2.2.2.2 with g0 | ⟨g1, g2, g3, g4, g5, g6, g7, g8, g9⟩
  · exact absurd g0 c1
  have g1 : inB (M 18 g) 0 254 := g1
  have g2 : (M 18 g).toInt ≤ (M 4 g).toInt := g2
  have g4 : inB (M 19 g) 1 254 := g4
  have g5 : (M 19 g).toInt ≤ (M 4 g).toInt := g5
  have g6 : inB (M 20 g) 1 905 := g6
  have g7 : 0 ≤ (M 21 g).toInt := g7
  have g8 : (M 21 g).toInt < (M 20 g).toInt := g8
  have p1 := g1.1; have p2 := g1.2; have p3 := g4.1; have p4 := g4.2; have p5 := g6.1; have p6 := g6.2; have p7 := hk.1; have p8 := hk.2
  have e1 : (M 21 g + k).toInt = (M 21 g).toInt + k.toInt := ti_add (by omega) (by omega)
  have c2 := ti_lt.mp c2
  refine ⟨⟨by omega, c2⟩, ?_⟩
  have e2 : (M 18 g - M 19 g).toInt = (M 18 g).toInt - (M 19 g).toInt := ti_sub (by omega) (by omega)
  unfold tickV
  generalize M 21 g + k = t at *
  have b1 : ((M 18 g).toInt - (M 19 g).toInt) * t.toInt ≤ 254 * t.toInt := Int.mul_le_mul_of_nonneg_right (by omega) (by omega)
  have b2 : (-254) * t.toInt ≤ ((M 18 g).toInt - (M 19 g).toInt) * t.toInt := Int.mul_le_mul_of_nonneg_right (by omega) (by omega)
  have e3 : ((M 18 g - M 19 g) * t).toInt = ((M 18 g).toInt - (M 19 g).toInt) * t.toInt := by
    rw [ti_mul] <;> rw [e2] <;> omega
  have e4 : (((M 18 g - M 19 g) * t) / M 20 g).toInt = (((M 18 g).toInt - (M 19 g).toInt) * t.toInt).tdiv (M 20 g).toInt := by rw [ti_div p5, e3]
  have b3 := tk_ab (s := (M 20 g).toInt) (m := 300000) p5 (x := ((M 18 g).toInt - (M 19 g).toInt) * t.toInt) (by omega) (by omega) (by omega)
  have b4 := tk_up (b := (M 19 g).toInt) (e := (M 18 g).toInt) (t := t.toInt) (s := (M 20 g).toInt) (m := (M 4 g).toInt) p5 (by omega) c2 g5 g2
  rw [ti_add (by rw [e4]; omega) (by rw [e4]; omega), e4]
  exact b4
theorem mi_T {k : Int32} (hk : inB k 1 2000) (h : MInv n M) (hg : g < n) : MInv n (bodyT k M g) := by
  unfold bodyT
  have h34 := le34 h hg
  by_cases c1 : M 18 g = -1
  · rw [if_pos c1]; exact h
  · rw [if_neg c1]
    by_cases c2 : M 21 g + k < M 20 g
    · rw [if_pos c2]
      obtain ⟨t1, t2⟩ := tick_in hk h hg c1 c2
      refine mi_step h hg ((lc_up (by decide)).tr (lc_up (by decide))) ?_
      rw [co_up (by decide), co_up (by decide)]
      refine cv_tick (h.2.2.1 g hg) c1 t1.1 t1.2 ?_ ?_
      · show (M 3 g).toInt ≤ _
        by_cases c3 : M 3 g ≤ tickV k M g
        · rw [if_pos c3]; exact ti_le.mp c3
        · rw [if_neg c3]; exact Int.le_refl _
      · show _ ≤ (M 4 g).toInt
        by_cases c3 : M 3 g ≤ tickV k M g
        · rw [if_pos c3]; exact t2
        · rw [if_neg c3]; exact h34
    · rw [if_neg c2]
      unfold fX3_set
      refine mi_step h hg ((lc_up (by decide)).tr ((lc_up (by decide)).tr (lc_up (by decide)))) ?_
      rw [co_up (by decide), co_up (by decide), co_up (by decide)]
      exact cv_fin (h.2.2.1 g hg) c1
end OPS2
