theorem jx {p : Program} {l : Launch} {e : Env} {R : Room} {s : State} {m : MethodId} {args : Array Value} {below : List Frame} {meth : Method} {c : Code} {H : Heap} {locs : List Loc} {cells slots : Nat} {Q : State → Prop} {pc : Nat} {ls : Array Slot} {st rest : List Value} (J : Nat) (Φ : Heap → List Loc → Array Slot → Prop) (K : ∀ (H1 : Heap) (locs1 : List Loc) (ls1 : Array Slot), Φ H1 locs1 ls1 → W p l e R s m args below meth c H1 locs1 cells slots Q (F0 m J ls1 rest))
    (k : (∀ (H1 : Heap) (locs1 : List Loc) (ls1 : Array Slot), Φ H1 locs1 ls1 → W p l e R s m args below meth c H1 locs1 cells slots Q (F0 m J ls1 rest)) → W p l e R s m args below meth c H locs cells slots Q (F0 m pc ls st)) : W p l e R s m args below meth c H locs cells slots Q (F0 m pc ls st) := k K
/-- how many gears the state has -/
def nOf (M : Nat → Nat → Int32) : Nat := (M 1 0).toNatClampNeg
theorem nOf_eq {n : Nat} {M : Nat → Nat → Int32} (h : MInv n M) : nOf M = n := by
  unfold nOf
  rw [h.1, nI_clamp (by have := h.2.1; omega)]
def fX3_fail (M : Nat → Nat → Int32) : Nat → Nat → Int32 := itM bodyF (nOf M) M
def fX3_power (M : Nat → Nat → Int32) : Nat → Nat → Int32 := itM bodyP (nOf M) M
theorem mi_sp {n g : Nat} {M : Nat → Nat → Int32} (h : MInv n M) (hg : g < n) (hc : ¬ M 18 g = (-1)) : ¬ M 20 g = 0 := by
  rcases (h.2.2.1 g hg).2.2.2.2.2.2 with h1 | h1
  · exact absurd h1 hc
  · intro z
    have h2 : inB (M 20 g) 1 905 := h1.2.2.2.2.2.1
    rw [z] at h2
    exact absurd h2.1 (by decide)
def twM (M : Nat → Nat → Int32) (a b : Int32) : Int32 := (if (M 26 0) = 0 then 0 else (if (M 27 0) = a then (if (M 28 0) = b then 1 else 0) else 0))
theorem twM_b {M : Nat → Nat → Int32} {a b : Int32} : twM M a b = 0 ∨ twM M a b = 1 := by
  unfold twM
  (repeat' split) <;> first | exact Or.inl rfl | exact Or.inr rfl
def sendM1 (M : Nat → Nat → Int32) (a b tw : Int32) : Nat → Nat → Int32 := (up2 (up2 (up2 (up2 (up2 M 26 0 (if tw = 0 then 1 else 0)) 27 0 a) 28 0 b) 24 0 ((M 24 0) + 1)) 29 0 (-1))
def sendM2 (M : Nat → Nat → Int32) (a b : Int32) : Nat → Nat → Int32 := itM (bodyS a b (twM M a b)) (nOf M) (sendM1 M a b (twM M a b))
def snd0 (M : Nat → Nat → Int32) (a b : Int32) : Int32 × (Nat → Nat → Int32) := if (fX3_isIn a 0 255) = 0 then ((-2), M) else (if (fX3_isIn b 0 255) = 0 then ((-2), M) else (sendM2 M a b 29 0, sendM2 M a b))
noncomputable def fX3_send : (Nat → Nat → Int32) → Int32 → Int32 → Int32 × (Nat → Nat → Int32) := Classical.choose (p := fun f => f = snd0) ⟨snd0, rfl⟩
theorem fX3_send_eq : fX3_send = snd0 := Classical.choose_spec (p := fun f => f = snd0) ⟨snd0, rfl⟩
theorem mi_send1 {n : Nat} {M : Nat → Nat → Int32} {a b tw : Int32} (h : MInv n M) : MInv n (sendM1 M a b tw) :=
  mi_sc (mi_sc (mi_sc (mi_sc (mi_may h (by by_cases c : tw = 0 <;> simp [c])) (by decide)) (by decide)) (by decide)) (by decide)
theorem mi_send {n : Nat} {M : Nat → Nat → Int32} {a b : Int32} (h : MInv n M) : MInv n (fX3_send M a b).2 := by
  rw [fX3_send_eq]
  unfold snd0
  by_cases c1 : fX3_isIn a 0 255 = 0
  · rw [if_pos c1]; exact h
  · rw [if_neg c1]
    by_cases c2 : fX3_isIn b 0 255 = 0
    · rw [if_pos c2]; exact h
    · rw [if_neg c2]
      show MInv n (sendM2 M a b)
      unfold sendM2
      exact mi_it (fun M g h hg => mi_S (isIn_inB c1) (isIn_inB c2) twM_b h hg) (mi_send1 h) _ (by rw [nOf_eq h]; exact Nat.le_refl _)
set_option maxRecDepth 100000 in
set_option maxHeartbeats 4000000 in
theorem kX3_fail (l : Launch) (Z : Zt) (ws : va_W) (q : Nat → Nat) (M : Nat → Nat → Int32) (hF : FI ws 23 q)  {n : Nat} (hI : MInv n M) : Ct l Z yX3_fail cX3_fail 2 none 2 45 0 0 (mw Z ws q M) [.ref (q 0)] (fun r w => r = none ∧ w = mw Z ws q (fX3_fail M)) := by
  refine Ct.start (by decide) (Nat.le_of_ble_eq_true rfl) ?_
  intro p e s m below meth c S hr hlk hnm hA hW hS ls hl
  replace S : CallFix p m c cX3_fail 2 s _ TB RX3 := S
  replace hl : lv_has ls 2 [(0, .ref (q 0))] := hl
  have hn16 := hI.2.1
  refine lv_iconst (v := 0) S.1 S.2.1 dX3_fail_0 (by decide) ?_
  refine lv_istore_n (lv' := [(1, .int 0), (0, .ref (q 0))]) S.1 S.2.1 dX3_fail_1 rfl hl (by decide) rfl (fun ls hl => ?_)
  have hMI : MInv n M := hI
  have hIt : ∀ i, i ≤ n → MInv n (itM (bodyF) i M) := mi_it (fun M g h hg => mi_F h hg) hMI
  refine w_loop (fun d H1 locs1 ls1 => ∃ i, i + d = n ∧ Wd Z (mw Z ws q (itM (bodyF) i M)) H1 ∧ va_S (zA Z) s.heap H1 locs1 ∧ lv_has ls1 2 [(1, .int (nI i)), (0, .ref (q 0))]) ?_ n ⟨0, by omega, hW, hS, lv_sub hl [0, 1] rfl⟩
  clear hW hS hl
  rintro d H locs ls ⟨i, hd, hW, hS, hl⟩ ih
  have hMi := hIt i (by omega)
  refine lv_iload_n S.1 S.2.1 dX3_fail_2 rfl (lv_at hl 0 rfl) ?_
  refine lv_aload_n S.1 S.2.1 dX3_fail_3 rfl (lv_at hl 1 rfl) ?_
  refine m_get (x := nI n) S hA hF hW 1 (by decide) (by decide) tf_X3_82 hMi.1 dX3_fail_4 ?_
  refine lv_icmp_ge (tgt := 39) S.1 S.2.1 dX3_fail_7 (by decide) (fun cL => ?_) (fun cL => ?_)
  · have e : i = n := by
      rcases Nat.lt_or_ge i n with h | h
      · exact absurd cL (nI_ge h (by omega))
      · omega
    subst e
    exact r_vret S hr hlk hW hS ⟨rfl, by unfold fX3_fail; rw [nOf_eq hI]⟩ dX3_fail_39
  · have hi : i < n := by
      rcases Nat.lt_or_ge i n with h | h
      · exact h
      · exact absurd (nI_le h (by omega)) cL
    have hg : i < 16 := by omega
    have hfa := mi_fa hMi hi
    have hra := mi_ra hMi hi
    refine jx (rest := []) 33 (fun H1 locs1 ls1 => Wd Z (mw Z ws q (itM (bodyF) (i + 1) M)) H1 ∧ va_S (zA Z) s.heap H1 locs1 ∧ lv_has ls1 2 [(1, .int (nI i)), (0, .ref (q 0))]) (fun H locs ls ⟨hW, hS, hl⟩ => ?_) (fun K => ?_)
    · refine lv_iinc (v := nI (i + 1)) (lv' := [(1, .int (nI (i + 1))), (0, .ref (q 0))]) S.1 S.2.1 dX3_fail_33 hl (k := 0) rfl (nI_1 i) (by decide) rfl (fun ls hl => ?_)
      refine lv_goto (tgt := 2) S.1 S.2.1 dX3_fail_36 (by decide) ?_
      exact ih (d - 1) H locs ls (by omega) ⟨i + 1, by omega, hW, hS, hl⟩
    · change ∀ (H1 : Heap) (locs1 : List Loc) (ls1 : Array Slot), Wd Z (mw Z ws q (bodyF (itM (bodyF) i M) i)) H1 ∧ _ → _ at K
      generalize hMe : itM (bodyF) i M = M at hMi hW hfa hra K
      clear hMe
      obtain ⟨g, rfl⟩ : ∃ g, g = i := ⟨_, rfl⟩
      refine lv_aload_n S.1 S.2.1 dX3_fail_10 rfl (lv_at hl 1 rfl) ?_
      refine m_getA S hA hF hW 5 (by decide) (by decide) tf_X3_22 dX3_fail_11 ?_
      refine lv_iload_n S.1 S.2.1 dX3_fail_14 rfl (lv_at hl 0 rfl) ?_
      refine m_ald (x := (M 6 g)) S hA hF hW 5 (by decide) (by decide) rfl hg rfl dX3_fail_15 ?_
      refine lv_sipush (v := 255) S.1 S.2.1 dX3_fail_16 (by decide) ?_
      refine lv_icmp_eq (tgt := 33) S.1 S.2.1 dX3_fail_19 (by decide) (fun c1 => ?_) (fun c1 => ?_)
      · skip
        exact K _ _ _ ⟨by rw [show (bodyF M g) = M from (by unfold bodyF; rw [if_pos c1])]; exact hW, hS, lv_sub hl [0, 1] rfl⟩
      · skip
        refine lv_aload_n S.1 S.2.1 dX3_fail_22 rfl (lv_at hl 1 rfl) ?_
        refine lv_iload_n S.1 S.2.1 dX3_fail_23 rfl (lv_at hl 0 rfl) ?_
        refine lv_aload_n S.1 S.2.1 dX3_fail_24 rfl (lv_at hl 1 rfl) ?_
        refine m_getA S hA hF hW 5 (by decide) (by decide) tf_X3_22 dX3_fail_25 ?_
        refine lv_iload_n S.1 S.2.1 dX3_fail_28 rfl (lv_at hl 0 rfl) ?_
        refine m_ald (x := (M 6 g)) S hA hF hW 5 (by decide) (by decide) rfl hg rfl dX3_fail_29 ?_
        refine c_V S hA hW hS (kX3_goTo l Z ws q M hF g hg (M 6 g) hfa) ok_X3_goTo tm_X3_111 tn_X3_goTo tl_X3_goTo (fo_mem hF 0 (by decide)) rfl rfl ⟨Nat.le_of_ble_eq_true rfl, Nat.le_of_ble_eq_true rfl⟩ rfl hl.1 rfl (Nat.le_of_ble_eq_true rfl) dX3_fail_30 ⟨Nat.le_of_ble_eq_true rfl, Nat.le_of_ble_eq_true rfl⟩ (kk_v fun H locs hW hS => ?_)
        exact K _ _ _ ⟨by rw [show (bodyF M g) = (fX3_goTo M g (M 6 g)) from (by unfold bodyF; rw [if_neg c1])]; exact hW, hS, lv_sub hl [0, 1] rfl⟩
set_option maxRecDepth 100000 in
set_option maxHeartbeats 4000000 in
theorem kX3_power (l : Launch) (Z : Zt) (ws : va_W) (q : Nat → Nat) (M : Nat → Nat → Int32) (hF : FI ws 23 q)  {n : Nat} (hI : MInv n M) : Ct l Z yX3_power cX3_power 3 none 1 22 0 0 (mw Z ws q M) [.ref (q 0)] (fun r w => r = none ∧ w = mw Z ws q (fX3_power M)) := by
  refine Ct.start (by decide) (Nat.le_of_ble_eq_true rfl) ?_
  intro p e s m below meth c S hr hlk hnm hA hW hS ls hl
  replace S : CallFix p m c cX3_power 3 s _ TB RX3 := S
  replace hl : lv_has ls 3 [(0, .ref (q 0))] := hl
  have hn16 := hI.2.1
  refine lv_iconst (v := 0) S.1 S.2.1 dX3_power_0 (by decide) ?_
  refine lv_istore_n (lv' := [(1, .int 0), (0, .ref (q 0))]) S.1 S.2.1 dX3_power_1 rfl hl (by decide) rfl (fun ls hl => ?_)
  have hMI : MInv n M := hI
  have hIt : ∀ i, i ≤ n → MInv n (itM (bodyP) i M) := mi_it (fun M g h hg => mi_P h hg) hMI
  refine w_loop (fun d H1 locs1 ls1 => ∃ i, i + d = n ∧ Wd Z (mw Z ws q (itM (bodyP) i M)) H1 ∧ va_S (zA Z) s.heap H1 locs1 ∧ lv_has ls1 3 [(1, .int (nI i)), (0, .ref (q 0))]) ?_ n ⟨0, by omega, hW, hS, lv_sub hl [0, 1] rfl⟩
  clear hW hS hl
  rintro d H locs ls ⟨i, hd, hW, hS, hl⟩ ih
  have hMi := hIt i (by omega)
  refine lv_iload_n S.1 S.2.1 dX3_power_2 rfl (lv_at hl 0 rfl) ?_
  refine lv_aload_n S.1 S.2.1 dX3_power_3 rfl (lv_at hl 1 rfl) ?_
  refine m_get (x := nI n) S hA hF hW 1 (by decide) (by decide) tf_X3_82 hMi.1 dX3_power_4 ?_
  refine lv_icmp_ge (tgt := 87) S.1 S.2.1 dX3_power_7 (by decide) (fun cL => ?_) (fun cL => ?_)
  · have e : i = n := by
      rcases Nat.lt_or_ge i n with h | h
      · exact absurd cL (nI_ge h (by omega))
      · omega
    subst e
    exact r_vret S hr hlk hW hS ⟨rfl, by unfold fX3_power; rw [nOf_eq hI]⟩ dX3_power_87
  · have hi : i < n := by
      rcases Nat.lt_or_ge i n with h | h
      · exact h
      · exact absurd (nI_le h (by omega)) cL
    have hg : i < 16 := by omega
    have hfa := mi_fa hMi hi
    have hra := mi_ra hMi hi
    refine jx (rest := []) 81 (fun H1 locs1 ls1 => Wd Z (mw Z ws q (itM (bodyP) (i + 1) M)) H1 ∧ va_S (zA Z) s.heap H1 locs1 ∧ lv_has ls1 3 [(1, .int (nI i)), (0, .ref (q 0))]) (fun H locs ls ⟨hW, hS, hl⟩ => ?_) (fun K => ?_)
    · refine lv_iinc (v := nI (i + 1)) (lv' := [(1, .int (nI (i + 1))), (0, .ref (q 0))]) S.1 S.2.1 dX3_power_81 hl (k := 0) rfl (nI_1 i) (by decide) rfl (fun ls hl => ?_)
      refine lv_goto (tgt := 2) S.1 S.2.1 dX3_power_84 (by decide) ?_
      exact ih (d - 1) H locs ls (by omega) ⟨i + 1, by omega, hW, hS, hl⟩
    · change ∀ (H1 : Heap) (locs1 : List Loc) (ls1 : Array Slot), Wd Z (mw Z ws q (bodyP (itM (bodyP) i M) i)) H1 ∧ _ → _ at K
      generalize hMe : itM (bodyP) i M = M at hMi hW hfa hra K
      clear hMe
      obtain ⟨g, rfl⟩ : ∃ g, g = i := ⟨_, rfl⟩
      refine lv_aload_n S.1 S.2.1 dX3_power_10 rfl (lv_at hl 1 rfl) ?_
      refine m_getA S hA hF hW 4 (by decide) (by decide) tf_X3_19 dX3_power_11 ?_
      refine lv_iload_n S.1 S.2.1 dX3_power_14 rfl (lv_at hl 0 rfl) ?_
      refine m_ald (x := (M 5 g)) S hA hF hW 4 (by decide) (by decide) rfl hg rfl dX3_power_15 ?_
      refine lv_istore_n (lv' := [(2, .int (M 5 g)), (1, .int (nI g)), (0, .ref (q 0))]) S.1 S.2.1 dX3_power_16 rfl hl (by decide) rfl (fun ls hl => ?_)
      refine lv_aload_n S.1 S.2.1 dX3_power_17 rfl (lv_at hl 2 rfl) ?_
      refine lv_iload_n S.1 S.2.1 dX3_power_18 rfl (lv_at hl 1 rfl) ?_
      refine lv_iload_n S.1 S.2.1 dX3_power_19 rfl (lv_at hl 0 rfl) ?_
      refine lv_sipush (v := 255) S.1 S.2.1 dX3_power_20 (by decide) ?_
      refine jn (Z := Z) (tree := (if (M 5 g) = 255 then (M 2 g) else (if (M 5 g) = 0 then 0 else (fX3_within M g (M 5 g))))) 49 [.int (nI g), .ref (q 0)] (mw Z ws q M) (fun x1 H locs e1 hW hS => ?_) (fun K1 => ?_)
      · skip
        refine c_V S hA hW hS (kX3_set l Z ws q M hF g hg x1 ) ok_X3_set tm_X3_101 tn_X3_set tl_X3_set (fo_mem hF 0 (by decide)) rfl rfl ⟨Nat.le_of_ble_eq_true rfl, Nat.le_of_ble_eq_true rfl⟩ rfl hl.1 rfl (Nat.le_of_ble_eq_true rfl) dX3_power_49 ⟨Nat.le_of_ble_eq_true rfl, Nat.le_of_ble_eq_true rfl⟩ (kk_v fun H locs hW hS => ?_)
        refine lv_aload_n S.1 S.2.1 dX3_power_52 rfl (lv_at hl 2 rfl) ?_
        refine m_getA S hA hF hW 13 (by decide) (by decide) tf_X3_46 dX3_power_53 ?_
        refine lv_iload_n S.1 S.2.1 dX3_power_56 rfl (lv_at hl 1 rfl) ?_
        refine r_ldc S tk_X3_81 dX3_power_57 ?_
        refine m_ast (x := 16777215) S hA hF hW hS 13 (by decide) (by decide) rfl hg dX3_power_59 (fun H locs hW hS => ?_)
        refine lv_aload_n S.1 S.2.1 dX3_power_60 rfl (lv_at hl 2 rfl) ?_
        refine m_getA S hA hF hW 12 (by decide) (by decide) tf_X3_43 dX3_power_61 ?_
        refine lv_iload_n S.1 S.2.1 dX3_power_64 rfl (lv_at hl 1 rfl) ?_
        refine lv_iconst (v := 0) S.1 S.2.1 dX3_power_65 (by decide) ?_
        refine m_ast (x := 0) S hA hF hW hS 12 (by decide) (by decide) rfl hg dX3_power_66 (fun H locs hW hS => ?_)
        refine lv_aload_n S.1 S.2.1 dX3_power_67 rfl (lv_at hl 2 rfl) ?_
        refine m_getA S hA hF hW 15 (by decide) (by decide) tf_X3_52 dX3_power_68 ?_
        refine lv_iload_n S.1 S.2.1 dX3_power_71 rfl (lv_at hl 1 rfl) ?_
        refine lv_iconst (v := 0) S.1 S.2.1 dX3_power_72 (by decide) ?_
        refine m_zast (x := 0) S hA hF hW hS 15 (by decide) (by decide) rfl rfl hg rfl dX3_power_73 (fun H locs hW hS => ?_)
        refine lv_aload_n S.1 S.2.1 dX3_power_74 rfl (lv_at hl 2 rfl) ?_
        refine m_getA S hA hF hW 16 (by decide) (by decide) tf_X3_56 dX3_power_75 ?_
        refine lv_iload_n S.1 S.2.1 dX3_power_78 rfl (lv_at hl 1 rfl) ?_
        refine lv_iconst (v := 0) S.1 S.2.1 dX3_power_79 (by decide) ?_
        refine m_zast (x := 0) S hA hF hW hS 16 (by decide) (by decide) rfl rfl hg rfl dX3_power_80 (fun H locs hW hS => ?_)
        exact K _ _ _ ⟨by rw [show (bodyP M g) = (up2 (up2 (up2 (up2 (fX3_set M g x1) 14 g 16777215) 13 g 0) 16 g 0) 17 g 0) from (by unfold bodyP; rw [← e1])]; exact hW, hS, lv_sub hl [1, 2] rfl⟩
      · skip
        refine lv_icmp_ne (tgt := 35) S.1 S.2.1 dX3_power_23 (by decide) (fun c2 => ?_) (fun c2 => ?_)
        · skip
          refine lv_iload_n S.1 S.2.1 dX3_power_35 rfl (lv_at hl 0 rfl) ?_
          refine lv_if_ne (tgt := 43) S.1 S.2.1 dX3_power_36 (by decide) (fun c3 => ?_) (fun c3 => ?_)
          · skip
            refine lv_aload_n S.1 S.2.1 dX3_power_43 rfl (lv_at hl 2 rfl) ?_
            refine lv_iload_n S.1 S.2.1 dX3_power_44 rfl (lv_at hl 1 rfl) ?_
            refine lv_iload_n S.1 S.2.1 dX3_power_45 rfl (lv_at hl 0 rfl) ?_
            refine c_V S hA hW hS (kX3_within l Z ws q M hF g hg (M 5 g) ) ok_X3_within tm_X3_97 tn_X3_within tl_X3_within (fo_mem hF 0 (by decide)) rfl rfl ⟨Nat.le_of_ble_eq_true rfl, Nat.le_of_ble_eq_true rfl⟩ rfl hl.1 rfl (Nat.le_of_ble_eq_true rfl) dX3_power_46 ⟨Nat.le_of_ble_eq_true rfl, Nat.le_of_ble_eq_true rfl⟩ (kk_i fun H locs hW hS => ?_)
            exact K1 _ _ _ (by rw [if_neg c2, if_neg c3]) hW hS
          · skip
            refine lv_iconst (v := 0) S.1 S.2.1 dX3_power_39 (by decide) ?_
            refine lv_goto (tgt := 49) S.1 S.2.1 dX3_power_40 (by decide) ?_
            exact K1 _ _ _ (by rw [if_neg c2, if_pos c3]) hW hS
        · skip
          refine lv_aload_n S.1 S.2.1 dX3_power_26 rfl (lv_at hl 2 rfl) ?_
          refine m_getA S hA hF hW 1 (by decide) (by decide) tf_X3_7 dX3_power_27 ?_
          refine lv_iload_n S.1 S.2.1 dX3_power_30 rfl (lv_at hl 1 rfl) ?_
          refine m_ald (x := (M 2 g)) S hA hF hW 1 (by decide) (by decide) rfl hg rfl dX3_power_31 ?_
          refine lv_goto (tgt := 49) S.1 S.2.1 dX3_power_32 (by decide) ?_
          exact K1 _ _ _ (by rw [if_pos c2]) hW hS
set_option maxRecDepth 100000 in
set_option maxHeartbeats 4000000 in
theorem kX3_send (l : Launch) (Z : Zt) (ws : va_W) (q : Nat → Nat) (M : Nat → Nat → Int32) (hF : FI ws 23 q) (a1 : Int32) (a2 : Int32) {n : Nat} (hI : MInv n M) : Ct l Z yX3_send cX3_send 5 (some .int) 4 92 0 0 (mw Z ws q M) [.ref (q 0), .int a1, .int a2] (fun r w => r = some (.int (fX3_send M a1 a2).1) ∧ w = mw Z ws q (fX3_send M a1 a2).2) := by
  refine Ct.start (by decide) (Nat.le_of_ble_eq_true rfl) ?_
  intro p e s m below meth c S hr hlk hnm hA hW hS ls hl
  replace S : CallFix p m c cX3_send 5 s _ TB RX3 := S
  replace hl : lv_has ls 5 [(0, .ref (q 0)), (1, .int a1), (2, .int a2)] := hl
  have hn16 := hI.2.1
  refine lv_iload_n S.1 S.2.1 dX3_send_0 rfl (lv_at hl 1 rfl) ?_
  refine lv_iconst (v := 0) S.1 S.2.1 dX3_send_1 (by decide) ?_
  refine lv_sipush (v := 255) S.1 S.2.1 dX3_send_2 (by decide) ?_
  refine c_S S hA hW hS (kX3_isIn l Z (mw Z ws q M) a1 0 255) ok_X3_isIn tm_X3_93 ts_X3_isIn ⟨Nat.le_of_ble_eq_true rfl, Nat.le_of_ble_eq_true rfl⟩ rfl hl.1 rfl (Nat.le_of_ble_eq_true rfl) dX3_send_5 ⟨Nat.le_of_ble_eq_true rfl, Nat.le_of_ble_eq_true rfl⟩ (kk_i fun H locs hW hS => ?_)
  refine lv_if_eq (tgt := 22) S.1 S.2.1 dX3_send_8 (by decide) (fun c1 => ?_) (fun c1 => ?_)
  · skip
    refine lv_bipush (v := (-2)) S.1 S.2.1 dX3_send_22 (by decide) ?_
    exact r_iret S hr hlk hW hS (show some (Value.int (-2)) = some (Value.int (fX3_send M a1 a2).1) ∧ (mw Z ws q M) = mw Z ws q (fX3_send M a1 a2).2 from (by rw [show (fX3_send M a1 a2) = ((-2), M) from (by rw [fX3_send_eq]; unfold snd0; rw [if_pos c1])]; exact ⟨rfl, rfl⟩)) dX3_send_24
  · skip
    refine lv_iload_n S.1 S.2.1 dX3_send_11 rfl (lv_at hl 2 rfl) ?_
    refine lv_iconst (v := 0) S.1 S.2.1 dX3_send_12 (by decide) ?_
    refine lv_sipush (v := 255) S.1 S.2.1 dX3_send_13 (by decide) ?_
    refine c_S S hA hW hS (kX3_isIn l Z (mw Z ws q M) a2 0 255) ok_X3_isIn tm_X3_93 ts_X3_isIn ⟨Nat.le_of_ble_eq_true rfl, Nat.le_of_ble_eq_true rfl⟩ rfl hl.1 rfl (Nat.le_of_ble_eq_true rfl) dX3_send_16 ⟨Nat.le_of_ble_eq_true rfl, Nat.le_of_ble_eq_true rfl⟩ (kk_i fun H locs hW hS => ?_)
    refine lv_if_ne (tgt := 25) S.1 S.2.1 dX3_send_19 (by decide) (fun c2 => ?_) (fun c2 => ?_)
    · skip
      refine lv_aload_n S.1 S.2.1 dX3_send_25 rfl (lv_at hl 0 rfl) ?_
      refine m_get (x := (M 26 0)) S hA hF hW 26 (by decide) (by decide) tf_X3_133 rfl dX3_send_26 ?_
      refine jn (Z := Z) (tree := (if (M 26 0) = 0 then 0 else (if (M 27 0) = a1 then (if (M 28 0) = a2 then 1 else 0) else 0))) 53 [] (mw Z ws q M) (fun x3 H locs e3 hW hS => ?_) (fun K3 => ?_)
      · skip
        refine lv_istore_n (lv' := [(3, .int x3), (0, .ref (q 0)), (1, .int a1), (2, .int a2)]) S.1 S.2.1 dX3_send_53 rfl hl (by decide) rfl (fun ls hl => ?_)
        refine lv_aload_n S.1 S.2.1 dX3_send_54 rfl (lv_at hl 1 rfl) ?_
        refine lv_iload_n S.1 S.2.1 dX3_send_55 rfl (lv_at hl 0 rfl) ?_
        refine jn (Z := Z) (tree := (if x3 = 0 then 1 else 0)) 64 [.ref (q 0)] (mw Z ws q M) (fun x4 H locs e4 hW hS => ?_) (fun K4 => ?_)
        · skip
          refine m_put (x := x4) S hA hF hW hS 26 (by decide) (by decide) tf_X3_133 rfl (by rw [e4]; (repeat' split) <;> rfl) (by first | rfl | (rw [e4]; (repeat' split) <;> rfl)) dX3_send_64 (fun H locs hW hS => ?_)
          refine lv_aload_n S.1 S.2.1 dX3_send_67 rfl (lv_at hl 1 rfl) ?_
          refine lv_iload_n S.1 S.2.1 dX3_send_68 rfl (lv_at hl 2 rfl) ?_
          refine m_put (x := a1) S hA hF hW hS 27 (by decide) (by decide) tf_X3_137 rfl rfl rfl dX3_send_69 (fun H locs hW hS => ?_)
          refine lv_aload_n S.1 S.2.1 dX3_send_72 rfl (lv_at hl 1 rfl) ?_
          refine lv_iload_n S.1 S.2.1 dX3_send_73 rfl (lv_at hl 3 rfl) ?_
          refine m_put (x := a2) S hA hF hW hS 28 (by decide) (by decide) tf_X3_140 rfl rfl rfl dX3_send_74 (fun H locs hW hS => ?_)
          refine lv_aload_n S.1 S.2.1 dX3_send_77 rfl (lv_at hl 1 rfl) ?_
          refine lv_dup S.1 S.2.1 dX3_send_78 rfl ?_
          refine m_get (x := (M 24 0)) S hA hF hW 24 (by decide) (by decide) tf_X3_143 (by simp [up2]) dX3_send_79 ?_
          refine lv_iconst (v := 1) S.1 S.2.1 dX3_send_82 (by decide) ?_
          refine lv_iadd S.1 S.2.1 dX3_send_83 ?_
          refine m_put (x := ((M 24 0) + 1)) S hA hF hW hS 24 (by decide) (by decide) tf_X3_143 rfl rfl rfl dX3_send_84 (fun H locs hW hS => ?_)
          refine lv_aload_n S.1 S.2.1 dX3_send_87 rfl (lv_at hl 1 rfl) ?_
          refine lv_iconst (v := (-1)) S.1 S.2.1 dX3_send_88 (by decide) ?_
          refine m_put (x := (-1)) S hA hF hW hS 29 (by decide) (by decide) tf_X3_105 rfl rfl rfl dX3_send_89 (fun H locs hW hS => ?_)
          refine lv_iconst (v := 0) S.1 S.2.1 dX3_send_92 (by decide) ?_
          refine lv_istore (lv' := [(4, .int 0), (3, .int x3), (0, .ref (q 0)), (1, .int a1), (2, .int a2)]) S.1 S.2.1 dX3_send_93 hl (by decide) rfl (fun ls hl => ?_)
          have cA := c1; have cB := c2
          have hMI : MInv n (up2 (up2 (up2 (up2 (up2 M 26 0 x4) 27 0 a1) 28 0 a2) 24 0 ((M 24 0) + 1)) 29 0 (-1)) := (by rw [e4]; exact mi_send1 hI)
          have hIt : ∀ i, i ≤ n → MInv n (itM (bodyS a1 a2 x3) i (up2 (up2 (up2 (up2 (up2 M 26 0 x4) 27 0 a1) 28 0 a2) 24 0 ((M 24 0) + 1)) 29 0 (-1))) := mi_it (fun M g h hg => mi_S (isIn_inB cA) (isIn_inB cB) (by rw [e3]; exact twM_b) h hg) hMI
          refine w_loop (fun d H1 locs1 ls1 => ∃ i, i + d = n ∧ Wd Z (mw Z ws q (itM (bodyS a1 a2 x3) i (up2 (up2 (up2 (up2 (up2 M 26 0 x4) 27 0 a1) 28 0 a2) 24 0 ((M 24 0) + 1)) 29 0 (-1)))) H1 ∧ va_S (zA Z) s.heap H1 locs1 ∧ lv_has ls1 5 [(4, .int (nI i)), (3, .int x3), (0, .ref (q 0)), (1, .int a1), (2, .int a2)]) ?_ n ⟨0, by omega, hW, hS, lv_sub hl [0, 1, 2, 3, 4] rfl⟩
          clear hW hS hl
          rintro d H locs ls ⟨i, hd, hW, hS, hl⟩ ih
          have hMi := hIt i (by omega)
          refine lv_iload S.1 S.2.1 dX3_send_95 (lv_at hl 0 rfl) ?_
          refine lv_aload_n S.1 S.2.1 dX3_send_97 rfl (lv_at hl 2 rfl) ?_
          refine m_get (x := nI n) S hA hF hW 1 (by decide) (by decide) tf_X3_82 hMi.1 dX3_send_98 ?_
          refine lv_icmp_ge (tgt := 188) S.1 S.2.1 dX3_send_101 (by decide) (fun cL => ?_) (fun cL => ?_)
          · have e : i = n := by
              rcases Nat.lt_or_ge i n with h | h
              · exact absurd cL (nI_ge h (by omega))
              · omega
            subst e
            refine lv_aload_n S.1 S.2.1 dX3_send_188 rfl (lv_at hl 2 rfl) ?_
            refine m_get (x := (itM (bodyS a1 a2 x3) i (up2 (up2 (up2 (up2 (up2 M 26 0 x4) 27 0 a1) 28 0 a2) 24 0 ((M 24 0) + 1)) 29 0 (-1))) 29 0) S hA hF hW 29 (by decide) (by decide) tf_X3_105 rfl dX3_send_189 ?_
            have E : fX3_send M a1 a2 = ((itM (bodyS a1 a2 x3) i (up2 (up2 (up2 (up2 (up2 M 26 0 x4) 27 0 a1) 28 0 a2) 24 0 ((M 24 0) + 1)) 29 0 (-1))) 29 0, (itM (bodyS a1 a2 x3) i (up2 (up2 (up2 (up2 (up2 M 26 0 x4) 27 0 a1) 28 0 a2) 24 0 ((M 24 0) + 1)) 29 0 (-1)))) := by
              rw [fX3_send_eq]
              unfold snd0 sendM2 sendM1
              rw [if_neg cA, if_neg cB, nOf_eq hI, show twM M a1 a2 = x3 from e3.symm, e4]
            exact r_iret S hr hlk hW hS (by rw [E]; exact ⟨rfl, rfl⟩) dX3_send_192
          · have hi : i < n := by
              rcases Nat.lt_or_ge i n with h | h
              · exact h
              · exact absurd (nI_le h (by omega)) cL
            have hg : i < 16 := by omega
            have hfa := mi_fa hMi hi
            have hra := mi_ra hMi hi
            refine jx (rest := []) 182 (fun H1 locs1 ls1 => Wd Z (mw Z ws q (itM (bodyS a1 a2 x3) (i + 1) (up2 (up2 (up2 (up2 (up2 M 26 0 x4) 27 0 a1) 28 0 a2) 24 0 ((M 24 0) + 1)) 29 0 (-1)))) H1 ∧ va_S (zA Z) s.heap H1 locs1 ∧ lv_has ls1 5 [(4, .int (nI i)), (3, .int x3), (0, .ref (q 0)), (1, .int a1), (2, .int a2)]) (fun H locs ls ⟨hW, hS, hl⟩ => ?_) (fun K => ?_)
            · refine lv_iinc (v := nI (i + 1)) (lv' := [(4, .int (nI (i + 1))), (3, .int x3), (0, .ref (q 0)), (1, .int a1), (2, .int a2)]) S.1 S.2.1 dX3_send_182 hl (k := 0) rfl (nI_1 i) (by decide) rfl (fun ls hl => ?_)
              refine lv_goto (tgt := 95) S.1 S.2.1 dX3_send_185 (by decide) ?_
              exact ih (d - 1) H locs ls (by omega) ⟨i + 1, by omega, hW, hS, hl⟩
            · change ∀ (H1 : Heap) (locs1 : List Loc) (ls1 : Array Slot), Wd Z (mw Z ws q (bodyS a1 a2 x3 (itM (bodyS a1 a2 x3) i (up2 (up2 (up2 (up2 (up2 M 26 0 x4) 27 0 a1) 28 0 a2) 24 0 ((M 24 0) + 1)) 29 0 (-1))) i)) H1 ∧ _ → _ at K
              generalize hMe : itM (bodyS a1 a2 x3) i (up2 (up2 (up2 (up2 (up2 M 26 0 x4) 27 0 a1) 28 0 a2) 24 0 ((M 24 0) + 1)) 29 0 (-1)) = M at hMi hW hfa hra K
              clear hMe
              obtain ⟨g, rfl⟩ : ∃ g, g = i := ⟨_, rfl⟩
              refine lv_iload_n S.1 S.2.1 dX3_send_104 rfl (lv_at hl 3 rfl) ?_
              refine lv_sipush (v := 160) S.1 S.2.1 dX3_send_105 (by decide) ?_
              refine lv_sipush (v := 253) S.1 S.2.1 dX3_send_108 (by decide) ?_
              refine c_S S hA hW hS (kX3_isIn l Z (mw Z ws q M) a1 160 253) ok_X3_isIn tm_X3_93 ts_X3_isIn ⟨Nat.le_of_ble_eq_true rfl, Nat.le_of_ble_eq_true rfl⟩ rfl hl.1 rfl (Nat.le_of_ble_eq_true rfl) dX3_send_111 ⟨Nat.le_of_ble_eq_true rfl, Nat.le_of_ble_eq_true rfl⟩ (kk_i fun H locs hW hS => ?_)
              refine lv_if_eq (tgt := 129) S.1 S.2.1 dX3_send_114 (by decide) (fun c5 => ?_) (fun c5 => ?_)
              · skip
                refine lv_aload_n S.1 S.2.1 dX3_send_129 rfl (lv_at hl 2 rfl) ?_
                refine lv_iload S.1 S.2.1 dX3_send_130 (lv_at hl 0 rfl) ?_
                refine lv_iload_n S.1 S.2.1 dX3_send_132 rfl (lv_at hl 3 rfl) ?_
                refine c_V S hA hW hS (kX3_isMeant l Z ws q M hF g hg a1 ) ok_X3_isMeant tm_X3_150 tn_X3_isMeant tl_X3_isMeant (fo_mem hF 0 (by decide)) rfl rfl ⟨Nat.le_of_ble_eq_true rfl, Nat.le_of_ble_eq_true rfl⟩ rfl hl.1 rfl (Nat.le_of_ble_eq_true rfl) dX3_send_133 ⟨Nat.le_of_ble_eq_true rfl, Nat.le_of_ble_eq_true rfl⟩ (kk_i fun H locs hW hS => ?_)
                refine lv_if_eq (tgt := 182) S.1 S.2.1 dX3_send_136 (by decide) (fun c6 => ?_) (fun c6 => ?_)
                · skip
                  exact K _ _ _ ⟨by rw [show (bodyS a1 a2 x3 M g) = M from (by unfold bodyS; rw [if_pos c5, if_pos c6])]; exact hW, hS, lv_sub hl [0, 1, 2, 3, 4] rfl⟩
                · skip
                  refine lv_iload_n S.1 S.2.1 dX3_send_139 rfl (lv_at hl 3 rfl) ?_
                  refine lv_iconst (v := 2) S.1 S.2.1 dX3_send_140 (by decide) ?_
                  refine lv_irem S.1 S.2.1 dX3_send_141 (by decide) ?_
                  refine lv_iconst (v := 1) S.1 S.2.1 dX3_send_142 (by decide) ?_
                  refine lv_icmp_ne (tgt := 157) S.1 S.2.1 dX3_send_143 (by decide) (fun c7 => ?_) (fun c7 => ?_)
                  · skip
                    refine lv_iload_n S.1 S.2.1 dX3_send_157 rfl (lv_at hl 4 rfl) ?_
                    refine lv_sipush (v := 255) S.1 S.2.1 dX3_send_158 (by decide) ?_
                    refine lv_icmp_ne (tgt := 175) S.1 S.2.1 dX3_send_161 (by decide) (fun c8 => ?_) (fun c8 => ?_)
                    · skip
                      refine lv_aload_n S.1 S.2.1 dX3_send_175 rfl (lv_at hl 2 rfl) ?_
                      refine lv_iload S.1 S.2.1 dX3_send_176 (lv_at hl 0 rfl) ?_
                      refine lv_iload_n S.1 S.2.1 dX3_send_178 rfl (lv_at hl 4 rfl) ?_
                      refine c_V S hA hW hS (kX3_goTo l Z ws q M hF g hg a2 hfa) ok_X3_goTo tm_X3_111 tn_X3_goTo tl_X3_goTo (fo_mem hF 0 (by decide)) rfl rfl ⟨Nat.le_of_ble_eq_true rfl, Nat.le_of_ble_eq_true rfl⟩ rfl hl.1 rfl (Nat.le_of_ble_eq_true rfl) dX3_send_179 ⟨Nat.le_of_ble_eq_true rfl, Nat.le_of_ble_eq_true rfl⟩ (kk_v fun H locs hW hS => ?_)
                      exact K _ _ _ ⟨by rw [show (bodyS a1 a2 x3 M g) = (fX3_goTo M g a2) from (by unfold bodyS; rw [if_pos c5, if_neg c6, if_neg c7, if_neg c8])]; exact hW, hS, lv_sub hl [0, 1, 2, 3, 4] rfl⟩
                    · skip
                      refine lv_aload_n S.1 S.2.1 dX3_send_164 rfl (lv_at hl 2 rfl) ?_
                      refine m_getA S hA hF hW 17 (by decide) (by decide) tf_X3_59 dX3_send_165 ?_
                      refine lv_iload S.1 S.2.1 dX3_send_168 (lv_at hl 0 rfl) ?_
                      refine lv_iconst (v := (-1)) S.1 S.2.1 dX3_send_170 (by decide) ?_
                      refine m_ast (x := (-1)) S hA hF hW hS 17 (by decide) (by decide) rfl hg dX3_send_171 (fun H locs hW hS => ?_)
                      refine lv_goto (tgt := 182) S.1 S.2.1 dX3_send_172 (by decide) ?_
                      exact K _ _ _ ⟨by rw [show (bodyS a1 a2 x3 M g) = (up2 M 18 g (-1)) from (by unfold bodyS; rw [if_pos c5, if_neg c6, if_neg c7, if_pos c8])]; exact hW, hS, lv_sub hl [0, 1, 2, 3, 4] rfl⟩
                  · skip
                    refine lv_aload_n S.1 S.2.1 dX3_send_146 rfl (lv_at hl 2 rfl) ?_
                    refine lv_iload S.1 S.2.1 dX3_send_147 (lv_at hl 0 rfl) ?_
                    refine lv_iload_n S.1 S.2.1 dX3_send_149 rfl (lv_at hl 4 rfl) ?_
                    refine lv_iload_n S.1 S.2.1 dX3_send_150 rfl (lv_at hl 1 rfl) ?_
                    refine c_V S hA hW hS (kX3_command l Z ws q M hF g hg a2 x3 hfa hra (by obtain ⟨j, hj, e9⟩ := nI_of2 (M := 255) (n := 255) rfl (isIn_of cB).1 (show a2 ≤ 255 by have := (isIn_of cB).2; rw [Int32.lt_iff_toInt_lt] at this; rw [Int32.le_iff_toInt_le]; omega); exact ⟨j, by omega, e9⟩)) ok_X3_command tm_X3_154 tn_X3_command tl_X3_command (fo_mem hF 0 (by decide)) rfl rfl ⟨Nat.le_of_ble_eq_true rfl, Nat.le_of_ble_eq_true rfl⟩ rfl hl.1 rfl (Nat.le_of_ble_eq_true rfl) dX3_send_151 ⟨Nat.le_of_ble_eq_true rfl, Nat.le_of_ble_eq_true rfl⟩ (kk_v fun H locs hW hS => ?_)
                    refine lv_goto (tgt := 182) S.1 S.2.1 dX3_send_154 (by decide) ?_
                    exact K _ _ _ ⟨by rw [show (bodyS a1 a2 x3 M g) = (fX3_command M g a2 x3) from (by unfold bodyS; rw [if_pos c5, if_neg c6, if_pos c7])]; exact hW, hS, lv_sub hl [0, 1, 2, 3, 4] rfl⟩
              · skip
                refine lv_aload_n S.1 S.2.1 dX3_send_117 rfl (lv_at hl 2 rfl) ?_
                refine lv_iload S.1 S.2.1 dX3_send_118 (lv_at hl 0 rfl) ?_
                refine lv_iload_n S.1 S.2.1 dX3_send_120 rfl (lv_at hl 3 rfl) ?_
                refine lv_iload_n S.1 S.2.1 dX3_send_121 rfl (lv_at hl 4 rfl) ?_
                refine lv_iload_n S.1 S.2.1 dX3_send_122 rfl (lv_at hl 1 rfl) ?_
                refine c_V S hA hW hS (kX3_special l Z ws q M hF g hg a1 a2 x3 ) ok_X3_special tm_X3_146 tn_X3_special tl_X3_special (fo_mem hF 0 (by decide)) rfl rfl ⟨Nat.le_of_ble_eq_true rfl, Nat.le_of_ble_eq_true rfl⟩ rfl hl.1 rfl (Nat.le_of_ble_eq_true rfl) dX3_send_123 ⟨Nat.le_of_ble_eq_true rfl, Nat.le_of_ble_eq_true rfl⟩ (kk_v fun H locs hW hS => ?_)
                refine lv_goto (tgt := 182) S.1 S.2.1 dX3_send_126 (by decide) ?_
                exact K _ _ _ ⟨by rw [show (bodyS a1 a2 x3 M g) = (fX3_special M g a1 a2 x3) from (by unfold bodyS; rw [if_neg c5])]; exact hW, hS, lv_sub hl [0, 1, 2, 3, 4] rfl⟩
        · skip
          refine lv_if_ne (tgt := 63) S.1 S.2.1 dX3_send_56 (by decide) (fun c9 => ?_) (fun c9 => ?_)
          · skip
            refine lv_iconst (v := 0) S.1 S.2.1 dX3_send_63 (by decide) ?_
            exact K4 _ _ _ (by rw [if_neg c9]) hW hS
          · skip
            refine lv_iconst (v := 1) S.1 S.2.1 dX3_send_59 (by decide) ?_
            refine lv_goto (tgt := 64) S.1 S.2.1 dX3_send_60 (by decide) ?_
            exact K4 _ _ _ (by rw [if_pos c9]) hW hS
      · skip
        refine lv_if_eq (tgt := 52) S.1 S.2.1 dX3_send_29 (by decide) (fun c10 => ?_) (fun c10 => ?_)
        · skip
          refine lv_iconst (v := 0) S.1 S.2.1 dX3_send_52 (by decide) ?_
          exact K3 _ _ _ (by rw [if_pos c10]) hW hS
        · skip
          refine lv_aload_n S.1 S.2.1 dX3_send_32 rfl (lv_at hl 0 rfl) ?_
          refine m_get (x := (M 27 0)) S hA hF hW 27 (by decide) (by decide) tf_X3_137 rfl dX3_send_33 ?_
          refine lv_iload_n S.1 S.2.1 dX3_send_36 rfl (lv_at hl 1 rfl) ?_
          refine lv_icmp_ne (tgt := 52) S.1 S.2.1 dX3_send_37 (by decide) (fun c11 => ?_) (fun c11 => ?_)
          · skip
            refine lv_iconst (v := 0) S.1 S.2.1 dX3_send_52 (by decide) ?_
            exact K3 _ _ _ (by rw [if_neg c10, if_neg c11]) hW hS
          · skip
            refine lv_aload_n S.1 S.2.1 dX3_send_40 rfl (lv_at hl 0 rfl) ?_
            refine m_get (x := (M 28 0)) S hA hF hW 28 (by decide) (by decide) tf_X3_140 rfl dX3_send_41 ?_
            refine lv_iload_n S.1 S.2.1 dX3_send_44 rfl (lv_at hl 2 rfl) ?_
            refine lv_icmp_ne (tgt := 52) S.1 S.2.1 dX3_send_45 (by decide) (fun c12 => ?_) (fun c12 => ?_)
            · skip
              refine lv_iconst (v := 0) S.1 S.2.1 dX3_send_52 (by decide) ?_
              exact K3 _ _ _ (by rw [if_neg c10, if_pos c11, if_neg c12]) hW hS
            · skip
              refine lv_iconst (v := 1) S.1 S.2.1 dX3_send_48 (by decide) ?_
              refine lv_goto (tgt := 53) S.1 S.2.1 dX3_send_49 (by decide) ?_
              exact K3 _ _ _ (by rw [if_neg c10, if_pos c11, if_pos c12]) hW hS
    · skip
      refine lv_bipush (v := (-2)) S.1 S.2.1 dX3_send_22 (by decide) ?_
      exact r_iret S hr hlk hW hS (show some (Value.int (-2)) = some (Value.int (fX3_send M a1 a2).1) ∧ (mw Z ws q M) = mw Z ws q (fX3_send M a1 a2).2 from (by rw [show (fX3_send M a1 a2) = ((-2), M) from (by rw [fX3_send_eq]; unfold snd0; rw [if_neg c1, if_pos c2])]; exact ⟨rfl, rfl⟩)) dX3_send_24
