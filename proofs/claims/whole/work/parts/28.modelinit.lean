/-! The reference's constructor: its arrays one by one -/
def M0 (k : Nat) : Nat → Int32 := if k = 22 then tabT else if k = 23 then tabR else fun _ => 0
def mVp (q : Nat → Nat) (j k : Nat) : Value := if 2 ≤ k ∧ k < j + 2 then .ref (q (k - 1)) else if 2 ≤ k ∧ k < 24 then .null else .int 0
def MPart (Z : Zt) (w0 : va_W) (h : Nat) (q : Nat → Nat) (j : Nat) (w : va_W) : Prop :=
  q 0 = h ∧ (h, .inr (4, (List.range 30).map (mVp q j))) ∈ w ∧ (∀ i, 1 ≤ i → i ≤ j → (q i, .inl (mC Z i, mL i, .inl (M0 (i + 1)))) ∈ w) ∧ (∀ i, 1 ≤ i → i ≤ j → ∀ y, (q i, y) ∉ w0) ∧ (∀ a b, a ≤ j → b ≤ j → q a = q b → a = b) ∧ (∀ a x, a ≠ h → (a, x) ∈ w0 → (a, x) ∈ w)
def uq (q : Nat → Nat) (j b k : Nat) : Nat := if k = j then b else q k
theorem uq_at {q : Nat → Nat} {j b : Nat} : uq q j b j = b := by unfold uq; rw [if_pos rfl]
theorem uq_ne {q : Nat → Nat} {j b k : Nat} (h : ¬ k = j) : uq q j b k = q k := by unfold uq; rw [if_neg h]
theorem mpart_step {Z : Zt} {w0 w wX w' : va_W} {h j b : Nat} {q : Nat → Nat} (hM : MPart Z w0 h q j w) (hj : j < 22) (hb : ∀ y, (b, y) ∉ w) (h1 : ∀ a x, (a, x) ∈ w → (a, x) ∈ wX) (h2 : (b, .inl (mC Z (j + 1), mL (j + 1), .inl (M0 (j + 2)))) ∈ wX) (hE : Ex wX h (.inr (4, ((List.range 30).map (mVp q j)).set (j + 2) (.ref b))) w') : MPart Z w0 h (uq q (j + 1) b) (j + 1) w' := by
  obtain ⟨m1, m2, m3, m4, m5, m6⟩ := hM
  have hbh : b ≠ h := fun z => hb _ (z ▸ m2)
  have hbq : ∀ i, i ≤ j → q i ≠ b := by
    intro i hi z
    by_cases c : i = 0
    · subst c; exact hbh (z.symm.trans m1)
    · exact hb _ (z ▸ m3 i (by omega) hi)
  have hqh : ∀ i, 1 ≤ i → i ≤ j → q i ≠ h := fun i h1 h2 z => by
    have := m5 i 0 h2 (by omega) (z.trans m1.symm)
    omega
  refine ⟨by rw [uq_ne (by omega)]; exact m1, ?_, ?_, ?_, ?_, ?_⟩
  · have e : (List.range 30).map (mVp (uq q (j + 1) b) (j + 1)) = ((List.range 30).map (mVp q j)).set (j + 2) (.ref b) := rm_set (fun k => by
      unfold mVp
      by_cases c : k = j + 2
      · rw [if_pos c, if_pos (by omega), show k - 1 = j + 1 by omega, uq_at]
      · rw [if_neg c]
        by_cases d : 2 ≤ k ∧ k < j + 2
        · rw [if_pos (by omega), if_pos d, uq_ne (by omega)]
        · rw [if_neg (by omega), if_neg d])
    rw [e]
    exact hE.1
  · intro i h3 h4
    by_cases c : i = j + 1
    · subst c
      rw [uq_at]
      exact hE.2.1 b _ hbh h2
    · rw [uq_ne c]
      exact hE.2.1 (q i) _ (hqh i h3 (by omega)) (h1 _ _ (m3 i h3 (by omega)))
  · intro i h3 h4 y
    by_cases c : i = j + 1
    · rw [c, uq_at]
      intro hy
      by_cases d : b = h
      · exact hbh d
      · exact hb y (m6 b y d hy)
    · rw [uq_ne c]
      exact m4 i h3 (by omega) y
  · intro a c ha hc he
    by_cases ca : a = j + 1
    · by_cases cb : c = j + 1
      · rw [ca, cb]
      · rw [ca, uq_at, uq_ne cb] at he
        exact absurd he.symm (hbq c (by omega))
    · by_cases cb : c = j + 1
      · rw [uq_ne ca, cb, uq_at] at he
        exact absurd he (hbq a (by omega))
      · rw [uq_ne ca, uq_ne cb] at he
        exact m5 a c (by omega) (by omega) he
  · intro a x ha hx
    exact hE.2.1 a x ha (h1 a x (m6 a x ha hx))
def newModel (Z : Zt) (w : va_W) (h : Nat) (w1 : va_W) : Prop := ∃ q : Nat → Nat, q 0 = h ∧ (∀ k, 1 ≤ k → k < 23 → ∀ y, (q k, y) ∉ w) ∧ (∀ j k, j < 23 → k < 23 → q j = q k → j = k) ∧ (∀ k, k < 23 → (q k, mE Z q M0 k) ∈ w1) ∧ (∀ a x, a ≠ h → (a, x) ∈ w → (a, x) ∈ w1)
theorem mpart_end {Z : Zt} {w w1 : va_W} {h : Nat} {q : Nat → Nat} (hM : MPart Z w h q 22 w1) : newModel Z w h w1 := by
  obtain ⟨m1, m2, m3, m4, m5, m6⟩ := hM
  refine ⟨q, m1, fun k h1 h2 y => m4 k h1 (by omega) y, fun j k hj hk => m5 j k (by omega) (by omega), fun k hk => ?_, m6⟩
  by_cases c : k = 0
  · subst c
    rw [mE_0, m1]
    have e : (List.range 30).map (mV q M0) = (List.range 30).map (mVp q 22) := List.map_congr_left (fun i hi => by
      unfold mV mVp M0
      by_cases d : 2 ≤ i ∧ i < 24
      · rw [if_pos d, if_pos d]
      · rw [if_neg d, if_neg d, if_neg d, if_neg (by omega), if_neg (by omega)])
    rw [e]
    exact m2
  · rw [mE_a (by omega)]
    exact m3 k (by omega) (by omega)
theorem tabT_up : (upd (upd (upd (upd (upd (upd (upd (upd (upd (upd (upd (upd (upd (upd (upd (upd (fun _ => 0) (0 : Int32).toNatClampNeg 0) (1 : Int32).toNatClampNeg 7) (2 : Int32).toNatClampNeg 10) (3 : Int32).toNatClampNeg 14) (4 : Int32).toNatClampNeg 20) (5 : Int32).toNatClampNeg 28) (6 : Int32).toNatClampNeg 40) (7 : Int32).toNatClampNeg 57) (8 : Int32).toNatClampNeg 80) (9 : Int32).toNatClampNeg 113) (10 : Int32).toNatClampNeg 160) (11 : Int32).toNatClampNeg 226) (12 : Int32).toNatClampNeg 320) (13 : Int32).toNatClampNeg 453) (14 : Int32).toNatClampNeg 640) (15 : Int32).toNatClampNeg 905) = tabT := by
  funext j
  by_cases h : j < 16
  · rcases (show j = 0 ∨ j = 1 ∨ j = 2 ∨ j = 3 ∨ j = 4 ∨ j = 5 ∨ j = 6 ∨ j = 7 ∨ j = 8 ∨ j = 9 ∨ j = 10 ∨ j = 11 ∨ j = 12 ∨ j = 13 ∨ j = 14 ∨ j = 15 by omega) with rfl | rfl | rfl | rfl | rfl | rfl | rfl | rfl | rfl | rfl | rfl | rfl | rfl | rfl | rfl | rfl <;> rfl
  · unfold upd tabT
    rw [if_neg (show ¬ j = (15 : Int32).toNatClampNeg from fun z => h (by rw [z]; decide)), if_neg (show ¬ j = (14 : Int32).toNatClampNeg from fun z => h (by rw [z]; decide)), if_neg (show ¬ j = (13 : Int32).toNatClampNeg from fun z => h (by rw [z]; decide)), if_neg (show ¬ j = (12 : Int32).toNatClampNeg from fun z => h (by rw [z]; decide)), if_neg (show ¬ j = (11 : Int32).toNatClampNeg from fun z => h (by rw [z]; decide)), if_neg (show ¬ j = (10 : Int32).toNatClampNeg from fun z => h (by rw [z]; decide)), if_neg (show ¬ j = (9 : Int32).toNatClampNeg from fun z => h (by rw [z]; decide)), if_neg (show ¬ j = (8 : Int32).toNatClampNeg from fun z => h (by rw [z]; decide)), if_neg (show ¬ j = (7 : Int32).toNatClampNeg from fun z => h (by rw [z]; decide)), if_neg (show ¬ j = (6 : Int32).toNatClampNeg from fun z => h (by rw [z]; decide)), if_neg (show ¬ j = (5 : Int32).toNatClampNeg from fun z => h (by rw [z]; decide)), if_neg (show ¬ j = (4 : Int32).toNatClampNeg from fun z => h (by rw [z]; decide)), if_neg (show ¬ j = (3 : Int32).toNatClampNeg from fun z => h (by rw [z]; decide)), if_neg (show ¬ j = (2 : Int32).toNatClampNeg from fun z => h (by rw [z]; decide)), if_neg (show ¬ j = (1 : Int32).toNatClampNeg from fun z => h (by rw [z]; decide)), if_neg (show ¬ j = (0 : Int32).toNatClampNeg from fun z => h (by rw [z]; decide))]
    rw [List.getD_eq_getElem?_getD, List.getElem?_eq_none (by simp; omega)]
    rfl
theorem tabR_up : (upd (upd (upd (upd (upd (upd (upd (upd (upd (upd (upd (upd (upd (upd (upd (upd (fun _ => 0) (0 : Int32).toNatClampNeg 0) (1 : Int32).toNatClampNeg 72) (2 : Int32).toNatClampNeg 51) (3 : Int32).toNatClampNeg 36) (4 : Int32).toNatClampNeg 25) (5 : Int32).toNatClampNeg 18) (6 : Int32).toNatClampNeg 13) (7 : Int32).toNatClampNeg 9) (8 : Int32).toNatClampNeg 6) (9 : Int32).toNatClampNeg 4) (10 : Int32).toNatClampNeg 3) (11 : Int32).toNatClampNeg 2) (12 : Int32).toNatClampNeg 2) (13 : Int32).toNatClampNeg 1) (14 : Int32).toNatClampNeg 1) (15 : Int32).toNatClampNeg 1) = tabR := by
  funext j
  by_cases h : j < 16
  · rcases (show j = 0 ∨ j = 1 ∨ j = 2 ∨ j = 3 ∨ j = 4 ∨ j = 5 ∨ j = 6 ∨ j = 7 ∨ j = 8 ∨ j = 9 ∨ j = 10 ∨ j = 11 ∨ j = 12 ∨ j = 13 ∨ j = 14 ∨ j = 15 by omega) with rfl | rfl | rfl | rfl | rfl | rfl | rfl | rfl | rfl | rfl | rfl | rfl | rfl | rfl | rfl | rfl <;> rfl
  · unfold upd tabR
    rw [if_neg (show ¬ j = (15 : Int32).toNatClampNeg from fun z => h (by rw [z]; decide)), if_neg (show ¬ j = (14 : Int32).toNatClampNeg from fun z => h (by rw [z]; decide)), if_neg (show ¬ j = (13 : Int32).toNatClampNeg from fun z => h (by rw [z]; decide)), if_neg (show ¬ j = (12 : Int32).toNatClampNeg from fun z => h (by rw [z]; decide)), if_neg (show ¬ j = (11 : Int32).toNatClampNeg from fun z => h (by rw [z]; decide)), if_neg (show ¬ j = (10 : Int32).toNatClampNeg from fun z => h (by rw [z]; decide)), if_neg (show ¬ j = (9 : Int32).toNatClampNeg from fun z => h (by rw [z]; decide)), if_neg (show ¬ j = (8 : Int32).toNatClampNeg from fun z => h (by rw [z]; decide)), if_neg (show ¬ j = (7 : Int32).toNatClampNeg from fun z => h (by rw [z]; decide)), if_neg (show ¬ j = (6 : Int32).toNatClampNeg from fun z => h (by rw [z]; decide)), if_neg (show ¬ j = (5 : Int32).toNatClampNeg from fun z => h (by rw [z]; decide)), if_neg (show ¬ j = (4 : Int32).toNatClampNeg from fun z => h (by rw [z]; decide)), if_neg (show ¬ j = (3 : Int32).toNatClampNeg from fun z => h (by rw [z]; decide)), if_neg (show ¬ j = (2 : Int32).toNatClampNeg from fun z => h (by rw [z]; decide)), if_neg (show ¬ j = (1 : Int32).toNatClampNeg from fun z => h (by rw [z]; decide)), if_neg (show ¬ j = (0 : Int32).toNatClampNeg from fun z => h (by rw [z]; decide))]
    rw [List.getD_eq_getElem?_getD, List.getElem?_eq_none (by simp; omega)]
    rfl
theorem ex_self {w : va_W} {a : Nat} {e : va_E} (h : (a, e) ∈ w) : Ex w a e w := ⟨h, fun _ _ _ hx => hx, fun _ x hx => ⟨x, hx⟩⟩
set_option maxRecDepth 100000 in
set_option maxHeartbeats 4000000 in
theorem kX3_init (l : Launch) (Z : Zt) (w : va_W) (h : Nat) (hm : (h, .inr (4, (List.range 30).map (mVp (fun _ => h) 0))) ∈ w) : Ct l Z yX3_init cX3_init 1 none 1 12 22 592 w [.ref h] (fun r w1 => r = none ∧ newModel Z w h w1) := by
  refine Ct.start (by decide) (Nat.le_of_ble_eq_true rfl) ?_
  intro p e s m below meth c S hr hlk hnm hA hW hS ls hl
  replace S : CallFix p m c cX3_init 1 s _ TB RX3 := S
  replace hl : lv_has ls 1 [(0, .ref h)] := hl
  have hM : MPart Z w h (fun _ => h) 0 w := ⟨rfl, hm, fun i h1 h2 => by omega, fun i h1 h2 => by omega, fun a b ha hb _ => by omega, fun a x _ hx => hx⟩
  refine lv_aload_n S.1 S.2.1 dX3_init_0 rfl (lv_at hl 0 rfl) ?_
  refine r_obj S tm_X3_1 hl.1 dX3_init_1 (Nat.le_of_ble_eq_true rfl) (Nat.le_of_ble_eq_true rfl) ?_
  generalize hq0 : (fun _ : Nat => h) = q at hM
  clear hq0
  refine lv_aload_n S.1 S.2.1 dX3_init_4 rfl (lv_at hl 0 rfl) ?_
  refine lv_bipush (v := 16) S.1 S.2.1 dX3_init_5 (by decide) ?_
  refine r_newI (K := 16) S hA hW hS ta_I (by decide) (by decide) (by decide) (Nat.le_of_ble_eq_true rfl) (Nat.le_of_ble_eq_true rfl) dX3_init_7 (fun b H hfb hW hS => ?_)
  refine r_putFX (v := .ref b) S hA hW hS (List.mem_append_left _ hM.2.1) (T := TX3) rfl iu_X3 tyX3 tyX3_ok nmX3 2 (by decide) tf_X3_7 rfl hnm rfl rfl rfl (by simp) dX3_init_9 (fun w1 H locs hE1 hW hS => ?_)
  replace hM := mpart_step hM (by decide) hfb (fun a x hx => List.mem_append_left _ hx) (List.mem_append_right _ List.mem_cons_self) hE1
  clear hfb hE1
  generalize uq q (0 + 1) b = q at hM
  refine lv_aload_n S.1 S.2.1 dX3_init_12 rfl (lv_at hl 0 rfl) ?_
  refine lv_bipush (v := 16) S.1 S.2.1 dX3_init_13 (by decide) ?_
  refine r_newI (K := 16) S hA hW hS ta_I (by decide) (by decide) (by decide) (Nat.le_of_ble_eq_true rfl) (Nat.le_of_ble_eq_true rfl) dX3_init_15 (fun b H hfb hW hS => ?_)
  refine r_putFX (v := .ref b) S hA hW hS (List.mem_append_left _ hM.2.1) (T := TX3) rfl iu_X3 tyX3 tyX3_ok nmX3 3 (by decide) tf_X3_13 rfl hnm rfl rfl rfl (by simp) dX3_init_17 (fun w1 H locs hE1 hW hS => ?_)
  replace hM := mpart_step hM (by decide) hfb (fun a x hx => List.mem_append_left _ hx) (List.mem_append_right _ List.mem_cons_self) hE1
  clear hfb hE1
  generalize uq q (1 + 1) b = q at hM
  refine lv_aload_n S.1 S.2.1 dX3_init_20 rfl (lv_at hl 0 rfl) ?_
  refine lv_bipush (v := 16) S.1 S.2.1 dX3_init_21 (by decide) ?_
  refine r_newI (K := 16) S hA hW hS ta_I (by decide) (by decide) (by decide) (Nat.le_of_ble_eq_true rfl) (Nat.le_of_ble_eq_true rfl) dX3_init_23 (fun b H hfb hW hS => ?_)
  refine r_putFX (v := .ref b) S hA hW hS (List.mem_append_left _ hM.2.1) (T := TX3) rfl iu_X3 tyX3 tyX3_ok nmX3 4 (by decide) tf_X3_16 rfl hnm rfl rfl rfl (by simp) dX3_init_25 (fun w1 H locs hE1 hW hS => ?_)
  replace hM := mpart_step hM (by decide) hfb (fun a x hx => List.mem_append_left _ hx) (List.mem_append_right _ List.mem_cons_self) hE1
  clear hfb hE1
  generalize uq q (2 + 1) b = q at hM
  refine lv_aload_n S.1 S.2.1 dX3_init_28 rfl (lv_at hl 0 rfl) ?_
  refine lv_bipush (v := 16) S.1 S.2.1 dX3_init_29 (by decide) ?_
  refine r_newI (K := 16) S hA hW hS ta_I (by decide) (by decide) (by decide) (Nat.le_of_ble_eq_true rfl) (Nat.le_of_ble_eq_true rfl) dX3_init_31 (fun b H hfb hW hS => ?_)
  refine r_putFX (v := .ref b) S hA hW hS (List.mem_append_left _ hM.2.1) (T := TX3) rfl iu_X3 tyX3 tyX3_ok nmX3 5 (by decide) tf_X3_19 rfl hnm rfl rfl rfl (by simp) dX3_init_33 (fun w1 H locs hE1 hW hS => ?_)
  replace hM := mpart_step hM (by decide) hfb (fun a x hx => List.mem_append_left _ hx) (List.mem_append_right _ List.mem_cons_self) hE1
  clear hfb hE1
  generalize uq q (3 + 1) b = q at hM
  refine lv_aload_n S.1 S.2.1 dX3_init_36 rfl (lv_at hl 0 rfl) ?_
  refine lv_bipush (v := 16) S.1 S.2.1 dX3_init_37 (by decide) ?_
  refine r_newI (K := 16) S hA hW hS ta_I (by decide) (by decide) (by decide) (Nat.le_of_ble_eq_true rfl) (Nat.le_of_ble_eq_true rfl) dX3_init_39 (fun b H hfb hW hS => ?_)
  refine r_putFX (v := .ref b) S hA hW hS (List.mem_append_left _ hM.2.1) (T := TX3) rfl iu_X3 tyX3 tyX3_ok nmX3 6 (by decide) tf_X3_22 rfl hnm rfl rfl rfl (by simp) dX3_init_41 (fun w1 H locs hE1 hW hS => ?_)
  replace hM := mpart_step hM (by decide) hfb (fun a x hx => List.mem_append_left _ hx) (List.mem_append_right _ List.mem_cons_self) hE1
  clear hfb hE1
  generalize uq q (4 + 1) b = q at hM
  refine lv_aload_n S.1 S.2.1 dX3_init_44 rfl (lv_at hl 0 rfl) ?_
  refine lv_bipush (v := 16) S.1 S.2.1 dX3_init_45 (by decide) ?_
  refine r_newI (K := 16) S hA hW hS ta_I (by decide) (by decide) (by decide) (Nat.le_of_ble_eq_true rfl) (Nat.le_of_ble_eq_true rfl) dX3_init_47 (fun b H hfb hW hS => ?_)
  refine r_putFX (v := .ref b) S hA hW hS (List.mem_append_left _ hM.2.1) (T := TX3) rfl iu_X3 tyX3 tyX3_ok nmX3 7 (by decide) tf_X3_25 rfl hnm rfl rfl rfl (by simp) dX3_init_49 (fun w1 H locs hE1 hW hS => ?_)
  replace hM := mpart_step hM (by decide) hfb (fun a x hx => List.mem_append_left _ hx) (List.mem_append_right _ List.mem_cons_self) hE1
  clear hfb hE1
  generalize uq q (5 + 1) b = q at hM
  refine lv_aload_n S.1 S.2.1 dX3_init_52 rfl (lv_at hl 0 rfl) ?_
  refine lv_bipush (v := 16) S.1 S.2.1 dX3_init_53 (by decide) ?_
  refine r_newI (K := 16) S hA hW hS ta_I (by decide) (by decide) (by decide) (Nat.le_of_ble_eq_true rfl) (Nat.le_of_ble_eq_true rfl) dX3_init_55 (fun b H hfb hW hS => ?_)
  refine r_putFX (v := .ref b) S hA hW hS (List.mem_append_left _ hM.2.1) (T := TX3) rfl iu_X3 tyX3 tyX3_ok nmX3 8 (by decide) tf_X3_28 rfl hnm rfl rfl rfl (by simp) dX3_init_57 (fun w1 H locs hE1 hW hS => ?_)
  replace hM := mpart_step hM (by decide) hfb (fun a x hx => List.mem_append_left _ hx) (List.mem_append_right _ List.mem_cons_self) hE1
  clear hfb hE1
  generalize uq q (6 + 1) b = q at hM
  refine lv_aload_n S.1 S.2.1 dX3_init_60 rfl (lv_at hl 0 rfl) ?_
  refine lv_bipush (v := 16) S.1 S.2.1 dX3_init_61 (by decide) ?_
  refine r_newI (K := 16) S hA hW hS ta_I (by decide) (by decide) (by decide) (Nat.le_of_ble_eq_true rfl) (Nat.le_of_ble_eq_true rfl) dX3_init_63 (fun b H hfb hW hS => ?_)
  refine r_putFX (v := .ref b) S hA hW hS (List.mem_append_left _ hM.2.1) (T := TX3) rfl iu_X3 tyX3 tyX3_ok nmX3 9 (by decide) tf_X3_31 rfl hnm rfl rfl rfl (by simp) dX3_init_65 (fun w1 H locs hE1 hW hS => ?_)
  replace hM := mpart_step hM (by decide) hfb (fun a x hx => List.mem_append_left _ hx) (List.mem_append_right _ List.mem_cons_self) hE1
  clear hfb hE1
  generalize uq q (7 + 1) b = q at hM
  refine lv_aload_n S.1 S.2.1 dX3_init_68 rfl (lv_at hl 0 rfl) ?_
  refine lv_sipush (v := 256) S.1 S.2.1 dX3_init_69 (by decide) ?_
  refine r_newI (K := 256) S hA hW hS ta_I (by decide) (by decide) (by decide) (Nat.le_of_ble_eq_true rfl) (Nat.le_of_ble_eq_true rfl) dX3_init_72 (fun b H hfb hW hS => ?_)
  refine r_putFX (v := .ref b) S hA hW hS (List.mem_append_left _ hM.2.1) (T := TX3) rfl iu_X3 tyX3 tyX3_ok nmX3 10 (by decide) tf_X3_34 rfl hnm rfl rfl rfl (by simp) dX3_init_74 (fun w1 H locs hE1 hW hS => ?_)
  replace hM := mpart_step hM (by decide) hfb (fun a x hx => List.mem_append_left _ hx) (List.mem_append_right _ List.mem_cons_self) hE1
  clear hfb hE1
  generalize uq q (8 + 1) b = q at hM
  refine lv_aload_n S.1 S.2.1 dX3_init_77 rfl (lv_at hl 0 rfl) ?_
  refine lv_bipush (v := 16) S.1 S.2.1 dX3_init_78 (by decide) ?_
  refine r_newI (K := 16) S hA hW hS ta_I (by decide) (by decide) (by decide) (Nat.le_of_ble_eq_true rfl) (Nat.le_of_ble_eq_true rfl) dX3_init_80 (fun b H hfb hW hS => ?_)
  refine r_putFX (v := .ref b) S hA hW hS (List.mem_append_left _ hM.2.1) (T := TX3) rfl iu_X3 tyX3 tyX3_ok nmX3 11 (by decide) tf_X3_37 rfl hnm rfl rfl rfl (by simp) dX3_init_82 (fun w1 H locs hE1 hW hS => ?_)
  replace hM := mpart_step hM (by decide) hfb (fun a x hx => List.mem_append_left _ hx) (List.mem_append_right _ List.mem_cons_self) hE1
  clear hfb hE1
  generalize uq q (9 + 1) b = q at hM
  refine lv_aload_n S.1 S.2.1 dX3_init_85 rfl (lv_at hl 0 rfl) ?_
  refine lv_bipush (v := 16) S.1 S.2.1 dX3_init_86 (by decide) ?_
  refine r_newI (K := 16) S hA hW hS ta_I (by decide) (by decide) (by decide) (Nat.le_of_ble_eq_true rfl) (Nat.le_of_ble_eq_true rfl) dX3_init_88 (fun b H hfb hW hS => ?_)
  refine r_putFX (v := .ref b) S hA hW hS (List.mem_append_left _ hM.2.1) (T := TX3) rfl iu_X3 tyX3 tyX3_ok nmX3 12 (by decide) tf_X3_40 rfl hnm rfl rfl rfl (by simp) dX3_init_90 (fun w1 H locs hE1 hW hS => ?_)
  replace hM := mpart_step hM (by decide) hfb (fun a x hx => List.mem_append_left _ hx) (List.mem_append_right _ List.mem_cons_self) hE1
  clear hfb hE1
  generalize uq q (10 + 1) b = q at hM
  refine lv_aload_n S.1 S.2.1 dX3_init_93 rfl (lv_at hl 0 rfl) ?_
  refine lv_bipush (v := 16) S.1 S.2.1 dX3_init_94 (by decide) ?_
  refine r_newI (K := 16) S hA hW hS ta_I (by decide) (by decide) (by decide) (Nat.le_of_ble_eq_true rfl) (Nat.le_of_ble_eq_true rfl) dX3_init_96 (fun b H hfb hW hS => ?_)
  refine r_putFX (v := .ref b) S hA hW hS (List.mem_append_left _ hM.2.1) (T := TX3) rfl iu_X3 tyX3 tyX3_ok nmX3 13 (by decide) tf_X3_43 rfl hnm rfl rfl rfl (by simp) dX3_init_98 (fun w1 H locs hE1 hW hS => ?_)
  replace hM := mpart_step hM (by decide) hfb (fun a x hx => List.mem_append_left _ hx) (List.mem_append_right _ List.mem_cons_self) hE1
  clear hfb hE1
  generalize uq q (11 + 1) b = q at hM
  refine lv_aload_n S.1 S.2.1 dX3_init_101 rfl (lv_at hl 0 rfl) ?_
  refine lv_bipush (v := 16) S.1 S.2.1 dX3_init_102 (by decide) ?_
  refine r_newI (K := 16) S hA hW hS ta_I (by decide) (by decide) (by decide) (Nat.le_of_ble_eq_true rfl) (Nat.le_of_ble_eq_true rfl) dX3_init_104 (fun b H hfb hW hS => ?_)
  refine r_putFX (v := .ref b) S hA hW hS (List.mem_append_left _ hM.2.1) (T := TX3) rfl iu_X3 tyX3 tyX3_ok nmX3 14 (by decide) tf_X3_46 rfl hnm rfl rfl rfl (by simp) dX3_init_106 (fun w1 H locs hE1 hW hS => ?_)
  replace hM := mpart_step hM (by decide) hfb (fun a x hx => List.mem_append_left _ hx) (List.mem_append_right _ List.mem_cons_self) hE1
  clear hfb hE1
  generalize uq q (12 + 1) b = q at hM
  refine lv_aload_n S.1 S.2.1 dX3_init_109 rfl (lv_at hl 0 rfl) ?_
  refine lv_bipush (v := 16) S.1 S.2.1 dX3_init_110 (by decide) ?_
  refine r_newI (K := 16) S hA hW hS ta_I (by decide) (by decide) (by decide) (Nat.le_of_ble_eq_true rfl) (Nat.le_of_ble_eq_true rfl) dX3_init_112 (fun b H hfb hW hS => ?_)
  refine r_putFX (v := .ref b) S hA hW hS (List.mem_append_left _ hM.2.1) (T := TX3) rfl iu_X3 tyX3 tyX3_ok nmX3 15 (by decide) tf_X3_49 rfl hnm rfl rfl rfl (by simp) dX3_init_114 (fun w1 H locs hE1 hW hS => ?_)
  replace hM := mpart_step hM (by decide) hfb (fun a x hx => List.mem_append_left _ hx) (List.mem_append_right _ List.mem_cons_self) hE1
  clear hfb hE1
  generalize uq q (13 + 1) b = q at hM
  refine lv_aload_n S.1 S.2.1 dX3_init_117 rfl (lv_at hl 0 rfl) ?_
  refine lv_bipush (v := 16) S.1 S.2.1 dX3_init_118 (by decide) ?_
  refine r_newZ (K := 16) S hA hW hS ta_Z (by decide) (by decide) (by decide) (Nat.le_of_ble_eq_true rfl) (Nat.le_of_ble_eq_true rfl) dX3_init_120 (fun b H hfb hW hS => ?_)
  refine r_putFX (v := .ref b) S hA hW hS (List.mem_append_left _ hM.2.1) (T := TX3) rfl iu_X3 tyX3 tyX3_ok nmX3 16 (by decide) tf_X3_52 rfl hnm rfl rfl rfl (by simp) dX3_init_122 (fun w1 H locs hE1 hW hS => ?_)
  replace hM := mpart_step hM (by decide) hfb (fun a x hx => List.mem_append_left _ hx) (List.mem_append_right _ List.mem_cons_self) hE1
  clear hfb hE1
  generalize uq q (14 + 1) b = q at hM
  refine lv_aload_n S.1 S.2.1 dX3_init_125 rfl (lv_at hl 0 rfl) ?_
  refine lv_bipush (v := 16) S.1 S.2.1 dX3_init_126 (by decide) ?_
  refine r_newZ (K := 16) S hA hW hS ta_Z (by decide) (by decide) (by decide) (Nat.le_of_ble_eq_true rfl) (Nat.le_of_ble_eq_true rfl) dX3_init_128 (fun b H hfb hW hS => ?_)
  refine r_putFX (v := .ref b) S hA hW hS (List.mem_append_left _ hM.2.1) (T := TX3) rfl iu_X3 tyX3 tyX3_ok nmX3 17 (by decide) tf_X3_56 rfl hnm rfl rfl rfl (by simp) dX3_init_130 (fun w1 H locs hE1 hW hS => ?_)
  replace hM := mpart_step hM (by decide) hfb (fun a x hx => List.mem_append_left _ hx) (List.mem_append_right _ List.mem_cons_self) hE1
  clear hfb hE1
  generalize uq q (15 + 1) b = q at hM
  refine lv_aload_n S.1 S.2.1 dX3_init_133 rfl (lv_at hl 0 rfl) ?_
  refine lv_bipush (v := 16) S.1 S.2.1 dX3_init_134 (by decide) ?_
  refine r_newI (K := 16) S hA hW hS ta_I (by decide) (by decide) (by decide) (Nat.le_of_ble_eq_true rfl) (Nat.le_of_ble_eq_true rfl) dX3_init_136 (fun b H hfb hW hS => ?_)
  refine r_putFX (v := .ref b) S hA hW hS (List.mem_append_left _ hM.2.1) (T := TX3) rfl iu_X3 tyX3 tyX3_ok nmX3 18 (by decide) tf_X3_59 rfl hnm rfl rfl rfl (by simp) dX3_init_138 (fun w1 H locs hE1 hW hS => ?_)
  replace hM := mpart_step hM (by decide) hfb (fun a x hx => List.mem_append_left _ hx) (List.mem_append_right _ List.mem_cons_self) hE1
  clear hfb hE1
  generalize uq q (16 + 1) b = q at hM
  refine lv_aload_n S.1 S.2.1 dX3_init_141 rfl (lv_at hl 0 rfl) ?_
  refine lv_bipush (v := 16) S.1 S.2.1 dX3_init_142 (by decide) ?_
  refine r_newI (K := 16) S hA hW hS ta_I (by decide) (by decide) (by decide) (Nat.le_of_ble_eq_true rfl) (Nat.le_of_ble_eq_true rfl) dX3_init_144 (fun b H hfb hW hS => ?_)
  refine r_putFX (v := .ref b) S hA hW hS (List.mem_append_left _ hM.2.1) (T := TX3) rfl iu_X3 tyX3 tyX3_ok nmX3 19 (by decide) tf_X3_62 rfl hnm rfl rfl rfl (by simp) dX3_init_146 (fun w1 H locs hE1 hW hS => ?_)
  replace hM := mpart_step hM (by decide) hfb (fun a x hx => List.mem_append_left _ hx) (List.mem_append_right _ List.mem_cons_self) hE1
  clear hfb hE1
  generalize uq q (17 + 1) b = q at hM
  refine lv_aload_n S.1 S.2.1 dX3_init_149 rfl (lv_at hl 0 rfl) ?_
  refine lv_bipush (v := 16) S.1 S.2.1 dX3_init_150 (by decide) ?_
  refine r_newI (K := 16) S hA hW hS ta_I (by decide) (by decide) (by decide) (Nat.le_of_ble_eq_true rfl) (Nat.le_of_ble_eq_true rfl) dX3_init_152 (fun b H hfb hW hS => ?_)
  refine r_putFX (v := .ref b) S hA hW hS (List.mem_append_left _ hM.2.1) (T := TX3) rfl iu_X3 tyX3 tyX3_ok nmX3 20 (by decide) tf_X3_65 rfl hnm rfl rfl rfl (by simp) dX3_init_154 (fun w1 H locs hE1 hW hS => ?_)
  replace hM := mpart_step hM (by decide) hfb (fun a x hx => List.mem_append_left _ hx) (List.mem_append_right _ List.mem_cons_self) hE1
  clear hfb hE1
  generalize uq q (18 + 1) b = q at hM
  refine lv_aload_n S.1 S.2.1 dX3_init_157 rfl (lv_at hl 0 rfl) ?_
  refine lv_bipush (v := 16) S.1 S.2.1 dX3_init_158 (by decide) ?_
  refine r_newI (K := 16) S hA hW hS ta_I (by decide) (by decide) (by decide) (Nat.le_of_ble_eq_true rfl) (Nat.le_of_ble_eq_true rfl) dX3_init_160 (fun b H hfb hW hS => ?_)
  refine r_putFX (v := .ref b) S hA hW hS (List.mem_append_left _ hM.2.1) (T := TX3) rfl iu_X3 tyX3 tyX3_ok nmX3 21 (by decide) tf_X3_68 rfl hnm rfl rfl rfl (by simp) dX3_init_162 (fun w1 H locs hE1 hW hS => ?_)
  replace hM := mpart_step hM (by decide) hfb (fun a x hx => List.mem_append_left _ hx) (List.mem_append_right _ List.mem_cons_self) hE1
  clear hfb hE1
  generalize uq q (19 + 1) b = q at hM
  refine lv_aload_n S.1 S.2.1 dX3_init_165 rfl (lv_at hl 0 rfl) ?_
  refine lv_bipush (v := 16) S.1 S.2.1 dX3_init_166 (by decide) ?_
  refine r_newI (K := 16) S hA hW hS ta_I (by decide) (by decide) (by decide) (Nat.le_of_ble_eq_true rfl) (Nat.le_of_ble_eq_true rfl) dX3_init_168 (fun b H hfb hW hS => ?_)
  have hE : Ex (w1 ++ [(b, .inl (zI Z, 16, .inl (fun _ => 0)))]) b (.inl (zI Z, 16, .inl (fun _ => 0))) (w1 ++ [(b, .inl (zI Z, 16, .inl (fun _ => 0)))]) := ex_self (List.mem_append_right _ List.mem_cons_self)
  refine lv_dup S.1 S.2.1 dX3_init_170 rfl ?_
  refine lv_iconst (v := 0) S.1 S.2.1 dX3_init_171 (by decide) ?_
  refine lv_iconst (v := 0) S.1 S.2.1 dX3_init_172 (by decide) ?_
  refine r_iastX (i := 0) (x := 0) S hA hW hS hE.1 (by unfold vp_in; decide) dX3_init_173 (fun w2 H locs hE2 hW hS => ?_)
  replace hE := hE.trans hE2
  clear hE2
  refine lv_dup S.1 S.2.1 dX3_init_174 rfl ?_
  refine lv_iconst (v := 1) S.1 S.2.1 dX3_init_175 (by decide) ?_
  refine lv_bipush (v := 7) S.1 S.2.1 dX3_init_176 (by decide) ?_
  refine r_iastX (i := 1) (x := 7) S hA hW hS hE.1 (by unfold vp_in; decide) dX3_init_178 (fun w2 H locs hE2 hW hS => ?_)
  replace hE := hE.trans hE2
  clear hE2
  refine lv_dup S.1 S.2.1 dX3_init_179 rfl ?_
  refine lv_iconst (v := 2) S.1 S.2.1 dX3_init_180 (by decide) ?_
  refine lv_bipush (v := 10) S.1 S.2.1 dX3_init_181 (by decide) ?_
  refine r_iastX (i := 2) (x := 10) S hA hW hS hE.1 (by unfold vp_in; decide) dX3_init_183 (fun w2 H locs hE2 hW hS => ?_)
  replace hE := hE.trans hE2
  clear hE2
  refine lv_dup S.1 S.2.1 dX3_init_184 rfl ?_
  refine lv_iconst (v := 3) S.1 S.2.1 dX3_init_185 (by decide) ?_
  refine lv_bipush (v := 14) S.1 S.2.1 dX3_init_186 (by decide) ?_
  refine r_iastX (i := 3) (x := 14) S hA hW hS hE.1 (by unfold vp_in; decide) dX3_init_188 (fun w2 H locs hE2 hW hS => ?_)
  replace hE := hE.trans hE2
  clear hE2
  refine lv_dup S.1 S.2.1 dX3_init_189 rfl ?_
  refine lv_iconst (v := 4) S.1 S.2.1 dX3_init_190 (by decide) ?_
  refine lv_bipush (v := 20) S.1 S.2.1 dX3_init_191 (by decide) ?_
  refine r_iastX (i := 4) (x := 20) S hA hW hS hE.1 (by unfold vp_in; decide) dX3_init_193 (fun w2 H locs hE2 hW hS => ?_)
  replace hE := hE.trans hE2
  clear hE2
  refine lv_dup S.1 S.2.1 dX3_init_194 rfl ?_
  refine lv_iconst (v := 5) S.1 S.2.1 dX3_init_195 (by decide) ?_
  refine lv_bipush (v := 28) S.1 S.2.1 dX3_init_196 (by decide) ?_
  refine r_iastX (i := 5) (x := 28) S hA hW hS hE.1 (by unfold vp_in; decide) dX3_init_198 (fun w2 H locs hE2 hW hS => ?_)
  replace hE := hE.trans hE2
  clear hE2
  refine lv_dup S.1 S.2.1 dX3_init_199 rfl ?_
  refine lv_bipush (v := 6) S.1 S.2.1 dX3_init_200 (by decide) ?_
  refine lv_bipush (v := 40) S.1 S.2.1 dX3_init_202 (by decide) ?_
  refine r_iastX (i := 6) (x := 40) S hA hW hS hE.1 (by unfold vp_in; decide) dX3_init_204 (fun w2 H locs hE2 hW hS => ?_)
  replace hE := hE.trans hE2
  clear hE2
  refine lv_dup S.1 S.2.1 dX3_init_205 rfl ?_
  refine lv_bipush (v := 7) S.1 S.2.1 dX3_init_206 (by decide) ?_
  refine lv_bipush (v := 57) S.1 S.2.1 dX3_init_208 (by decide) ?_
  refine r_iastX (i := 7) (x := 57) S hA hW hS hE.1 (by unfold vp_in; decide) dX3_init_210 (fun w2 H locs hE2 hW hS => ?_)
  replace hE := hE.trans hE2
  clear hE2
  refine lv_dup S.1 S.2.1 dX3_init_211 rfl ?_
  refine lv_bipush (v := 8) S.1 S.2.1 dX3_init_212 (by decide) ?_
  refine lv_bipush (v := 80) S.1 S.2.1 dX3_init_214 (by decide) ?_
  refine r_iastX (i := 8) (x := 80) S hA hW hS hE.1 (by unfold vp_in; decide) dX3_init_216 (fun w2 H locs hE2 hW hS => ?_)
  replace hE := hE.trans hE2
  clear hE2
  refine lv_dup S.1 S.2.1 dX3_init_217 rfl ?_
  refine lv_bipush (v := 9) S.1 S.2.1 dX3_init_218 (by decide) ?_
  refine lv_bipush (v := 113) S.1 S.2.1 dX3_init_220 (by decide) ?_
  refine r_iastX (i := 9) (x := 113) S hA hW hS hE.1 (by unfold vp_in; decide) dX3_init_222 (fun w2 H locs hE2 hW hS => ?_)
  replace hE := hE.trans hE2
  clear hE2
  refine lv_dup S.1 S.2.1 dX3_init_223 rfl ?_
  refine lv_bipush (v := 10) S.1 S.2.1 dX3_init_224 (by decide) ?_
  refine lv_sipush (v := 160) S.1 S.2.1 dX3_init_226 (by decide) ?_
  refine r_iastX (i := 10) (x := 160) S hA hW hS hE.1 (by unfold vp_in; decide) dX3_init_229 (fun w2 H locs hE2 hW hS => ?_)
  replace hE := hE.trans hE2
  clear hE2
  refine lv_dup S.1 S.2.1 dX3_init_230 rfl ?_
  refine lv_bipush (v := 11) S.1 S.2.1 dX3_init_231 (by decide) ?_
  refine lv_sipush (v := 226) S.1 S.2.1 dX3_init_233 (by decide) ?_
  refine r_iastX (i := 11) (x := 226) S hA hW hS hE.1 (by unfold vp_in; decide) dX3_init_236 (fun w2 H locs hE2 hW hS => ?_)
  replace hE := hE.trans hE2
  clear hE2
  refine lv_dup S.1 S.2.1 dX3_init_237 rfl ?_
  refine lv_bipush (v := 12) S.1 S.2.1 dX3_init_238 (by decide) ?_
  refine lv_sipush (v := 320) S.1 S.2.1 dX3_init_240 (by decide) ?_
  refine r_iastX (i := 12) (x := 320) S hA hW hS hE.1 (by unfold vp_in; decide) dX3_init_243 (fun w2 H locs hE2 hW hS => ?_)
  replace hE := hE.trans hE2
  clear hE2
  refine lv_dup S.1 S.2.1 dX3_init_244 rfl ?_
  refine lv_bipush (v := 13) S.1 S.2.1 dX3_init_245 (by decide) ?_
  refine lv_sipush (v := 453) S.1 S.2.1 dX3_init_247 (by decide) ?_
  refine r_iastX (i := 13) (x := 453) S hA hW hS hE.1 (by unfold vp_in; decide) dX3_init_250 (fun w2 H locs hE2 hW hS => ?_)
  replace hE := hE.trans hE2
  clear hE2
  refine lv_dup S.1 S.2.1 dX3_init_251 rfl ?_
  refine lv_bipush (v := 14) S.1 S.2.1 dX3_init_252 (by decide) ?_
  refine lv_sipush (v := 640) S.1 S.2.1 dX3_init_254 (by decide) ?_
  refine r_iastX (i := 14) (x := 640) S hA hW hS hE.1 (by unfold vp_in; decide) dX3_init_257 (fun w2 H locs hE2 hW hS => ?_)
  replace hE := hE.trans hE2
  clear hE2
  refine lv_dup S.1 S.2.1 dX3_init_258 rfl ?_
  refine lv_bipush (v := 15) S.1 S.2.1 dX3_init_259 (by decide) ?_
  refine lv_sipush (v := 905) S.1 S.2.1 dX3_init_261 (by decide) ?_
  refine r_iastX (i := 15) (x := 905) S hA hW hS hE.1 (by unfold vp_in; decide) dX3_init_264 (fun w2 H locs hE2 hW hS => ?_)
  replace hE := hE.trans hE2
  clear hE2
  have hh : (h, _) ∈ w2 := hE.2.1 h _ (fun z => hfb _ (z ▸ hM.2.1)) (List.mem_append_left _ hM.2.1)
  have he : (b, (.inl (zI Z, 16, .inl tabT) : va_E)) ∈ w2 := by rw [← tabT_up]; exact hE.1
  refine r_putFX (v := .ref b) S hA hW hS hh (T := TX3) rfl iu_X3 tyX3 tyX3_ok nmX3 22 (by decide) tf_X3_71 rfl hnm rfl rfl rfl (by simp) dX3_init_265 (fun w1 H locs hE1 hW hS => ?_)
  replace hM := mpart_step hM (by decide) hfb (fun a x hx => hE.2.1 a x (fun z => hfb x (z ▸ hx)) (List.mem_append_left _ hx)) he hE1
  clear hfb hE1 hE hh he
  generalize uq q (20 + 1) b = q at hM
  refine lv_aload_n S.1 S.2.1 dX3_init_268 rfl (lv_at hl 0 rfl) ?_
  refine lv_bipush (v := 16) S.1 S.2.1 dX3_init_269 (by decide) ?_
  refine r_newI (K := 16) S hA hW hS ta_I (by decide) (by decide) (by decide) (Nat.le_of_ble_eq_true rfl) (Nat.le_of_ble_eq_true rfl) dX3_init_271 (fun b H hfb hW hS => ?_)
  have hE : Ex (w1 ++ [(b, .inl (zI Z, 16, .inl (fun _ => 0)))]) b (.inl (zI Z, 16, .inl (fun _ => 0))) (w1 ++ [(b, .inl (zI Z, 16, .inl (fun _ => 0)))]) := ex_self (List.mem_append_right _ List.mem_cons_self)
  refine lv_dup S.1 S.2.1 dX3_init_273 rfl ?_
  refine lv_iconst (v := 0) S.1 S.2.1 dX3_init_274 (by decide) ?_
  refine lv_iconst (v := 0) S.1 S.2.1 dX3_init_275 (by decide) ?_
  refine r_iastX (i := 0) (x := 0) S hA hW hS hE.1 (by unfold vp_in; decide) dX3_init_276 (fun w2 H locs hE2 hW hS => ?_)
  replace hE := hE.trans hE2
  clear hE2
  refine lv_dup S.1 S.2.1 dX3_init_277 rfl ?_
  refine lv_iconst (v := 1) S.1 S.2.1 dX3_init_278 (by decide) ?_
  refine lv_bipush (v := 72) S.1 S.2.1 dX3_init_279 (by decide) ?_
  refine r_iastX (i := 1) (x := 72) S hA hW hS hE.1 (by unfold vp_in; decide) dX3_init_281 (fun w2 H locs hE2 hW hS => ?_)
  replace hE := hE.trans hE2
  clear hE2
  refine lv_dup S.1 S.2.1 dX3_init_282 rfl ?_
  refine lv_iconst (v := 2) S.1 S.2.1 dX3_init_283 (by decide) ?_
  refine lv_bipush (v := 51) S.1 S.2.1 dX3_init_284 (by decide) ?_
  refine r_iastX (i := 2) (x := 51) S hA hW hS hE.1 (by unfold vp_in; decide) dX3_init_286 (fun w2 H locs hE2 hW hS => ?_)
  replace hE := hE.trans hE2
  clear hE2
  refine lv_dup S.1 S.2.1 dX3_init_287 rfl ?_
  refine lv_iconst (v := 3) S.1 S.2.1 dX3_init_288 (by decide) ?_
  refine lv_bipush (v := 36) S.1 S.2.1 dX3_init_289 (by decide) ?_
  refine r_iastX (i := 3) (x := 36) S hA hW hS hE.1 (by unfold vp_in; decide) dX3_init_291 (fun w2 H locs hE2 hW hS => ?_)
  replace hE := hE.trans hE2
  clear hE2
  refine lv_dup S.1 S.2.1 dX3_init_292 rfl ?_
  refine lv_iconst (v := 4) S.1 S.2.1 dX3_init_293 (by decide) ?_
  refine lv_bipush (v := 25) S.1 S.2.1 dX3_init_294 (by decide) ?_
  refine r_iastX (i := 4) (x := 25) S hA hW hS hE.1 (by unfold vp_in; decide) dX3_init_296 (fun w2 H locs hE2 hW hS => ?_)
  replace hE := hE.trans hE2
  clear hE2
  refine lv_dup S.1 S.2.1 dX3_init_297 rfl ?_
  refine lv_iconst (v := 5) S.1 S.2.1 dX3_init_298 (by decide) ?_
  refine lv_bipush (v := 18) S.1 S.2.1 dX3_init_299 (by decide) ?_
  refine r_iastX (i := 5) (x := 18) S hA hW hS hE.1 (by unfold vp_in; decide) dX3_init_301 (fun w2 H locs hE2 hW hS => ?_)
  replace hE := hE.trans hE2
  clear hE2
  refine lv_dup S.1 S.2.1 dX3_init_302 rfl ?_
  refine lv_bipush (v := 6) S.1 S.2.1 dX3_init_303 (by decide) ?_
  refine lv_bipush (v := 13) S.1 S.2.1 dX3_init_305 (by decide) ?_
  refine r_iastX (i := 6) (x := 13) S hA hW hS hE.1 (by unfold vp_in; decide) dX3_init_307 (fun w2 H locs hE2 hW hS => ?_)
  replace hE := hE.trans hE2
  clear hE2
  refine lv_dup S.1 S.2.1 dX3_init_308 rfl ?_
  refine lv_bipush (v := 7) S.1 S.2.1 dX3_init_309 (by decide) ?_
  refine lv_bipush (v := 9) S.1 S.2.1 dX3_init_311 (by decide) ?_
  refine r_iastX (i := 7) (x := 9) S hA hW hS hE.1 (by unfold vp_in; decide) dX3_init_313 (fun w2 H locs hE2 hW hS => ?_)
  replace hE := hE.trans hE2
  clear hE2
  refine lv_dup S.1 S.2.1 dX3_init_314 rfl ?_
  refine lv_bipush (v := 8) S.1 S.2.1 dX3_init_315 (by decide) ?_
  refine lv_bipush (v := 6) S.1 S.2.1 dX3_init_317 (by decide) ?_
  refine r_iastX (i := 8) (x := 6) S hA hW hS hE.1 (by unfold vp_in; decide) dX3_init_319 (fun w2 H locs hE2 hW hS => ?_)
  replace hE := hE.trans hE2
  clear hE2
  refine lv_dup S.1 S.2.1 dX3_init_320 rfl ?_
  refine lv_bipush (v := 9) S.1 S.2.1 dX3_init_321 (by decide) ?_
  refine lv_iconst (v := 4) S.1 S.2.1 dX3_init_323 (by decide) ?_
  refine r_iastX (i := 9) (x := 4) S hA hW hS hE.1 (by unfold vp_in; decide) dX3_init_324 (fun w2 H locs hE2 hW hS => ?_)
  replace hE := hE.trans hE2
  clear hE2
  refine lv_dup S.1 S.2.1 dX3_init_325 rfl ?_
  refine lv_bipush (v := 10) S.1 S.2.1 dX3_init_326 (by decide) ?_
  refine lv_iconst (v := 3) S.1 S.2.1 dX3_init_328 (by decide) ?_
  refine r_iastX (i := 10) (x := 3) S hA hW hS hE.1 (by unfold vp_in; decide) dX3_init_329 (fun w2 H locs hE2 hW hS => ?_)
  replace hE := hE.trans hE2
  clear hE2
  refine lv_dup S.1 S.2.1 dX3_init_330 rfl ?_
  refine lv_bipush (v := 11) S.1 S.2.1 dX3_init_331 (by decide) ?_
  refine lv_iconst (v := 2) S.1 S.2.1 dX3_init_333 (by decide) ?_
  refine r_iastX (i := 11) (x := 2) S hA hW hS hE.1 (by unfold vp_in; decide) dX3_init_334 (fun w2 H locs hE2 hW hS => ?_)
  replace hE := hE.trans hE2
  clear hE2
  refine lv_dup S.1 S.2.1 dX3_init_335 rfl ?_
  refine lv_bipush (v := 12) S.1 S.2.1 dX3_init_336 (by decide) ?_
  refine lv_iconst (v := 2) S.1 S.2.1 dX3_init_338 (by decide) ?_
  refine r_iastX (i := 12) (x := 2) S hA hW hS hE.1 (by unfold vp_in; decide) dX3_init_339 (fun w2 H locs hE2 hW hS => ?_)
  replace hE := hE.trans hE2
  clear hE2
  refine lv_dup S.1 S.2.1 dX3_init_340 rfl ?_
  refine lv_bipush (v := 13) S.1 S.2.1 dX3_init_341 (by decide) ?_
  refine lv_iconst (v := 1) S.1 S.2.1 dX3_init_343 (by decide) ?_
  refine r_iastX (i := 13) (x := 1) S hA hW hS hE.1 (by unfold vp_in; decide) dX3_init_344 (fun w2 H locs hE2 hW hS => ?_)
  replace hE := hE.trans hE2
  clear hE2
  refine lv_dup S.1 S.2.1 dX3_init_345 rfl ?_
  refine lv_bipush (v := 14) S.1 S.2.1 dX3_init_346 (by decide) ?_
  refine lv_iconst (v := 1) S.1 S.2.1 dX3_init_348 (by decide) ?_
  refine r_iastX (i := 14) (x := 1) S hA hW hS hE.1 (by unfold vp_in; decide) dX3_init_349 (fun w2 H locs hE2 hW hS => ?_)
  replace hE := hE.trans hE2
  clear hE2
  refine lv_dup S.1 S.2.1 dX3_init_350 rfl ?_
  refine lv_bipush (v := 15) S.1 S.2.1 dX3_init_351 (by decide) ?_
  refine lv_iconst (v := 1) S.1 S.2.1 dX3_init_353 (by decide) ?_
  refine r_iastX (i := 15) (x := 1) S hA hW hS hE.1 (by unfold vp_in; decide) dX3_init_354 (fun w2 H locs hE2 hW hS => ?_)
  replace hE := hE.trans hE2
  clear hE2
  have hh : (h, _) ∈ w2 := hE.2.1 h _ (fun z => hfb _ (z ▸ hM.2.1)) (List.mem_append_left _ hM.2.1)
  have he : (b, (.inl (zI Z, 16, .inl tabR) : va_E)) ∈ w2 := by rw [← tabR_up]; exact hE.1
  refine r_putFX (v := .ref b) S hA hW hS hh (T := TX3) rfl iu_X3 tyX3 tyX3_ok nmX3 23 (by decide) tf_X3_74 rfl hnm rfl rfl rfl (by simp) dX3_init_355 (fun w1 H locs hE1 hW hS => ?_)
  replace hM := mpart_step hM (by decide) hfb (fun a x hx => hE.2.1 a x (fun z => hfb x (z ▸ hx)) (List.mem_append_left _ hx)) he hE1
  clear hfb hE1 hE hh he
  generalize uq q (21 + 1) b = q at hM
  exact r_vret S hr hlk hW hS ⟨rfl, mpart_end hM⟩ dX3_init_358
