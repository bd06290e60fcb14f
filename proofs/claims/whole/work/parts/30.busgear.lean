/-! A GEAR MORE -/
theorem gE_q {Z : Zt} {q q' : Nat → Nat} {G : Nat → Int32} {r : Nat} (h1 : q 1 = q' 1) (h2 : q 2 = q' 2) : gE Z q G r = gE Z q' G r := by
  unfold gE
  have e : gearV q G = gearV q' G := by
    funext k
    unfold gearV
    rw [h1, h2]
  rw [e]
def GR (Z : Zt) (ws : va_W) (n : Nat) (q : Nat → Nat) (T : Nat → Nat → Int32) (w1 : va_W) : Prop := ∃ (q' : Nat → Nat) (cap' : Nat), (∀ k, k < bN (n + 1) → (q' k, bE Z (n + 1) cap' q' (upG T n newG) k) ∈ w1) ∧ (∀ j k, j < bN (n + 1) → k < bN (n + 1) → q' j = q' k → j = k) ∧ n + 1 ≤ cap' ∧ (cap' = 10 ∨ cap' = 15 ∨ cap' = 22) ∧ q' 0 = q 0 ∧ (∀ k, k < bN (n + 1) → (∃ j, j < bN n ∧ q' k = q j) ∨ ∀ y, (q' k, y) ∉ ws) ∧ (∀ a x, (∀ k, k < bN n → q k ≠ a) → (a, x) ∈ ws → (a, x) ∈ w1)
def gearP (Z : Zt) (ws : va_W) (n cap : Nat) (q : Nat → Nat) (T : Nat → Nat → Int32) (r : Option Value) (w : va_W) : Prop := (n = 16 ∧ r = some (.int (-2)) ∧ w = bw Z ws n cap q T) ∨ (n < 16 ∧ r = some (.int (nI (n + 1) - 1)) ∧ GR Z ws n q T w)
def qn (n : Nat) (q : Nat → Nat) (a b c d : Nat) (k : Nat) : Nat := if k = 2 then a else if k < 3 + 3 * n then q k else if k = 3 + 3 * n then b else if k = 3 + 3 * n + 1 then c else d
theorem qn_2 {n : Nat} {q : Nat → Nat} {a b c d : Nat} : qn n q a b c d 2 = a := rfl
theorem qn_lt {n : Nat} {q : Nat → Nat} {a b c d k : Nat} (h : k < 3 + 3 * n) (h2 : k ≠ 2) : qn n q a b c d k = q k := by unfold qn; rw [if_neg h2, if_pos h]
theorem qn_g {n : Nat} {q : Nat → Nat} {a b c d r : Nat} (hr : r < 3) : qn n q a b c d (3 + 3 * n + r) = q3 b c d r := by
  unfold qn q3
  rw [if_neg (by omega), if_neg (by omega)]
  rcases (show r = 0 ∨ r = 1 ∨ r = 2 by omega) with rfl | rfl | rfl
  · rw [if_pos (by omega), if_pos rfl]
  · rw [if_neg (by omega), if_pos (by omega), if_neg (by omega), if_pos rfl]
  · rw [if_neg (by omega), if_neg (by omega), if_neg (by omega), if_neg (by omega)]
set_option maxHeartbeats 1000000 in
/-- the cells of the grown bus, out of what the constructor and the list say -/
theorem grown {Z : Zt} {ws w1 w2 : va_W} {n cap : Nat} {q : Nat → Nat} {T : Nat → Nat → Int32} {g0 : va_E} {b : Nat} (hB : BK ws n cap q) (hn : n < 16) (hfb : ∀ y, (b, y) ∉ bw Z ws n cap q T) (hG : newGear Z (bw Z ws n cap q T ++ [(b, g0)]) b w1) (hAD : AD Z w1 (q 1) n (if n = 0 then zE Z else q 2) b (nI n + 1) (arrF n q) w2) (hm1 : ∀ k, k < bN n → (q k, bE Z n cap q T k) ∈ w1) : GR Z ws n q T w2 := by
  obtain ⟨c, d, hfc, hfd, hcd, hcell, hold⟩ := hG
  obtain ⟨a, cap', p1, p2, p3, p4, p5, p6⟩ := hAD
  obtain ⟨hF, -, hcap, -⟩ := hB
  have hN : bN (n + 1) = 3 + 3 * (n + 1) := by unfold bN; rw [if_neg (by omega)]
  have hqw : ∀ k, k < bN n → (q k, bE Z n cap q T k) ∈ bw Z ws n cap q T := fun k hk => fo_mem hF k hk
  have hqa : ∀ k, k < bN n → q k ≠ b := fun k hk z => hfb _ (z ▸ hqw k hk)
  have hqc : ∀ k, k < bN n → q k ≠ c := fun k hk z => hfc _ (List.mem_append_left _ (z ▸ hqw k hk))
  have hqd : ∀ k, k < bN n → q k ≠ d := fun k hk z => hfd _ (List.mem_append_left _ (z ▸ hqw k hk))
  have hbc : b ≠ c := fun z => hfc g0 (by rw [← z]; exact List.mem_append_right _ List.mem_cons_self)
  have hbd : b ≠ d := fun z => hfd g0 (by rw [← z]; exact List.mem_append_right _ List.mem_cons_self)
  have g3 : ∀ r, r < 3 → (q3 b c d r, gE Z (q3 b c d) newG r) ∈ w1 := hcell
  have hq31 : ∀ r, r < 3 → q3 b c d r ≠ q 1 := by
    intro r hr z
    rcases (show r = 0 ∨ r = 1 ∨ r = 2 by omega) with rfl | rfl | rfl
    · exact hqa 1 (bN_1 n) z.symm
    · exact hqc 1 (bN_1 n) z.symm
    · exact hqd 1 (bN_1 n) z.symm
  -- the array's address
  have ha : (0 < n ∧ a = q 2) ∨ ∀ y, (a, y) ∉ w1 := by
    rcases p5 with ⟨h0, h⟩ | h
    · exact Or.inl ⟨h0, by rw [if_neg (by omega)] at h; exact h⟩
    · exact Or.inr h
  have haq : ∀ k, k < bN n → k ≠ 2 → q k ≠ a := by
    intro k hk h2 z
    rcases ha with ⟨h0, h⟩ | h
    · exact h2 (hF.2 k 2 hk (bN_2 (i := 0) h0) (z.trans h))
    · exact h _ (z ▸ hm1 k hk)
  have ha3 : ∀ r, r < 3 → q3 b c d r ≠ a := by
    intro r hr z
    rcases ha with ⟨h0, h⟩ | h
    · have h2 := bN_2 (i := 0) h0
      rcases (show r = 0 ∨ r = 1 ∨ r = 2 by omega) with rfl | rfl | rfl
      · exact hqa 2 h2 (h.symm.trans z.symm)
      · exact hqc 2 h2 (h.symm.trans z.symm)
      · exact hqd 2 h2 (h.symm.trans z.symm)
    · exact h _ (z ▸ g3 r hr)
  have hlt : ∀ k, k < 3 + 3 * n → k ≠ 2 → k < bN n := by
    intro k hk h2
    unfold bN
    split <;> omega
  have hq33 : ∀ r t, r < 3 → t < 3 → q3 b c d r = q3 b c d t → r = t := by
    intro r t hr ht h
    rcases (show r = 0 ∨ r = 1 ∨ r = 2 by omega) with rfl | rfl | rfl <;> rcases (show t = 0 ∨ t = 1 ∨ t = 2 by omega) with rfl | rfl | rfl <;> first | rfl | exact absurd h hbc | exact absurd h hbd | exact absurd h hcd | exact absurd h.symm hbc | exact absurd h.symm hbd | exact absurd h.symm hcd
  have hq3q : ∀ r k, r < 3 → k < bN n → q k ≠ q3 b c d r := by
    intro r k hr hk z
    rcases (show r = 0 ∨ r = 1 ∨ r = 2 by omega) with rfl | rfl | rfl
    · exact hqa k hk z
    · exact hqc k hk z
    · exact hqd k hk z
  refine ⟨qn n q a b c d, cap', ?_, ?_, p3, p4, qn_lt (by omega) (by omega), ?_, ?_⟩
  · intro k hk
    rw [hN] at hk
    by_cases c0 : k = 0
    · subst c0
      rw [qn_lt (by omega) (by omega)]
      have h0 := p6 (q 0) _ (fun z => by have := hF.2 0 1 (bN_0 n) (bN_1 n) z; omega) (haq 0 (bN_0 n) (by omega)) (hm1 0 (bN_0 n))
      rw [bE_0] at h0 ⊢
      have e : (List.range 6).map (busV (qn n q a b c d) (upG T n newG)) = (List.range 6).map (busV q T) := List.map_congr_left (fun j _ => by
        unfold busV
        rw [qn_lt (by omega) (by omega), upG_ne (by omega)])
      rw [e]
      exact h0
    · by_cases c1 : k = 1
      · subst c1
        rw [qn_lt (by omega) (by omega), bE_1]
        have e : (List.range 3).map (listV Z (n + 1) (qn n q a b c d)) = [.int (nI n + 1), .ref a, .int (nI (n + 1))] := by
          show [listV Z (n + 1) (qn n q a b c d) 0, listV Z (n + 1) (qn n q a b c d) 1, listV Z (n + 1) (qn n q a b c d) 2] = _
          unfold listV
          rw [if_neg (show ¬ (0 : Nat) = 1 by decide), if_pos (show (1 : Nat) = 1 from rfl), if_neg (show ¬ (2 : Nat) = 1 by decide), if_neg (show ¬ n + 1 = 0 by omega), qn_2, nI_1]
        rw [e]
        exact p1
      · by_cases c2 : k = 2
        · subst c2
          rw [qn_2, bE_2]
          have e : arrF (n + 1) (qn n q a b c d) = va_up (arrF n q) n (some b) := by
            funext j
            unfold arrF va_up
            by_cases e1 : j = n
            · subst e1
              rw [if_pos (by omega), if_pos rfl, show 3 + 3 * j = 3 + 3 * j + 0 by omega, qn_g (by decide)]
              rfl
            · rw [if_neg e1]
              show (if j < n + 1 then some (qn n q a b c d (3 + 3 * j)) else none) = (if j < n then some (q (3 + 3 * j)) else none)
              by_cases e2 : j < n
              · rw [if_pos (by omega), if_pos e2, qn_lt (by omega) (by omega)]
              · rw [if_neg (by omega), if_neg e2]
          rw [e]
          exact p2
        · by_cases c3 : k < 3 + 3 * n
          · have hkb := hlt k c3 c2
            rw [qn_lt c3 c2]
            have h0 := p6 (q k) _ (fun z => c1 (hF.2 k 1 hkb (bN_1 n) z)) (haq k hkb c2) (hm1 k hkb)
            have ek : k = 3 + 3 * ((k - 3) / 3) + (k - 3) % 3 := by omega
            have hr : (k - 3) % 3 < 3 := Nat.mod_lt _ (by decide)
            rw [ek, bE_g hr] at h0
            rw [ek, bE_g hr, upG_ne (by omega), gE_q (q' := qg q ((k - 3) / 3)) (show qn n q a b c d (3 + 3 * ((k - 3) / 3) + 1) = q (3 + 3 * ((k - 3) / 3) + 1) from qn_lt (by omega) (by omega)) (show qn n q a b c d (3 + 3 * ((k - 3) / 3) + 2) = q (3 + 3 * ((k - 3) / 3) + 2) from qn_lt (by omega) (by omega))]
            exact h0
          · obtain ⟨r, hr, rfl⟩ : ∃ r, r < 3 ∧ k = 3 + 3 * n + r := ⟨k - (3 + 3 * n), by omega, by omega⟩
            rw [bE_g hr, upG_at, qn_g hr, gE_q (q' := q3 b c d) (show qn n q a b c d (3 + 3 * n + 1) = q3 b c d 1 from qn_g (by decide)) (show qn n q a b c d (3 + 3 * n + 2) = q3 b c d 2 from qn_g (by decide))]
            exact p6 _ _ (hq31 r hr) (ha3 r hr) (g3 r hr)
  · -- the addresses are apart
    have key : ∀ k, k < 3 + 3 * (n + 1) → (k = 2 ∧ qn n q a b c d k = a) ∨ (k < 3 + 3 * n ∧ k ≠ 2 ∧ k < bN n ∧ qn n q a b c d k = q k) ∨ ∃ r, r < 3 ∧ k = 3 + 3 * n + r ∧ qn n q a b c d k = q3 b c d r := by
      intro k hk
      by_cases c2 : k = 2
      · subst c2; exact Or.inl ⟨rfl, qn_2⟩
      · by_cases c3 : k < 3 + 3 * n
        · exact Or.inr (Or.inl ⟨c3, c2, hlt k c3 c2, qn_lt c3 c2⟩)
        · refine Or.inr (Or.inr ⟨k - (3 + 3 * n), by omega, by omega, ?_⟩)
          obtain ⟨r, hr, rfl⟩ : ∃ r, r < 3 ∧ k = 3 + 3 * n + r := ⟨k - (3 + 3 * n), by omega, by omega⟩
          rw [qn_g hr, show 3 + 3 * n + r - (3 + 3 * n) = r by omega]
    intro j k hj hk h
    rw [hN] at hj hk
    rcases key j hj with ⟨rfl, e1⟩ | ⟨j1, j2, j3, e1⟩ | ⟨r, hr, rfl, e1⟩ <;> rcases key k hk with ⟨rfl, e2⟩ | ⟨k1, k2, k3, e2⟩ | ⟨t, ht, rfl, e2⟩ <;> have h := (e1.symm.trans h).trans e2
    · rfl
    · exact absurd h.symm (haq k k3 k2)
    · exact absurd h.symm (ha3 t ht)
    · exact absurd h (haq j j3 j2)
    · exact hF.2 j k j3 k3 h
    · exact absurd h (hq3q t j ht j3)
    · exact absurd h (ha3 r hr)
    · exact absurd h.symm (hq3q r k hr k3)
    · rw [hq33 r t hr ht h]
  · intro k hk
    rw [hN] at hk
    have old : ∀ y x, (y, x) ∈ ws → ∃ x', (y, x') ∈ bw Z ws n cap q T := fun y x h => fo_adr.mpr ⟨x, h⟩
    by_cases c2 : k = 2
    · subst c2
      rw [qn_2]
      rcases ha with ⟨h0, h⟩ | h
      · exact Or.inl ⟨2, bN_2 (i := 0) h0, h⟩
      · refine Or.inr (fun y hy => ?_)
        obtain ⟨x', hx'⟩ := old a y hy
        exact h x' (hold a x' (fun z => hfb x' (z ▸ hx')) (List.mem_append_left _ hx'))
    · by_cases c3 : k < 3 + 3 * n
      · exact Or.inl ⟨k, hlt k c3 c2, qn_lt c3 c2⟩
      · obtain ⟨r, hr, rfl⟩ : ∃ r, r < 3 ∧ k = 3 + 3 * n + r := ⟨k - (3 + 3 * n), by omega, by omega⟩
        rw [qn_g hr]
        refine Or.inr (fun y hy => ?_)
        obtain ⟨x', hx'⟩ := old _ y hy
        rcases (show r = 0 ∨ r = 1 ∨ r = 2 by omega) with rfl | rfl | rfl
        · exact hfb x' hx'
        · exact hfc x' (List.mem_append_left _ hx')
        · exact hfd x' (List.mem_append_left _ hx')
  · intro y x hy hx
    have h1 : (y, x) ∈ bw Z ws n cap q T := fo_out hx hy
    have hyb : y ≠ b := fun z => hfb x (z ▸ h1)
    have h2 := hold y x hyb (List.mem_append_left _ h1)
    refine p6 y x (fun z => hy 1 (bN_1 n) z.symm) (fun z => ?_) h2
    rcases ha with ⟨h0, h⟩ | h
    · exact hy 2 (bN_2 (i := 0) h0) (h.symm.trans z.symm)
    · exact h x (z ▸ h2)
set_option maxRecDepth 100000 in
set_option maxHeartbeats 4000000 in
theorem kX2_gear (l : Launch) (Z : Zt) (ws : va_W) (n cap : Nat) (q : Nat → Nat) (T : Nat → Nat → Int32) (hB : BK ws n cap q) (hcap : n = 0 ∨ cap = 10 ∨ cap = 15 ∨ cap = 22) : Ct l Z yX2_gear cX2_gear 1 (some .int) 7 171 4 59 (bw Z ws n cap q T) [.ref (q 0)] (gearP Z ws n cap q T) := by
  refine Ct.start (by decide) (Nat.le_of_ble_eq_true rfl) ?_
  intro p e s m below meth c S hr hlk hnm hA hW hS ls hl
  replace S : CallFix p m c cX2_gear 1 s _ TB RX2 := S
  replace hl : lv_has ls 1 [(0, .ref (q 0))] := hl
  have hn16 := hB.2.1
  refine lv_aload_n S.1 S.2.1 dX2_gear_0 rfl (lv_at hl 0 rfl) ?_
  refine b_getL S hA hB.1 hW tf_X2_10 dX2_gear_1 ?_
  refine c_V S hA hW hS (kJ_size l Z ws n cap q T hB.1) ok_Jx4a65c_size_8abf5 tm_X2_16 tn_Jx4a65c_size_8abf5 tl_Jx4a65c_size_8abf5 (fo_mem (E := bE Z n cap q T) hB.1 1 (bN_1 n)) rfl rfl ⟨Nat.le_of_ble_eq_true rfl, Nat.le_of_ble_eq_true rfl⟩ rfl hl.1 rfl (Nat.le_of_ble_eq_true rfl) dX2_gear_4 ⟨Nat.le_of_ble_eq_true rfl, Nat.le_of_ble_eq_true rfl⟩ (kk_i fun H locs hW hS => ?_)
  refine lv_bipush (v := 16) S.1 S.2.1 dX2_gear_7 (by decide) ?_
  refine lv_icmp_lt (tgt := 15) S.1 S.2.1 dX2_gear_9 (by decide) (fun c1 => ?_) (fun c1 => ?_)
  · have hn : n < 16 := (nI_ltI (by omega) (by decide)).mp (show nI n < nI 16 from c1)
    refine lv_aload_n S.1 S.2.1 dX2_gear_15 rfl (lv_at hl 0 rfl) ?_
    refine b_getL S hA hB.1 hW tf_X2_10 dX2_gear_16 ?_
    refine r_new (ci := 1) (fs := [.null, .null, .int 0, .int 0, .int 0, .int 0, .int 0, .int 0, .int 0, .int 0, .int 0, .int 0]) (C := RX0) (T := TX0) (N := 12) S hA hW hS rfl iu_X0 tyX0 tyX0_ok td_X2_20 tw_X0 ti_X0 (fun j hj => by rcases (show j = 0 ∨ j = 1 ∨ j = 2 ∨ j = 3 ∨ j = 4 ∨ j = 5 ∨ j = 6 ∨ j = 7 ∨ j = 8 ∨ j = 9 ∨ j = 10 ∨ j = 11 by omega) with rfl | rfl | rfl | rfl | rfl | rfl | rfl | rfl | rfl | rfl | rfl | rfl <;> rfl) (Nat.le_of_ble_eq_true rfl) (Nat.le_of_ble_eq_true rfl) dX2_gear_19 (fun b H hfb hW hS => ?_)
    refine lv_dup S.1 S.2.1 dX2_gear_22 rfl ?_
    refine c_IN S hA hW hS (kX0_init l Z _ b (List.mem_append_right _ List.mem_cons_self)) ok_X0_init nm_X2_22 tn_X0_init rfl ⟨Nat.le_of_ble_eq_true rfl, Nat.le_of_ble_eq_true rfl⟩ rfl hl.1 rfl (Nat.le_of_ble_eq_true rfl) dX2_gear_23 ⟨Nat.le_of_ble_eq_true rfl, Nat.le_of_ble_eq_true rfl⟩ (kk_p fun w1 H locs hG hW hS => ?_)
    have hm1 : ∀ k, k < bN n → (q k, bE Z n cap q T k) ∈ w1 := by
      intro k hk
      have h0 := fo_mem (E := bE Z n cap q T) hB.1 k hk
      exact hG.choose_spec.choose_spec.2.2.2.2 _ _ (fun z => hfb _ (z ▸ h0)) (List.mem_append_left _ h0)
    have hgb : (b, gE Z (q3 b hG.choose hG.choose_spec.choose) newG 0) ∈ w1 := hG.choose_spec.choose_spec.2.2.2.1 0 (by decide)
    have h1 := hm1 1 (bN_1 n)
    have hLI : LI Z w1 (q 1) n cap (if n = 0 then zE Z else q 2) (nI n) (arrF n q) := by
      refine ⟨h1, hn, fun j hj => by unfold arrF; rw [if_neg (by omega)], ?_⟩
      by_cases h0 : n = 0
      · exact Or.inl ⟨h0, by rw [if_pos h0]⟩
      · refine Or.inr ⟨by omega, hB.2.2.1, by omega, ?_, fun i hi y hy => ?_⟩
        · rw [if_neg h0]
          have h2 := hm1 2 (bN_2 (i := 0) (by omega))
          rw [bE_2] at h2
          exact h2
        · unfold arrF at hy
          rw [if_pos hi] at hy
          cases hy
          have h3 := hm1 _ (bN_g hi (r := 0) (by decide))
          rw [bE_g (by decide), gE_0] at h3
          exact ⟨_, h3⟩
    refine c_V S hA hW hS (kJ_add l Z w1 (q 1) n cap (if n = 0 then zE Z else q 2) b (nI n) (arrF n q) hLI _ hgb (fun h0 z => ?_)) ok_Jx4a65c_add_9ea2d tm_X2_23 tn_Jx4a65c_add_9ea2d tl_Jx4a65c_add_9ea2d h1 rfl rfl ⟨Nat.le_of_ble_eq_true rfl, Nat.le_of_ble_eq_true rfl⟩ rfl hl.1 rfl (Nat.le_of_ble_eq_true rfl) dX2_gear_26 ⟨Nat.le_of_ble_eq_true rfl, Nat.le_of_ble_eq_true rfl⟩ (fun r w2 H locs hP hW hS => ?_)
    · rw [if_neg (by omega)] at z
      have := hB.1.2 2 1 (bN_2 (i := 0) h0) (bN_1 n) z
      omega
    · obtain ⟨rfl, hAD⟩ := hP
      have hGR := grown hB hn hfb hG hAD hm1
      refine lv_pop S.1 S.2.1 dX2_gear_29 rfl ?_
      obtain ⟨q', cap', r1, r2, r3, r4, r5, r6, r7⟩ := id hGR
      have hF' : FI w2 (bN (n + 1)) q' := ⟨fun k hk => ⟨_, r1 k hk⟩, r2⟩
      have e2 : bw Z w2 (n + 1) cap' q' (upG T n newG) = w2 := fo_self hW.2 r1
      have hW2 : Wd Z (bw Z w2 (n + 1) cap' q' (upG T n newG)) H := by rw [e2]; exact hW
      refine lv_aload_n S.1 S.2.1 dX2_gear_30 rfl (lv_at hl 0 rfl) ?_
      refine W.eq (g2 := F0 m 31 ls [.ref (q' 0)]) (congrArg (fun z => F0 m 31 ls [Value.ref z]) r5.symm) ?_
      refine b_getL S hA hF' hW2 tf_X2_10 dX2_gear_31 ?_
      refine c_V S hA hW2 hS (kJ_size l Z w2 (n + 1) cap' q' (upG T n newG) hF') ok_Jx4a65c_size_8abf5 tm_X2_16 tn_Jx4a65c_size_8abf5 tl_Jx4a65c_size_8abf5 (fo_mem (E := bE Z (n + 1) cap' q' (upG T n newG)) hF' 1 (bN_1 (n + 1))) rfl rfl ⟨Nat.le_of_ble_eq_true rfl, Nat.le_of_ble_eq_true rfl⟩ rfl hl.1 rfl (Nat.le_of_ble_eq_true rfl) dX2_gear_34 ⟨Nat.le_of_ble_eq_true rfl, Nat.le_of_ble_eq_true rfl⟩ (kk_i fun H locs hW hS => ?_)
      rw [e2] at hW
      refine lv_iconst (v := 1) S.1 S.2.1 dX2_gear_37 (by decide) ?_
      refine lv_isub S.1 S.2.1 dX2_gear_38 ?_
      exact r_iret S hr hlk hW hS (Or.inr ⟨hn, rfl, hGR⟩) dX2_gear_39
  · have hn : n = 16 := by
      rcases Nat.lt_or_ge n 16 with h | h
      · exact absurd (nI_lt h (by decide)) c1
      · omega
    refine lv_bipush (v := (-2)) S.1 S.2.1 dX2_gear_12 (by decide) ?_
    refine W.widen (k := 4) (n := 59) (Nat.le_of_ble_eq_true rfl) (Nat.le_of_ble_eq_true rfl) ?_
    exact r_iret S hr hlk hW hS (Or.inl ⟨hn, rfl, rfl⟩) dX2_gear_14
