theorem Ex.trans {w w1 w2 : va_W} {a : Nat} {e1 e2 : va_E} (h1 : Ex w a e1 w1) (h2 : Ex w1 a e2 w2) : Ex w a e2 w2 := ⟨h2.1, fun b x hb hx => h2.2.1 b x hb (h1.2.1 b x hb hx), fun b x hx => (h2.2.2 b x hx).elim (fun y hy => h1.2.2 b y hy)⟩
theorem ta_I : Cond.arrayClass .int ∈ TB := List.mem_filter.mpr ⟨List.mem_append_right _ (by decide +kernel), by decide +kernel⟩
theorem ta_Z : Cond.arrayClass .boolean ∈ TB := List.mem_filter.mpr ⟨List.mem_append_right _ (by decide +kernel), by decide +kernel⟩
theorem kk_p {p : Program} {l : Launch} {e : Env} {R : Room} {s : State} {m : MethodId} {args : Array Value} {below : List Frame} {meth : Method} {c : Code} {cells slots : Nat} {Q : State → Prop} {pc : Nat} {ls : Array Slot} {rest : List Value} {Z : Zt} {P : va_W → Prop} (k : ∀ (w : va_W) (H1 : Heap) (locs1 : List Loc), P w → Wd Z w H1 → va_S (zA Z) s.heap H1 locs1 → W p l e R s m args below meth c H1 locs1 cells slots Q (F0 m pc ls rest)) : ∀ (r : Option Value) (w : va_W) (H1 : Heap) (locs1 : List Loc), (r = none ∧ P w) → Wd Z w H1 → va_S (zA Z) s.heap H1 locs1 → W p l e R s m args below meth c H1 locs1 cells slots Q (F0 m pc ls (r.toList ++ rest)) := by
  rintro r w H1 locs1 ⟨rfl, hP⟩ h1 h2
  exact k w H1 locs1 hP h1 h2
set_option maxRecDepth 100000 in
set_option maxHeartbeats 4000000 in
theorem kX1_init (l : Launch) (Z : Zt) (w : va_W) (h : Nat) : Ct l Z yX1_init cX1_init 1 none 1 12 0 0 w [.ref h] (fun r w1 => r = none ∧ w1 = w) := by
  refine Ct.start (by decide) (Nat.le_of_ble_eq_true rfl) ?_
  intro p e s m below meth c S hr hlk hnm hA hW hS ls hl
  replace S : CallFix p m c cX1_init 1 s _ TB RX1 := S
  replace hl : lv_has ls 1 [(0, .ref h)] := hl
  refine lv_aload_n S.1 S.2.1 dX1_init_0 rfl (lv_at hl 0 rfl) ?_
  refine r_obj S tm_X1_1 hl.1 dX1_init_1 (Nat.le_of_ble_eq_true rfl) (Nat.le_of_ble_eq_true rfl) ?_
  exact r_vret S hr hlk hW hS ⟨rfl, rfl⟩ dX1_init_4
set_option maxRecDepth 100000 in
set_option maxHeartbeats 4000000 in
theorem kJxa1e45_init_da8c8 (l : Launch) (Z : Zt) (w : va_W) (h : Nat) : Ct l Z yJxa1e45_init_da8c8 cJxa1e45_init_da8c8 1 none 1 12 0 0 w [.ref h] (fun r w1 => r = none ∧ w1 = w) := by
  refine Ct.start (by decide) (Nat.le_of_ble_eq_true rfl) ?_
  intro p e s m below meth c S hr hlk hnm hA hW hS ls hl
  replace S : CallFix p m c cJxa1e45_init_da8c8 1 s _ TB RJxa1e45 := S
  replace hl : lv_has ls 1 [(0, .ref h)] := hl
  refine lv_aload_n S.1 S.2.1 dJxa1e45_init_da8c8_0 rfl (lv_at hl 0 rfl) ?_
  refine r_obj S tm_Jxa1e45_1 hl.1 dJxa1e45_init_da8c8_1 (Nat.le_of_ble_eq_true rfl) (Nat.le_of_ble_eq_true rfl) ?_
  exact r_vret S hr hlk hW hS ⟨rfl, rfl⟩ dJxa1e45_init_da8c8_4
set_option maxRecDepth 100000 in
set_option maxHeartbeats 4000000 in
theorem kJxc12de_init_da8c8 (l : Launch) (Z : Zt) (w : va_W) (h : Nat) (x y z : Value) (hm : (h, .inr (0, [x, y, z])) ∈ w) : Ct l Z yJxc12de_init_da8c8 cJxc12de_init_da8c8 1 none 2 32 0 0 w [.ref h] (fun r w1 => r = none ∧ Ex w h (.inr (0, [.int 0, y, z])) w1) := by
  refine Ct.start (by decide) (Nat.le_of_ble_eq_true rfl) ?_
  intro p e s m below meth c S hr hlk hnm hA hW hS ls hl
  replace S : CallFix p m c cJxc12de_init_da8c8 1 s _ TB RJxc12de := S
  replace hl : lv_has ls 1 [(0, .ref h)] := hl
  refine lv_aload_n S.1 S.2.1 dJxc12de_init_da8c8_0 rfl (lv_at hl 0 rfl) ?_
  refine c_I S hA hW hS (kJxa1e45_init_da8c8 l Z w h) ok_Jxa1e45_init_da8c8 tm_Jxc12de_1 tn_Jxa1e45_init_da8c8 rfl ⟨Nat.le_of_ble_eq_true rfl, Nat.le_of_ble_eq_true rfl⟩ rfl hl.1 rfl (Nat.le_of_ble_eq_true rfl) dJxc12de_init_da8c8_1 ⟨Nat.le_of_ble_eq_true rfl, Nat.le_of_ble_eq_true rfl⟩ (kk_v fun H locs hW hS => ?_)
  refine lv_aload_n S.1 S.2.1 dJxc12de_init_da8c8_4 rfl (lv_at hl 0 rfl) ?_
  refine lv_iconst (v := 0) S.1 S.2.1 dJxc12de_init_da8c8_5 (by decide) ?_
  refine r_putX (v := .int 0) S hA hW hS hm (T := TJx4a65c) rfl iu_Jx4a65c tyJx4a65c tyJx4a65c_ok nmJx4a65c 0 (by decide) tf_Jxc12de_7 rfl rfl rfl (Nat.le_of_ble_eq_true rfl) dJxc12de_init_da8c8_6 (fun w1 H locs hE hW hS => ?_)
  exact r_vret S hr hlk hW hS ⟨rfl, hE⟩ dJxc12de_init_da8c8_9
set_option maxRecDepth 100000 in
set_option maxHeartbeats 4000000 in
theorem kJx4a65c_init_da8c8 (l : Launch) (Z : Zt) (w : va_W) (h : Nat) (x y z : Value) (hm : (h, .inr (0, [x, y, z])) ∈ w) : Ct l Z yJx4a65c_init_da8c8 cJx4a65c_init_da8c8 1 none 3 52 0 0 w [.ref h] (fun r w1 => r = none ∧ Ex w h (.inr (0, [.int 0, .ref (zE Z), z])) w1) := by
  refine Ct.start (by decide) (Nat.le_of_ble_eq_true rfl) ?_
  intro p e s m below meth c S hr hlk hnm hA hW hS ls hl
  replace S : CallFix p m c cJx4a65c_init_da8c8 1 s _ TB RJx4a65c := S
  replace hl : lv_has ls 1 [(0, .ref h)] := hl
  refine lv_aload_n S.1 S.2.1 dJx4a65c_init_da8c8_0 rfl (lv_at hl 0 rfl) ?_
  refine c_I S hA hW hS (kJxc12de_init_da8c8 l Z w h x y z hm) ok_Jxc12de_init_da8c8 tm_Jx4a65c_1 tn_Jxc12de_init_da8c8 rfl ⟨Nat.le_of_ble_eq_true rfl, Nat.le_of_ble_eq_true rfl⟩ rfl hl.1 rfl (Nat.le_of_ble_eq_true rfl) dJx4a65c_init_da8c8_1 ⟨Nat.le_of_ble_eq_true rfl, Nat.le_of_ble_eq_true rfl⟩ (kk_p fun w1 H locs hE1 hW hS => ?_)
  refine lv_aload_n S.1 S.2.1 dJx4a65c_init_da8c8_4 rfl (lv_at hl 0 rfl) ?_
  refine va_gets S.1 S.2.1 hA.2.2.2.2.2.2.2.1 hS S.2.2.2.1 (S.2.2.2.2 _ tf_Jx4a65c_39) (fun _ h => h) dJx4a65c_init_da8c8_5 ?_
  refine r_putX (v := .ref (zE Z)) S hA hW hS hE1.1 (T := TJx4a65c) rfl iu_Jx4a65c tyJx4a65c tyJx4a65c_ok nmJx4a65c 1 (by decide) tf_Jx4a65c_9 rfl rfl rfl (Nat.le_of_ble_eq_true rfl) dJx4a65c_init_da8c8_8 (fun w2 H locs hE2 hW hS => ?_)
  exact r_vret S hr hlk hW hS ⟨rfl, hE1.trans hE2⟩ dJx4a65c_init_da8c8_11
/-- a new bus: one list, empty -/
def newBus (Z : Zt) (w : va_W) (h : Nat) (w1 : va_W) : Prop := ∃ b : Nat, (∀ y, (b, y) ∉ w) ∧ (h, .inr (3, [.ref b, .int 0, .int 0, .int 0, .int 0, .int 0])) ∈ w1 ∧ (b, .inr (0, [.int 0, .ref (zE Z), .int 0])) ∈ w1 ∧ (∀ a x, a ≠ h → (a, x) ∈ w → (a, x) ∈ w1)
set_option maxRecDepth 100000 in
set_option maxHeartbeats 4000000 in
theorem kX2_init (l : Launch) (Z : Zt) (w : va_W) (h : Nat) (hm : (h, .inr (3, [.null, .int 0, .int 0, .int 0, .int 0, .int 0])) ∈ w) : Ct l Z yX2_init cX2_init 1 none 4 72 1 3 w [.ref h] (fun r w1 => r = none ∧ newBus Z w h w1) := by
  refine Ct.start (by decide) (Nat.le_of_ble_eq_true rfl) ?_
  intro p e s m below meth c S hr hlk hnm hA hW hS ls hl
  replace S : CallFix p m c cX2_init 1 s _ TB RX2 := S
  replace hl : lv_has ls 1 [(0, .ref h)] := hl
  refine lv_aload_n S.1 S.2.1 dX2_init_0 rfl (lv_at hl 0 rfl) ?_
  refine r_obj S tm_X2_1 hl.1 dX2_init_1 (Nat.le_of_ble_eq_true rfl) (Nat.le_of_ble_eq_true rfl) ?_
  refine lv_aload_n S.1 S.2.1 dX2_init_4 rfl (lv_at hl 0 rfl) ?_
  refine r_new (ci := 0) (fs := [.int 0, .null, .int 0]) (C := RJx4a65c) (T := TJx4a65c) (N := 3) S hA hW hS rfl iu_Jx4a65c tyJx4a65c tyJx4a65c_ok td_X2_7 tw_Jx4a65c ti_Jx4a65c (fun j hj => by rcases (show j = 0 ∨ j = 1 ∨ j = 2 by omega) with rfl | rfl | rfl <;> rfl) (Nat.le_of_ble_eq_true rfl) (Nat.le_of_ble_eq_true rfl) dX2_init_5 (fun b H hfr hW hS => ?_)
  refine lv_dup S.1 S.2.1 dX2_init_8 rfl ?_
  refine c_I S hA hW hS (kJx4a65c_init_da8c8 l Z _ b _ _ _ (List.mem_append_right _ List.mem_cons_self)) ok_Jx4a65c_init_da8c8 tm_X2_9 tn_Jx4a65c_init_da8c8 rfl ⟨Nat.le_of_ble_eq_true rfl, Nat.le_of_ble_eq_true rfl⟩ rfl hl.1 rfl (Nat.le_of_ble_eq_true rfl) dX2_init_9 ⟨Nat.le_of_ble_eq_true rfl, Nat.le_of_ble_eq_true rfl⟩ (kk_p fun w1 H locs hE1 hW hS => ?_)
  have hbh : h ≠ b := fun z => hfr _ (z ▸ hm)
  have hm1 := hE1.2.1 h _ hbh (List.mem_append_left _ hm)
  refine r_putFX (v := .ref b) S hA hW hS hm1 (T := TX2) rfl iu_X2 tyX2 tyX2_ok nmX2 0 (by decide) tf_X2_10 rfl hnm rfl rfl rfl (Nat.le_of_ble_eq_true rfl) dX2_init_12 (fun w2 H locs hE2 hW hS => ?_)
  exact r_vret S hr hlk hW hS ⟨rfl, b, hfr, hE2.1, hE2.2.1 b _ (fun z => hbh z.symm) hE1.1, fun a x ha hx => hE2.2.1 a x ha (hE1.2.1 a x (fun z => hfr x (z ▸ hx)) (List.mem_append_left _ hx))⟩ dX2_init_15
def q3 (a b c : Nat) (k : Nat) : Nat := if k = 0 then a else if k = 1 then b else c
def G0 : Nat → Int32 := fun _ => 0
def newG : Nat → Int32 := fX0_forgetSearch (fX0_reset (upd G0 12 255))
def newGear (Z : Zt) (w : va_W) (h : Nat) (w1 : va_W) : Prop := ∃ b d : Nat, (∀ y, (b, y) ∉ w) ∧ (∀ y, (d, y) ∉ w) ∧ b ≠ d ∧ (∀ k, k < 3 → (q3 h b d k, gE Z (q3 h b d) newG k) ∈ w1) ∧ (∀ a x, a ≠ h → (a, x) ∈ w → (a, x) ∈ w1)
theorem FI_q3 {w : va_W} {a b d : Nat} (ha : ∃ x, (a, x) ∈ w) (hb : ∃ x, (b, x) ∈ w) (hd : ∃ x, (d, x) ∈ w) (h1 : a ≠ b) (h2 : a ≠ d) (h3 : b ≠ d) : FI w 3 (q3 a b d) := by
  refine ⟨fun k hk => ?_, fun j k hj hk h => ?_⟩
  · rcases (show k = 0 ∨ k = 1 ∨ k = 2 by omega) with rfl | rfl | rfl
    · exact ha
    · exact hb
    · exact hd
  · rcases (show j = 0 ∨ j = 1 ∨ j = 2 by omega) with rfl | rfl | rfl <;> rcases (show k = 0 ∨ k = 1 ∨ k = 2 by omega) with rfl | rfl | rfl <;> first | rfl | exact absurd h h1 | exact absurd h h2 | exact absurd h h3 | exact absurd h.symm h1 | exact absurd h.symm h2 | exact absurd h.symm h3
set_option maxRecDepth 100000 in
set_option maxHeartbeats 4000000 in
theorem kX0_init (l : Launch) (Z : Zt) (w : va_W) (h : Nat) (hm : (h, .inr (1, [.null, .null, .int 0, .int 0, .int 0, .int 0, .int 0, .int 0, .int 0, .int 0, .int 0, .int 0])) ∈ w) : Ct l Z yX0_init cX0_init 1 none 3 70 2 25 w [.ref h] (fun r w1 => r = none ∧ newGear Z w h w1) := by
  refine Ct.start (by decide) (Nat.le_of_ble_eq_true rfl) ?_
  intro p e s m below meth c S hr hlk hnm hA hW hS ls hl
  replace S : CallFix p m c cX0_init 1 s _ TB RX0 := S
  replace hl : lv_has ls 1 [(0, .ref h)] := hl
  refine lv_aload_n S.1 S.2.1 dX0_init_0 rfl (lv_at hl 0 rfl) ?_
  refine r_obj S tm_X0_3 hl.1 dX0_init_1 (Nat.le_of_ble_eq_true rfl) (Nat.le_of_ble_eq_true rfl) ?_
  refine lv_aload_n S.1 S.2.1 dX0_init_4 rfl (lv_at hl 0 rfl) ?_
  refine r_new (ci := 2) (fs := (List.range 9).map (lampV G0)) (C := RX1) (T := TX1) (N := 9) S hA hW hS rfl iu_X1 tyX1 tyX1_ok td_X0_9 tw_X1 ti_X1 (fun j hj => by rcases (show j = 0 ∨ j = 1 ∨ j = 2 ∨ j = 3 ∨ j = 4 ∨ j = 5 ∨ j = 6 ∨ j = 7 ∨ j = 8 by omega) with rfl | rfl | rfl | rfl | rfl | rfl | rfl | rfl | rfl <;> rfl) (Nat.le_of_ble_eq_true rfl) (Nat.le_of_ble_eq_true rfl) dX0_init_5 (fun b H hfb hW hS => ?_)
  refine lv_dup S.1 S.2.1 dX0_init_8 rfl ?_
  refine c_IN S hA hW hS (kX1_init l Z _ b) ok_X1_init nm_X0_11 tn_X1_init rfl ⟨Nat.le_of_ble_eq_true rfl, Nat.le_of_ble_eq_true rfl⟩ rfl hl.1 rfl (Nat.le_of_ble_eq_true rfl) dX0_init_9 ⟨Nat.le_of_ble_eq_true rfl, Nat.le_of_ble_eq_true rfl⟩ (kk_v fun H locs hW hS => ?_)
  have hbh : h ≠ b := fun z => hfb _ (z ▸ hm)
  refine r_putFX (v := .ref b) S hA hW hS (List.mem_append_left _ hm) (T := TX0) rfl iu_X0 tyX0 tyX0_ok nmX0 0 (by decide) tf_X0_12 rfl hnm rfl rfl rfl (Nat.le_of_ble_eq_true rfl) dX0_init_12 (fun w2 H locs hE2 hW hS => ?_)
  refine lv_aload_n S.1 S.2.1 dX0_init_15 rfl (lv_at hl 0 rfl) ?_
  refine lv_bipush (v := 16) S.1 S.2.1 dX0_init_16 (by decide) ?_
  refine r_newI (K := 16) S hA hW hS ta_I (by decide) (by decide) (by decide) (Nat.le_of_ble_eq_true rfl) (Nat.le_of_ble_eq_true rfl) dX0_init_18 (fun d H hfd hW hS => ?_)
  have hb2 : (b, .inr (2, (List.range 9).map (lampV G0))) ∈ w2 := hE2.2.1 b _ (fun z => hbh z.symm) (List.mem_append_right _ List.mem_cons_self)
  have hbd : b ≠ d := fun z => hfd _ (z ▸ hb2)
  have hhd : h ≠ d := fun z => hfd _ (z ▸ hE2.1)
  refine r_putFX (v := .ref d) S hA hW hS (List.mem_append_left _ hE2.1) (T := TX0) rfl iu_X0 tyX0 tyX0_ok nmX0 1 (by decide) tf_X0_18 rfl hnm rfl rfl rfl (Nat.le_of_ble_eq_true rfl) dX0_init_20 (fun w3 H locs hE3 hW hS => ?_)
  have hb3 := hE3.2.1 b _ (fun z => hbh z.symm) (List.mem_append_left _ hb2)
  have hd3 := hE3.2.1 d _ (fun z => hhd z.symm) (List.mem_append_right w2 List.mem_cons_self)
  have hF : FI w3 3 (q3 h b d) := FI_q3 ⟨_, hE3.1⟩ ⟨_, hb3⟩ ⟨_, hd3⟩ hbh hhd hbd
  have hWg : Wd Z (gw Z w3 (q3 h b d) G0) H := by
    have e : gw Z w3 (q3 h b d) G0 = w3 := fo_self hW.2 (fun k hk => by
      rcases (show k = 0 ∨ k = 1 ∨ k = 2 by omega) with rfl | rfl | rfl
      · exact hE3.1
      · exact hb3
      · exact hd3)
    rw [e]
    exact hW
  have hold : ∀ a x, a ≠ h → (a, x) ∈ w → (a, x) ∈ w3 := fun a x ha hx => hE3.2.1 a x ha (List.mem_append_left _ (hE2.2.1 a x ha (List.mem_append_left _ hx)))
  have hdw : ∀ y, (d, y) ∉ w := fun y hy => hfd y (hE2.2.1 d y (fun z => hhd z.symm) (List.mem_append_left _ hy))
  clear hW
  refine lv_aload_n S.1 S.2.1 dX0_init_23 rfl (lv_at hl 0 rfl) ?_
  refine lv_sipush (v := 255) S.1 S.2.1 dX0_init_24 (by decide) ?_
  refine g_putG (q := q3 h b d) (x := 255) S hA hF hWg hS 5 (by decide) (by decide) tf_X0_22 rfl rfl rfl dX0_init_27 (fun H locs hW hS => ?_)
  refine lv_aload_n S.1 S.2.1 dX0_init_30 rfl (lv_at hl 0 rfl) ?_
  refine c_V S hA hW hS (kX0_reset l Z w3 (q3 h b d) (upd G0 12 255) hF) ok_X0_reset tm_X0_26 tn_X0_reset tl_X0_reset (fo_mem hF 0 (by decide)) rfl rfl ⟨Nat.le_of_ble_eq_true rfl, Nat.le_of_ble_eq_true rfl⟩ rfl hl.1 rfl (Nat.le_of_ble_eq_true rfl) dX0_init_31 ⟨Nat.le_of_ble_eq_true rfl, Nat.le_of_ble_eq_true rfl⟩ (kk_v fun H locs hW hS => ?_)
  refine lv_aload_n S.1 S.2.1 dX0_init_34 rfl (lv_at hl 0 rfl) ?_
  refine c_V S hA hW hS (kX0_forgetSearch l Z w3 (q3 h b d) (fX0_reset (upd G0 12 255)) hF) ok_X0_forgetSearch tm_X0_29 tn_X0_forgetSearch tl_X0_forgetSearch (fo_mem hF 0 (by decide)) rfl rfl ⟨Nat.le_of_ble_eq_true rfl, Nat.le_of_ble_eq_true rfl⟩ rfl hl.1 rfl (Nat.le_of_ble_eq_true rfl) dX0_init_35 ⟨Nat.le_of_ble_eq_true rfl, Nat.le_of_ble_eq_true rfl⟩ (kk_v fun H locs hW hS => ?_)
  refine r_vret S hr hlk hW hS ⟨rfl, b, d, hfb, hdw, hbd, fun k hk => fo_mem (E := gE Z (q3 h b d) newG) hF k hk, fun a x ha hx => fo_out (hold a x ha hx) (fun k hk z => ?_)⟩ dX0_init_38
  rcases (show k = 0 ∨ k = 1 ∨ k = 2 by omega) with rfl | rfl | rfl
  · exact ha z.symm
  · exact hfb x (by have z : b = a := z; rw [z]; exact hx)
  · exact hdw x (by have z : d = a := z; rw [z]; exact hx)
