def fX2_countFrame_j2 (n : Nat) (T : Nat → Nat → Int32) (a1 : Int32) (a2 : Int32) (x1 : Int32) (x2 : Int32) : Int32 × (Nat → Nat → Int32) :=
  (x1, (up2 (up2 (up2 (up2 T 100 1 ((T 100 1) + 1)) 100 3 a1) 100 4 a2) 100 5 x2))
def fX2_countFrame_j1 (n : Nat) (T : Nat → Nat → Int32) (a1 : Int32) (a2 : Int32) (x1 : Int32) : Int32 × (Nat → Nat → Int32) :=
  (fX2_countFrame_j2 n T a1 a2 x1 (if x1 = 0 then 1 else 0))
def fX2_countFrame (n : Nat) (T : Nat → Nat → Int32) (a1 : Int32) (a2 : Int32) : Int32 × (Nat → Nat → Int32) :=
  (fX2_countFrame_j1 n T a1 a2 (if ((up2 T 100 1 ((T 100 1) + 1)) 100 5) = 0 then 0 else (if a1 = ((up2 T 100 1 ((T 100 1) + 1)) 100 3) then (if a2 = ((up2 T 100 1 ((T 100 1) + 1)) 100 4) then 1 else 0) else 0)))
set_option maxRecDepth 100000 in
set_option maxHeartbeats 4000000 in
theorem kX2_countFrame (l : Launch) (Z : Zt) (ws : va_W) (n cap : Nat) (q : Nat → Nat) (T : Nat → Nat → Int32) (hB : BK ws n cap q) (a1 : Int32) (a2 : Int32)  : Ct l Z yX2_countFrame cX2_countFrame 4 (some .boolean) 0 0 0 0 (bw Z ws n cap q T) [.ref (q 0), .int a1, .int a2] (fun r w => r = some (.int (fX2_countFrame n T a1 a2).1) ∧ w = bw Z ws n cap q (fX2_countFrame n T a1 a2).2) := by
  refine Ct.start (by decide) (Nat.le_of_ble_eq_true rfl) ?_
  intro p e s m below meth c S hr hlk hnm hA hW hS ls hl
  replace S : CallFix p m c cX2_countFrame 4 s _ TB RX2 := S
  replace hl : lv_has ls 4 [(0, .ref (q 0)), (1, .int a1), (2, .int a2)] := hl
  refine lv_aload_n S.1 S.2.1 dX2_countFrame_0 rfl (lv_at hl 0 rfl) ?_
  refine lv_dup S.1 S.2.1 dX2_countFrame_1 rfl ?_
  refine b_get (x := (T 100 1)) S hA hB.1 hW 1 (by decide) (by decide) tf_X2_90 rfl dX2_countFrame_2 ?_
  refine lv_iconst (v := 1) S.1 S.2.1 dX2_countFrame_5 (by decide) ?_
  refine lv_iadd S.1 S.2.1 dX2_countFrame_6 ?_
  refine b_put (x := ((T 100 1) + 1)) S hA hB.1 hB.2.1 hW hS 1 (by decide) (by decide) tf_X2_90 rfl rfl rfl dX2_countFrame_7 (fun H locs hW hS => ?_)
  refine lv_aload_n S.1 S.2.1 dX2_countFrame_10 rfl (lv_at hl 0 rfl) ?_
  refine b_get (x := ((up2 T 100 1 ((T 100 1) + 1)) 100 5)) S hA hB.1 hW 5 (by decide) (by decide) tf_X2_50 rfl dX2_countFrame_11 ?_
  refine jn (Z := Z) (tree := (if ((up2 T 100 1 ((T 100 1) + 1)) 100 5) = 0 then 0 else (if a1 = ((up2 T 100 1 ((T 100 1) + 1)) 100 3) then (if a2 = ((up2 T 100 1 ((T 100 1) + 1)) 100 4) then 1 else 0) else 0))) 38 [] (bw Z ws n cap q (up2 T 100 1 ((T 100 1) + 1))) (fun x1 H locs e1 hW hS => ?_) (fun K1 => ?_)
  · skip
    refine lv_istore_n (lv' := [(3, .int x1), (0, .ref (q 0)), (1, .int a1), (2, .int a2)]) S.1 S.2.1 dX2_countFrame_38 rfl hl (by decide) rfl (fun ls hl => ?_)
    refine lv_aload_n S.1 S.2.1 dX2_countFrame_39 rfl (lv_at hl 1 rfl) ?_
    refine lv_iload_n S.1 S.2.1 dX2_countFrame_40 rfl (lv_at hl 2 rfl) ?_
    refine b_put (x := a1) S hA hB.1 hB.2.1 hW hS 3 (by decide) (by decide) tf_X2_114 rfl rfl rfl dX2_countFrame_41 (fun H locs hW hS => ?_)
    refine lv_aload_n S.1 S.2.1 dX2_countFrame_44 rfl (lv_at hl 1 rfl) ?_
    refine lv_iload_n S.1 S.2.1 dX2_countFrame_45 rfl (lv_at hl 3 rfl) ?_
    refine b_put (x := a2) S hA hB.1 hB.2.1 hW hS 4 (by decide) (by decide) tf_X2_117 rfl rfl rfl dX2_countFrame_46 (fun H locs hW hS => ?_)
    refine lv_aload_n S.1 S.2.1 dX2_countFrame_49 rfl (lv_at hl 1 rfl) ?_
    refine lv_iload_n S.1 S.2.1 dX2_countFrame_50 rfl (lv_at hl 0 rfl) ?_
    refine jn (Z := Z) (tree := (if x1 = 0 then 1 else 0)) 59 [.ref (q 0)] (bw Z ws n cap q (up2 (up2 (up2 T 100 1 ((T 100 1) + 1)) 100 3 a1) 100 4 a2)) (fun x2 H locs e2 hW hS => ?_) (fun K2 => ?_)
    · skip
      refine b_put (x := x2) S hA hB.1 hB.2.1 hW hS 5 (by decide) (by decide) tf_X2_50 rfl (by rw [e2]; (repeat' split) <;> rfl) (by first | rfl | (rw [e2]; (repeat' split) <;> rfl)) dX2_countFrame_59 (fun H locs hW hS => ?_)
      refine lv_iload_n S.1 S.2.1 dX2_countFrame_62 rfl (lv_at hl 0 rfl) ?_
      exact r_zret S hr hlk hW hS (by rw [e1]; (repeat' split) <;> rfl) (show some (Value.int x1) = some (Value.int (fX2_countFrame n T a1 a2).1) ∧ (bw Z ws n cap q (up2 (up2 (up2 (up2 T 100 1 ((T 100 1) + 1)) 100 3 a1) 100 4 a2) 100 5 x2)) = bw Z ws n cap q (fX2_countFrame n T a1 a2).2 from (by rw [show (fX2_countFrame n T a1 a2) = (x1, (up2 (up2 (up2 (up2 T 100 1 ((T 100 1) + 1)) 100 3 a1) 100 4 a2) 100 5 x2)) from (by first | rfl | (unfold fX2_countFrame; rw [← e1]; unfold fX2_countFrame_j1; rw [← e2]; unfold fX2_countFrame_j2; done) | (unfold fX2_countFrame; rw [← e1]; unfold fX2_countFrame_j1; rw [← e2]; unfold fX2_countFrame_j2; rfl))]; exact ⟨rfl, rfl⟩)) dX2_countFrame_63
    · skip
      refine lv_if_ne (tgt := 58) S.1 S.2.1 dX2_countFrame_51 (by decide) (fun c3 => ?_) (fun c3 => ?_)
      · skip
        refine lv_iconst (v := 0) S.1 S.2.1 dX2_countFrame_58 (by decide) ?_
        exact K2 _ _ _ (by rw [if_neg c3]) hW hS
      · skip
        refine lv_iconst (v := 1) S.1 S.2.1 dX2_countFrame_54 (by decide) ?_
        refine lv_goto (tgt := 59) S.1 S.2.1 dX2_countFrame_55 (by decide) ?_
        exact K2 _ _ _ (by rw [if_pos c3]) hW hS
  · skip
    refine lv_if_eq (tgt := 37) S.1 S.2.1 dX2_countFrame_14 (by decide) (fun c4 => ?_) (fun c4 => ?_)
    · skip
      refine lv_iconst (v := 0) S.1 S.2.1 dX2_countFrame_37 (by decide) ?_
      exact K1 _ _ _ (by rw [if_pos c4]) hW hS
    · skip
      refine lv_iload_n S.1 S.2.1 dX2_countFrame_17 rfl (lv_at hl 1 rfl) ?_
      refine lv_aload_n S.1 S.2.1 dX2_countFrame_18 rfl (lv_at hl 0 rfl) ?_
      refine b_get (x := ((up2 T 100 1 ((T 100 1) + 1)) 100 3)) S hA hB.1 hW 3 (by decide) (by decide) tf_X2_114 rfl dX2_countFrame_19 ?_
      refine lv_icmp_ne (tgt := 37) S.1 S.2.1 dX2_countFrame_22 (by decide) (fun c5 => ?_) (fun c5 => ?_)
      · skip
        refine lv_iconst (v := 0) S.1 S.2.1 dX2_countFrame_37 (by decide) ?_
        exact K1 _ _ _ (by rw [if_neg c4, if_neg c5]) hW hS
      · skip
        refine lv_iload_n S.1 S.2.1 dX2_countFrame_25 rfl (lv_at hl 2 rfl) ?_
        refine lv_aload_n S.1 S.2.1 dX2_countFrame_26 rfl (lv_at hl 0 rfl) ?_
        refine b_get (x := ((up2 T 100 1 ((T 100 1) + 1)) 100 4)) S hA hB.1 hW 4 (by decide) (by decide) tf_X2_117 rfl dX2_countFrame_27 ?_
        refine lv_icmp_ne (tgt := 37) S.1 S.2.1 dX2_countFrame_30 (by decide) (fun c6 => ?_) (fun c6 => ?_)
        · skip
          refine lv_iconst (v := 0) S.1 S.2.1 dX2_countFrame_37 (by decide) ?_
          exact K1 _ _ _ (by rw [if_neg c4, if_pos c5, if_neg c6]) hW hS
        · skip
          refine lv_iconst (v := 1) S.1 S.2.1 dX2_countFrame_33 (by decide) ?_
          refine lv_goto (tgt := 38) S.1 S.2.1 dX2_countFrame_34 (by decide) ?_
          exact K1 _ _ _ (by rw [if_neg c4, if_pos c5, if_pos c6]) hW hS
def fX2_isGear (n : Nat) (T : Nat → Nat → Int32) (a1 : Int32) : Int32 :=
  (if a1 < 0 then 0 else (if (nI n) ≤ a1 then 0 else 1))
theorem bfX2_isGear (n : Nat) (T : Nat → Nat → Int32) (a1 : Int32) : narrow .boolean (.int (fX2_isGear n T a1)) = .int (fX2_isGear n T a1) := by
  unfold fX2_isGear
  repeat' split
  all_goals first | rfl | exact bfX0_yesIf .. | exact bfX2_isByte .. | exact bfX2_joined .. | exact bfX3_isIn .. | exact bfX1_endFade .. | exact bfX1_isFading .. | exact bfX1_setLevel .. | exact bfX1_reset .. | exact bfX1_clamped .. | exact bfX1_offOrClamped .. | exact bfX1_goTo .. | exact bfX1_passTicks .. | exact bfX1_moveBy .. | exact bfX1_rateStep .. | exact bfX1_stepDownOrOff .. | exact bfX1_onOrStepUp .. | exact bfX1_setMost .. | exact bfX1_setLeast .. | exact bfX1_setFade .. | exact bfX1_setRate .. | exact bfX0_forgetSearch .. | exact bfX0_reset .. | exact bfX0_isMeantBy .. | exact bfX0_hearLevel .. | exact bfX0_goToUnlessUnset .. | exact bfX0_isShortOf .. | exact bfX0_takeShort .. | exact bfX0_isToInitialise .. | exact bfX0_status .. | exact bfX0_configureNumbered .. | exact bfX0_light .. | exact bfX0_configure .. | exact bfX0_answerTo .. | exact bfX0_startAgain .. | exact bfX0_hearInSearch .. | exact bfX0_hearSpecial .. | exact bfX0_hearCommand .. | exact bfX0_valueOf .. | exact bfX3_set .. | exact bfX3_within .. | exact bfX3_goTo .. | exact bfX3_step .. | exact bfX3_bring .. | exact bfX3_say .. | exact bfX3_level .. | exact bfX3_setShort .. | exact bfX3_isMeant .. | exact bfX3_ask .. | exact bfX3_special .. | exact bfX3_no .. | exact bfX3_compares .. | exact bfX3_frames .. | exact bfX3_begin .. | exact bfX3_change .. | exact bfX3_command .. | exact bfX3_fail .. | exact bfX3_power .. | exact bfX3_send .. | exact bfX3_tick .. | exact bfX3_search .. | exact bfX3_commission .. | exact bfX3_give .. | exact bfX3_told .. | exact bfX3_gear .. | exact bfJx4a65c_size_8abf5 .. | exact bfJx4a65c_get_915e3 .. | exact bfX2_countFrame ..
set_option maxRecDepth 100000 in
set_option maxHeartbeats 4000000 in
theorem kX2_isGear (l : Launch) (Z : Zt) (ws : va_W) (n cap : Nat) (q : Nat → Nat) (T : Nat → Nat → Int32) (hB : BK ws n cap q) (a1 : Int32)  : Ct l Z yX2_isGear cX2_isGear 2 (some .boolean) 1 20 0 0 (bw Z ws n cap q T) [.ref (q 0), .int a1] (fun r w => r = some (.int (fX2_isGear n T a1)) ∧ w = (bw Z ws n cap q T)) := by
  refine Ct.start (by decide) (Nat.le_of_ble_eq_true rfl) ?_
  intro p e s m below meth c S hr hlk hnm hA hW hS ls hl
  replace S : CallFix p m c cX2_isGear 2 s _ TB RX2 := S
  replace hl : lv_has ls 2 [(0, .ref (q 0)), (1, .int a1)] := hl
  refine lv_iload_n S.1 S.2.1 dX2_isGear_0 rfl (lv_at hl 1 rfl) ?_
  refine lv_if_lt (tgt := 19) S.1 S.2.1 dX2_isGear_1 (by decide) (fun c1 => ?_) (fun c1 => ?_)
  · skip
    refine lv_iconst (v := 0) S.1 S.2.1 dX2_isGear_19 (by decide) ?_
    exact r_zret S hr hlk hW hS rfl ⟨congrArg (fun z => some (Value.int z)) (show 0 = (fX2_isGear n T a1) from Eq.symm (by unfold fX2_isGear; rw [if_pos c1])), rfl⟩ dX2_isGear_20
  · skip
    refine lv_iload_n S.1 S.2.1 dX2_isGear_4 rfl (lv_at hl 1 rfl) ?_
    refine lv_aload_n S.1 S.2.1 dX2_isGear_5 rfl (lv_at hl 0 rfl) ?_
    refine b_getL S hA hB.1 hW tf_X2_10 dX2_isGear_6 ?_
    refine c_V S hA hW hS (kJ_size l Z ws n cap q T hB.1) ok_Jx4a65c_size_8abf5 tm_X2_16 tn_Jx4a65c_size_8abf5 tl_Jx4a65c_size_8abf5 (fo_mem (E := bE Z n cap q T) hB.1 1 (bN_1 n)) rfl rfl ⟨Nat.le_of_ble_eq_true rfl, Nat.le_of_ble_eq_true rfl⟩ rfl hl.1 rfl (Nat.le_of_ble_eq_true rfl) dX2_isGear_9 ⟨Nat.le_of_ble_eq_true rfl, Nat.le_of_ble_eq_true rfl⟩ (kk_i fun H locs hW hS => ?_)
    refine lv_icmp_ge (tgt := 19) S.1 S.2.1 dX2_isGear_12 (by decide) (fun c2 => ?_) (fun c2 => ?_)
    · skip
      refine lv_iconst (v := 0) S.1 S.2.1 dX2_isGear_19 (by decide) ?_
      exact r_zret S hr hlk hW hS rfl ⟨congrArg (fun z => some (Value.int z)) (show 0 = (fX2_isGear n T a1) from Eq.symm (by unfold fX2_isGear; rw [if_neg c1, if_pos c2])), rfl⟩ dX2_isGear_20
    · skip
      refine lv_iconst (v := 1) S.1 S.2.1 dX2_isGear_15 (by decide) ?_
      refine lv_goto (tgt := 20) S.1 S.2.1 dX2_isGear_16 (by decide) ?_
      exact r_zret S hr hlk hW hS rfl ⟨congrArg (fun z => some (Value.int z)) (show 1 = (fX2_isGear n T a1) from Eq.symm (by unfold fX2_isGear; rw [if_neg c1, if_neg c2])), rfl⟩ dX2_isGear_20
def fX2_compares (n : Nat) (T : Nat → Nat → Int32) : Int32 :=
  (T 100 2)
set_option maxRecDepth 100000 in
set_option maxHeartbeats 4000000 in
theorem kX2_compares (l : Launch) (Z : Zt) (ws : va_W) (n cap : Nat) (q : Nat → Nat) (T : Nat → Nat → Int32) (hB : BK ws n cap q)   : Ct l Z yX2_compares cX2_compares 1 (some .int) 0 0 0 0 (bw Z ws n cap q T) [.ref (q 0)] (fun r w => r = some (.int (fX2_compares n T)) ∧ w = (bw Z ws n cap q T)) := by
  refine Ct.start (by decide) (Nat.le_of_ble_eq_true rfl) ?_
  intro p e s m below meth c S hr hlk hnm hA hW hS ls hl
  replace S : CallFix p m c cX2_compares 1 s _ TB RX2 := S
  replace hl : lv_has ls 1 [(0, .ref (q 0))] := hl
  refine lv_aload_n S.1 S.2.1 dX2_compares_0 rfl (lv_at hl 0 rfl) ?_
  refine b_get (x := (T 100 2)) S hA hB.1 hW 2 (by decide) (by decide) tf_X2_77 rfl dX2_compares_1 ?_
  exact r_iret S hr hlk hW hS ⟨congrArg (fun z => some (Value.int z)) (show (T 100 2) = (fX2_compares n T) from Eq.symm rfl), rfl⟩ dX2_compares_4
def fX2_frames (n : Nat) (T : Nat → Nat → Int32) : Int32 :=
  (T 100 1)
set_option maxRecDepth 100000 in
set_option maxHeartbeats 4000000 in
theorem kX2_frames (l : Launch) (Z : Zt) (ws : va_W) (n cap : Nat) (q : Nat → Nat) (T : Nat → Nat → Int32) (hB : BK ws n cap q)   : Ct l Z yX2_frames cX2_frames 1 (some .int) 0 0 0 0 (bw Z ws n cap q T) [.ref (q 0)] (fun r w => r = some (.int (fX2_frames n T)) ∧ w = (bw Z ws n cap q T)) := by
  refine Ct.start (by decide) (Nat.le_of_ble_eq_true rfl) ?_
  intro p e s m below meth c S hr hlk hnm hA hW hS ls hl
  replace S : CallFix p m c cX2_frames 1 s _ TB RX2 := S
  replace hl : lv_has ls 1 [(0, .ref (q 0))] := hl
  refine lv_aload_n S.1 S.2.1 dX2_frames_0 rfl (lv_at hl 0 rfl) ?_
  refine b_get (x := (T 100 1)) S hA hB.1 hW 1 (by decide) (by decide) tf_X2_90 rfl dX2_frames_1 ?_
  exact r_iret S hr hlk hW hS ⟨congrArg (fun z => some (Value.int z)) (show (T 100 1) = (fX2_frames n T) from Eq.symm rfl), rfl⟩ dX2_frames_4
