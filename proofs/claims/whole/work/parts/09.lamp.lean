def fX1_endFade (G : Nat → Int32) : (Nat → Int32) :=
  (upd G 8 0)
set_option maxRecDepth 100000 in
set_option maxHeartbeats 4000000 in
theorem kX1_endFade (l : Launch) (Z : Zt) (ws : va_W) (q : Nat → Nat) (G : Nat → Int32) (hF : FI ws 3 q)   : Ct l Z yX1_endFade cX1_endFade 1 none 0 0 0 0 (gw Z ws q G) [.ref (q 1)] (fun r w => r = none ∧ w = gw Z ws q (fX1_endFade G)) := by
  refine Ct.start (by decide) (Nat.le_of_ble_eq_true rfl) ?_
  intro p e s m below meth c S hr hlk hnm hA hW hS ls hl
  replace S : CallFix p m c cX1_endFade 1 s _ TB RX1 := S
  replace hl : lv_has ls 1 [(0, .ref (q 1))] := hl
  refine lv_aload_n S.1 S.2.1 dX1_endFade_0 rfl (lv_at hl 0 rfl) ?_
  refine lv_iconst (v := 0) S.1 S.2.1 dX1_endFade_1 (by decide) ?_
  refine g_putL (x := 0) S hA hF hW hS 8 (by decide) tf_X1_28 rfl rfl rfl dX1_endFade_2 (fun H locs hW hS => ?_)
  exact r_vret S hr hlk hW hS ⟨rfl, congrArg (fun z => gw Z ws q z) (show (upd G 8 0) = (fX1_endFade G) from Eq.symm rfl)⟩ dX1_endFade_5
def fX1_isFading (G : Nat → Int32) : Int32 :=
  (if (G 8) ≤ 0 then 0 else 1)
theorem bfX1_isFading (G : Nat → Int32) : narrow .boolean (.int (fX1_isFading G)) = .int (fX1_isFading G) := by
  unfold fX1_isFading
  repeat' split
  all_goals first | rfl | exact bfX0_yesIf .. | exact bfX2_isByte .. | exact bfX2_joined .. | exact bfX3_isIn .. | exact bfX1_endFade ..
set_option maxRecDepth 100000 in
set_option maxHeartbeats 4000000 in
theorem kX1_isFading (l : Launch) (Z : Zt) (ws : va_W) (q : Nat → Nat) (G : Nat → Int32) (hF : FI ws 3 q)   : Ct l Z yX1_isFading cX1_isFading 1 (some .boolean) 0 0 0 0 (gw Z ws q G) [.ref (q 1)] (fun r w => r = some (.int (fX1_isFading G)) ∧ w = (gw Z ws q G)) := by
  refine Ct.start (by decide) (Nat.le_of_ble_eq_true rfl) ?_
  intro p e s m below meth c S hr hlk hnm hA hW hS ls hl
  replace S : CallFix p m c cX1_isFading 1 s _ TB RX1 := S
  replace hl : lv_has ls 1 [(0, .ref (q 1))] := hl
  refine lv_aload_n S.1 S.2.1 dX1_isFading_0 rfl (lv_at hl 0 rfl) ?_
  refine g_getL (x := (G 8)) S hA hF hW 8 (by decide) tf_X1_28 rfl dX1_isFading_1 ?_
  refine lv_if_le (tgt := 11) S.1 S.2.1 dX1_isFading_4 (by decide) (fun c1 => ?_) (fun c1 => ?_)
  · skip
    refine lv_iconst (v := 0) S.1 S.2.1 dX1_isFading_11 (by decide) ?_
    exact r_zret S hr hlk hW hS rfl ⟨congrArg (fun z => some (Value.int z)) (show 0 = (fX1_isFading G) from Eq.symm (by unfold fX1_isFading; rw [if_pos c1])), rfl⟩ dX1_isFading_12
  · skip
    refine lv_iconst (v := 1) S.1 S.2.1 dX1_isFading_7 (by decide) ?_
    refine lv_goto (tgt := 12) S.1 S.2.1 dX1_isFading_8 (by decide) ?_
    exact r_zret S hr hlk hW hS rfl ⟨congrArg (fun z => some (Value.int z)) (show 1 = (fX1_isFading G) from Eq.symm (by unfold fX1_isFading; rw [if_neg c1])), rfl⟩ dX1_isFading_12
def fX1_setLevel (G : Nat → Int32) (a1 : Int32) : (Nat → Int32) :=
  (fX1_endFade (upd G 0 a1))
set_option maxRecDepth 100000 in
set_option maxHeartbeats 4000000 in
theorem kX1_setLevel (l : Launch) (Z : Zt) (ws : va_W) (q : Nat → Nat) (G : Nat → Int32) (hF : FI ws 3 q) (a1 : Int32)  : Ct l Z yX1_setLevel cX1_setLevel 2 none 1 20 0 0 (gw Z ws q G) [.ref (q 1), .int a1] (fun r w => r = none ∧ w = gw Z ws q (fX1_setLevel G a1)) := by
  refine Ct.start (by decide) (Nat.le_of_ble_eq_true rfl) ?_
  intro p e s m below meth c S hr hlk hnm hA hW hS ls hl
  replace S : CallFix p m c cX1_setLevel 2 s _ TB RX1 := S
  replace hl : lv_has ls 2 [(0, .ref (q 1)), (1, .int a1)] := hl
  refine lv_aload_n S.1 S.2.1 dX1_setLevel_0 rfl (lv_at hl 0 rfl) ?_
  refine lv_iload_n S.1 S.2.1 dX1_setLevel_1 rfl (lv_at hl 1 rfl) ?_
  refine g_putL (x := a1) S hA hF hW hS 0 (by decide) tf_X1_9 rfl rfl rfl dX1_setLevel_2 (fun H locs hW hS => ?_)
  refine lv_aload_n S.1 S.2.1 dX1_setLevel_5 rfl (lv_at hl 0 rfl) ?_
  refine c_V S hA hW hS (kX1_endFade l Z ws q (upd G 0 a1) hF ) ok_X1_endFade tm_X1_25 tn_X1_endFade tl_X1_endFade (fo_mem hF 1 (by decide)) rfl rfl ⟨Nat.le_of_ble_eq_true rfl, Nat.le_of_ble_eq_true rfl⟩ rfl hl.1 rfl (Nat.le_of_ble_eq_true rfl) dX1_setLevel_6 ⟨Nat.le_of_ble_eq_true rfl, Nat.le_of_ble_eq_true rfl⟩ (kk_v fun H locs hW hS => ?_)
  exact r_vret S hr hlk hW hS ⟨rfl, congrArg (fun z => gw Z ws q z) (show (fX1_endFade (upd G 0 a1)) = (fX1_setLevel G a1) from Eq.symm rfl)⟩ dX1_setLevel_9
def fX1_reset (G : Nat → Int32) : (Nat → Int32) :=
  (fX1_endFade (upd (upd (upd (upd (upd G 0 254) 1 1) 2 254) 3 0) 4 7))
set_option maxRecDepth 100000 in
set_option maxHeartbeats 4000000 in
theorem kX1_reset (l : Launch) (Z : Zt) (ws : va_W) (q : Nat → Nat) (G : Nat → Int32) (hF : FI ws 3 q)   : Ct l Z yX1_reset cX1_reset 1 none 1 20 0 0 (gw Z ws q G) [.ref (q 1)] (fun r w => r = none ∧ w = gw Z ws q (fX1_reset G)) := by
  refine Ct.start (by decide) (Nat.le_of_ble_eq_true rfl) ?_
  intro p e s m below meth c S hr hlk hnm hA hW hS ls hl
  replace S : CallFix p m c cX1_reset 1 s _ TB RX1 := S
  replace hl : lv_has ls 1 [(0, .ref (q 1))] := hl
  refine lv_aload_n S.1 S.2.1 dX1_reset_0 rfl (lv_at hl 0 rfl) ?_
  refine lv_sipush (v := 254) S.1 S.2.1 dX1_reset_1 (by decide) ?_
  refine g_putL (x := 254) S hA hF hW hS 0 (by decide) tf_X1_9 rfl rfl rfl dX1_reset_4 (fun H locs hW hS => ?_)
  refine lv_aload_n S.1 S.2.1 dX1_reset_7 rfl (lv_at hl 0 rfl) ?_
  refine lv_iconst (v := 1) S.1 S.2.1 dX1_reset_8 (by decide) ?_
  refine g_putL (x := 1) S hA hF hW hS 1 (by decide) tf_X1_13 rfl rfl rfl dX1_reset_9 (fun H locs hW hS => ?_)
  refine lv_aload_n S.1 S.2.1 dX1_reset_12 rfl (lv_at hl 0 rfl) ?_
  refine lv_sipush (v := 254) S.1 S.2.1 dX1_reset_13 (by decide) ?_
  refine g_putL (x := 254) S hA hF hW hS 2 (by decide) tf_X1_16 rfl rfl rfl dX1_reset_16 (fun H locs hW hS => ?_)
  refine lv_aload_n S.1 S.2.1 dX1_reset_19 rfl (lv_at hl 0 rfl) ?_
  refine lv_iconst (v := 0) S.1 S.2.1 dX1_reset_20 (by decide) ?_
  refine g_putL (x := 0) S hA hF hW hS 3 (by decide) tf_X1_19 rfl rfl rfl dX1_reset_21 (fun H locs hW hS => ?_)
  refine lv_aload_n S.1 S.2.1 dX1_reset_24 rfl (lv_at hl 0 rfl) ?_
  refine lv_bipush (v := 7) S.1 S.2.1 dX1_reset_25 (by decide) ?_
  refine g_putL (x := 7) S hA hF hW hS 4 (by decide) tf_X1_22 rfl rfl rfl dX1_reset_27 (fun H locs hW hS => ?_)
  refine lv_aload_n S.1 S.2.1 dX1_reset_30 rfl (lv_at hl 0 rfl) ?_
  refine c_V S hA hW hS (kX1_endFade l Z ws q (upd (upd (upd (upd (upd G 0 254) 1 1) 2 254) 3 0) 4 7) hF ) ok_X1_endFade tm_X1_25 tn_X1_endFade tl_X1_endFade (fo_mem hF 1 (by decide)) rfl rfl ⟨Nat.le_of_ble_eq_true rfl, Nat.le_of_ble_eq_true rfl⟩ rfl hl.1 rfl (Nat.le_of_ble_eq_true rfl) dX1_reset_31 ⟨Nat.le_of_ble_eq_true rfl, Nat.le_of_ble_eq_true rfl⟩ (kk_v fun H locs hW hS => ?_)
  exact r_vret S hr hlk hW hS ⟨rfl, congrArg (fun z => gw Z ws q z) (show (fX1_endFade (upd (upd (upd (upd (upd G 0 254) 1 1) 2 254) 3 0) 4 7)) = (fX1_reset G) from Eq.symm rfl)⟩ dX1_reset_34
def fX1_clamped (G : Nat → Int32) (a1 : Int32) : Int32 :=
  (if (G 1) ≤ a1 then (if a1 ≤ (G 2) then a1 else (G 2)) else (G 1))
set_option maxRecDepth 100000 in
set_option maxHeartbeats 4000000 in
theorem kX1_clamped (l : Launch) (Z : Zt) (ws : va_W) (q : Nat → Nat) (G : Nat → Int32) (hF : FI ws 3 q) (a1 : Int32)  : Ct l Z yX1_clamped cX1_clamped 2 (some .int) 0 0 0 0 (gw Z ws q G) [.ref (q 1), .int a1] (fun r w => r = some (.int (fX1_clamped G a1)) ∧ w = (gw Z ws q G)) := by
  refine Ct.start (by decide) (Nat.le_of_ble_eq_true rfl) ?_
  intro p e s m below meth c S hr hlk hnm hA hW hS ls hl
  replace S : CallFix p m c cX1_clamped 2 s _ TB RX1 := S
  replace hl : lv_has ls 2 [(0, .ref (q 1)), (1, .int a1)] := hl
  refine lv_iload_n S.1 S.2.1 dX1_clamped_0 rfl (lv_at hl 1 rfl) ?_
  refine lv_aload_n S.1 S.2.1 dX1_clamped_1 rfl (lv_at hl 0 rfl) ?_
  refine g_getL (x := (G 1)) S hA hF hW 1 (by decide) tf_X1_13 rfl dX1_clamped_2 ?_
  refine lv_icmp_ge (tgt := 13) S.1 S.2.1 dX1_clamped_5 (by decide) (fun c1 => ?_) (fun c1 => ?_)
  · skip
    refine lv_iload_n S.1 S.2.1 dX1_clamped_13 rfl (lv_at hl 1 rfl) ?_
    refine lv_aload_n S.1 S.2.1 dX1_clamped_14 rfl (lv_at hl 0 rfl) ?_
    refine g_getL (x := (G 2)) S hA hF hW 2 (by decide) tf_X1_16 rfl dX1_clamped_15 ?_
    refine lv_icmp_le (tgt := 28) S.1 S.2.1 dX1_clamped_18 (by decide) (fun c2 => ?_) (fun c2 => ?_)
    · skip
      refine lv_iload_n S.1 S.2.1 dX1_clamped_28 rfl (lv_at hl 1 rfl) ?_
      exact r_iret S hr hlk hW hS ⟨congrArg (fun z => some (Value.int z)) (show a1 = (fX1_clamped G a1) from Eq.symm (by unfold fX1_clamped; rw [if_pos c1, if_pos c2])), rfl⟩ dX1_clamped_29
    · skip
      refine lv_aload_n S.1 S.2.1 dX1_clamped_21 rfl (lv_at hl 0 rfl) ?_
      refine g_getL (x := (G 2)) S hA hF hW 2 (by decide) tf_X1_16 rfl dX1_clamped_22 ?_
      refine lv_goto (tgt := 29) S.1 S.2.1 dX1_clamped_25 (by decide) ?_
      exact r_iret S hr hlk hW hS ⟨congrArg (fun z => some (Value.int z)) (show (G 2) = (fX1_clamped G a1) from Eq.symm (by unfold fX1_clamped; rw [if_pos c1, if_neg c2])), rfl⟩ dX1_clamped_29
  · skip
    refine lv_aload_n S.1 S.2.1 dX1_clamped_8 rfl (lv_at hl 0 rfl) ?_
    refine g_getL (x := (G 1)) S hA hF hW 1 (by decide) tf_X1_13 rfl dX1_clamped_9 ?_
    exact r_iret S hr hlk hW hS ⟨congrArg (fun z => some (Value.int z)) (show (G 1) = (fX1_clamped G a1) from Eq.symm (by unfold fX1_clamped; rw [if_neg c1])), rfl⟩ dX1_clamped_12
def fX1_offOrClamped (G : Nat → Int32) (a1 : Int32) : Int32 :=
  (if a1 = 0 then 0 else (fX1_clamped G a1))
set_option maxRecDepth 100000 in
set_option maxHeartbeats 4000000 in
theorem kX1_offOrClamped (l : Launch) (Z : Zt) (ws : va_W) (q : Nat → Nat) (G : Nat → Int32) (hF : FI ws 3 q) (a1 : Int32)  : Ct l Z yX1_offOrClamped cX1_offOrClamped 2 (some .int) 1 21 0 0 (gw Z ws q G) [.ref (q 1), .int a1] (fun r w => r = some (.int (fX1_offOrClamped G a1)) ∧ w = (gw Z ws q G)) := by
  refine Ct.start (by decide) (Nat.le_of_ble_eq_true rfl) ?_
  intro p e s m below meth c S hr hlk hnm hA hW hS ls hl
  replace S : CallFix p m c cX1_offOrClamped 2 s _ TB RX1 := S
  replace hl : lv_has ls 2 [(0, .ref (q 1)), (1, .int a1)] := hl
  refine lv_iload_n S.1 S.2.1 dX1_offOrClamped_0 rfl (lv_at hl 1 rfl) ?_
  refine lv_if_ne (tgt := 8) S.1 S.2.1 dX1_offOrClamped_1 (by decide) (fun c1 => ?_) (fun c1 => ?_)
  · skip
    refine lv_aload_n S.1 S.2.1 dX1_offOrClamped_8 rfl (lv_at hl 0 rfl) ?_
    refine lv_iload_n S.1 S.2.1 dX1_offOrClamped_9 rfl (lv_at hl 1 rfl) ?_
    refine c_V S hA hW hS (kX1_clamped l Z ws q G hF a1) ok_X1_clamped tm_X1_31 tn_X1_clamped tl_X1_clamped (fo_mem hF 1 (by decide)) rfl rfl ⟨Nat.le_of_ble_eq_true rfl, Nat.le_of_ble_eq_true rfl⟩ rfl hl.1 rfl (Nat.le_of_ble_eq_true rfl) dX1_offOrClamped_10 ⟨Nat.le_of_ble_eq_true rfl, Nat.le_of_ble_eq_true rfl⟩ (kk_i fun H locs hW hS => ?_)
    exact r_iret S hr hlk hW hS ⟨congrArg (fun z => some (Value.int z)) (show (fX1_clamped G a1) = (fX1_offOrClamped G a1) from Eq.symm (by unfold fX1_offOrClamped; rw [if_neg c1])), rfl⟩ dX1_offOrClamped_13
  · skip
    refine lv_iconst (v := 0) S.1 S.2.1 dX1_offOrClamped_4 (by decide) ?_
    refine lv_goto (tgt := 13) S.1 S.2.1 dX1_offOrClamped_5 (by decide) ?_
    exact r_iret S hr hlk hW hS ⟨congrArg (fun z => some (Value.int z)) (show 0 = (fX1_offOrClamped G a1) from Eq.symm (by unfold fX1_offOrClamped; rw [if_pos c1])), rfl⟩ dX1_offOrClamped_13
def fX1_goTo (G : Nat → Int32) (a1 : Int32) : (Nat → Int32) :=
  (if (G 3) = 0 then (fX1_setLevel G (fX1_offOrClamped G a1)) else (if (G 0) = 0 then (fX1_setLevel G (fX1_offOrClamped G a1)) else (if (fX1_offOrClamped G a1) = 0 then (if (G 0) = (G 1) then (fX1_setLevel G (fX1_offOrClamped G a1)) else (upd (upd (upd (upd G 5 (G 0)) 6 (fX1_offOrClamped G a1)) 7 0) 8 (tabT ((G 3) &&& 15).toNatClampNeg))) else (upd (upd (upd (upd G 5 (G 0)) 6 (fX1_offOrClamped G a1)) 7 0) 8 (tabT ((G 3) &&& 15).toNatClampNeg)))))
set_option maxRecDepth 100000 in
set_option maxHeartbeats 4000000 in
theorem kX1_goTo (l : Launch) (Z : Zt) (ws : va_W) (q : Nat → Nat) (G : Nat → Int32) (hF : FI ws 3 q) (a1 : Int32)  : Ct l Z yX1_goTo cX1_goTo 3 none 2 42 0 0 (gw Z ws q G) [.ref (q 1), .int a1] (fun r w => r = none ∧ w = gw Z ws q (fX1_goTo G a1)) := by
  refine Ct.start (by decide) (Nat.le_of_ble_eq_true rfl) ?_
  intro p e s m below meth c S hr hlk hnm hA hW hS ls hl
  replace S : CallFix p m c cX1_goTo 3 s _ TB RX1 := S
  replace hl : lv_has ls 3 [(0, .ref (q 1)), (1, .int a1)] := hl
  refine lv_aload_n S.1 S.2.1 dX1_goTo_0 rfl (lv_at hl 0 rfl) ?_
  refine lv_iload_n S.1 S.2.1 dX1_goTo_1 rfl (lv_at hl 1 rfl) ?_
  refine c_V S hA hW hS (kX1_offOrClamped l Z ws q G hF a1) ok_X1_offOrClamped tm_X1_35 tn_X1_offOrClamped tl_X1_offOrClamped (fo_mem hF 1 (by decide)) rfl rfl ⟨Nat.le_of_ble_eq_true rfl, Nat.le_of_ble_eq_true rfl⟩ rfl hl.1 rfl (Nat.le_of_ble_eq_true rfl) dX1_goTo_2 ⟨Nat.le_of_ble_eq_true rfl, Nat.le_of_ble_eq_true rfl⟩ (kk_i fun H locs hW hS => ?_)
  refine lv_istore_n (lv' := [(2, .int (fX1_offOrClamped G a1)), (0, .ref (q 1)), (1, .int a1)]) S.1 S.2.1 dX1_goTo_5 rfl hl (by decide) rfl (fun ls hl => ?_)
  refine lv_aload_n S.1 S.2.1 dX1_goTo_6 rfl (lv_at hl 1 rfl) ?_
  refine g_getL (x := (G 3)) S hA hF hW 3 (by decide) tf_X1_19 rfl dX1_goTo_7 ?_
  refine lv_if_eq (tgt := 35) S.1 S.2.1 dX1_goTo_10 (by decide) (fun c1 => ?_) (fun c1 => ?_)
  · skip
    refine lv_aload_n S.1 S.2.1 dX1_goTo_35 rfl (lv_at hl 1 rfl) ?_
    refine lv_iload_n S.1 S.2.1 dX1_goTo_36 rfl (lv_at hl 0 rfl) ?_
    refine c_V S hA hW hS (kX1_setLevel l Z ws q G hF (fX1_offOrClamped G a1)) ok_X1_setLevel tm_X1_38 tn_X1_setLevel tl_X1_setLevel (fo_mem hF 1 (by decide)) rfl rfl ⟨Nat.le_of_ble_eq_true rfl, Nat.le_of_ble_eq_true rfl⟩ rfl hl.1 rfl (Nat.le_of_ble_eq_true rfl) dX1_goTo_37 ⟨Nat.le_of_ble_eq_true rfl, Nat.le_of_ble_eq_true rfl⟩ (kk_v fun H locs hW hS => ?_)
    exact r_vret S hr hlk hW hS ⟨rfl, congrArg (fun z => gw Z ws q z) (show (fX1_setLevel G (fX1_offOrClamped G a1)) = (fX1_goTo G a1) from Eq.symm (by unfold fX1_goTo; rw [if_pos c1]))⟩ dX1_goTo_40
  · skip
    refine lv_aload_n S.1 S.2.1 dX1_goTo_13 rfl (lv_at hl 1 rfl) ?_
    refine g_getL (x := (G 0)) S hA hF hW 0 (by decide) tf_X1_9 rfl dX1_goTo_14 ?_
    refine lv_if_eq (tgt := 35) S.1 S.2.1 dX1_goTo_17 (by decide) (fun c2 => ?_) (fun c2 => ?_)
    · skip
      refine lv_aload_n S.1 S.2.1 dX1_goTo_35 rfl (lv_at hl 1 rfl) ?_
      refine lv_iload_n S.1 S.2.1 dX1_goTo_36 rfl (lv_at hl 0 rfl) ?_
      refine c_V S hA hW hS (kX1_setLevel l Z ws q G hF (fX1_offOrClamped G a1)) ok_X1_setLevel tm_X1_38 tn_X1_setLevel tl_X1_setLevel (fo_mem hF 1 (by decide)) rfl rfl ⟨Nat.le_of_ble_eq_true rfl, Nat.le_of_ble_eq_true rfl⟩ rfl hl.1 rfl (Nat.le_of_ble_eq_true rfl) dX1_goTo_37 ⟨Nat.le_of_ble_eq_true rfl, Nat.le_of_ble_eq_true rfl⟩ (kk_v fun H locs hW hS => ?_)
      exact r_vret S hr hlk hW hS ⟨rfl, congrArg (fun z => gw Z ws q z) (show (fX1_setLevel G (fX1_offOrClamped G a1)) = (fX1_goTo G a1) from Eq.symm (by unfold fX1_goTo; rw [if_neg c1, if_pos c2]))⟩ dX1_goTo_40
    · skip
      refine lv_iload_n S.1 S.2.1 dX1_goTo_20 rfl (lv_at hl 0 rfl) ?_
      refine lv_if_ne (tgt := 41) S.1 S.2.1 dX1_goTo_21 (by decide) (fun c3 => ?_) (fun c3 => ?_)
      · skip
        refine lv_aload_n S.1 S.2.1 dX1_goTo_41 rfl (lv_at hl 1 rfl) ?_
        refine lv_aload_n S.1 S.2.1 dX1_goTo_42 rfl (lv_at hl 1 rfl) ?_
        refine g_getL (x := (G 0)) S hA hF hW 0 (by decide) tf_X1_9 rfl dX1_goTo_43 ?_
        refine g_putL (x := (G 0)) S hA hF hW hS 5 (by decide) tf_X1_42 rfl rfl rfl dX1_goTo_46 (fun H locs hW hS => ?_)
        refine lv_aload_n S.1 S.2.1 dX1_goTo_49 rfl (lv_at hl 1 rfl) ?_
        refine lv_iload_n S.1 S.2.1 dX1_goTo_50 rfl (lv_at hl 0 rfl) ?_
        refine g_putL (x := (fX1_offOrClamped G a1)) S hA hF hW hS 6 (by decide) tf_X1_45 rfl rfl rfl dX1_goTo_51 (fun H locs hW hS => ?_)
        refine lv_aload_n S.1 S.2.1 dX1_goTo_54 rfl (lv_at hl 1 rfl) ?_
        refine lv_iconst (v := 0) S.1 S.2.1 dX1_goTo_55 (by decide) ?_
        refine g_putL (x := 0) S hA hF hW hS 7 (by decide) tf_X1_48 rfl rfl rfl dX1_goTo_56 (fun H locs hW hS => ?_)
        refine lv_aload_n S.1 S.2.1 dX1_goTo_59 rfl (lv_at hl 1 rfl) ?_
        refine r_statT S hA hS tf_X1_51 dX1_goTo_60 ?_
        refine lv_aload_n S.1 S.2.1 dX1_goTo_63 rfl (lv_at hl 1 rfl) ?_
        refine g_getL (x := (G 3)) S hA hF hW 3 (by decide) tf_X1_19 rfl dX1_goTo_64 ?_
        refine lv_bipush (v := 15) S.1 S.2.1 dX1_goTo_67 (by decide) ?_
        refine lv_iand S.1 S.2.1 dX1_goTo_69 ?_
        refine r_taldT S hA hS (and15 _) dX1_goTo_70 ?_
        refine g_putL (x := (tabT ((G 3) &&& 15).toNatClampNeg)) S hA hF hW hS 8 (by decide) tf_X1_28 rfl rfl rfl dX1_goTo_71 (fun H locs hW hS => ?_)
        exact r_vret S hr hlk hW hS ⟨rfl, congrArg (fun z => gw Z ws q z) (show (upd (upd (upd (upd G 5 (G 0)) 6 (fX1_offOrClamped G a1)) 7 0) 8 (tabT ((G 3) &&& 15).toNatClampNeg)) = (fX1_goTo G a1) from Eq.symm (by unfold fX1_goTo; rw [if_neg c1, if_neg c2, if_neg c3]))⟩ dX1_goTo_74
      · skip
        refine lv_aload_n S.1 S.2.1 dX1_goTo_24 rfl (lv_at hl 1 rfl) ?_
        refine g_getL (x := (G 0)) S hA hF hW 0 (by decide) tf_X1_9 rfl dX1_goTo_25 ?_
        refine lv_aload_n S.1 S.2.1 dX1_goTo_28 rfl (lv_at hl 1 rfl) ?_
        refine g_getL (x := (G 1)) S hA hF hW 1 (by decide) tf_X1_13 rfl dX1_goTo_29 ?_
        refine lv_icmp_ne (tgt := 41) S.1 S.2.1 dX1_goTo_32 (by decide) (fun c4 => ?_) (fun c4 => ?_)
        · skip
          refine lv_aload_n S.1 S.2.1 dX1_goTo_41 rfl (lv_at hl 1 rfl) ?_
          refine lv_aload_n S.1 S.2.1 dX1_goTo_42 rfl (lv_at hl 1 rfl) ?_
          refine g_getL (x := (G 0)) S hA hF hW 0 (by decide) tf_X1_9 rfl dX1_goTo_43 ?_
          refine g_putL (x := (G 0)) S hA hF hW hS 5 (by decide) tf_X1_42 rfl rfl rfl dX1_goTo_46 (fun H locs hW hS => ?_)
          refine lv_aload_n S.1 S.2.1 dX1_goTo_49 rfl (lv_at hl 1 rfl) ?_
          refine lv_iload_n S.1 S.2.1 dX1_goTo_50 rfl (lv_at hl 0 rfl) ?_
          refine g_putL (x := (fX1_offOrClamped G a1)) S hA hF hW hS 6 (by decide) tf_X1_45 rfl rfl rfl dX1_goTo_51 (fun H locs hW hS => ?_)
          refine lv_aload_n S.1 S.2.1 dX1_goTo_54 rfl (lv_at hl 1 rfl) ?_
          refine lv_iconst (v := 0) S.1 S.2.1 dX1_goTo_55 (by decide) ?_
          refine g_putL (x := 0) S hA hF hW hS 7 (by decide) tf_X1_48 rfl rfl rfl dX1_goTo_56 (fun H locs hW hS => ?_)
          refine lv_aload_n S.1 S.2.1 dX1_goTo_59 rfl (lv_at hl 1 rfl) ?_
          refine r_statT S hA hS tf_X1_51 dX1_goTo_60 ?_
          refine lv_aload_n S.1 S.2.1 dX1_goTo_63 rfl (lv_at hl 1 rfl) ?_
          refine g_getL (x := (G 3)) S hA hF hW 3 (by decide) tf_X1_19 rfl dX1_goTo_64 ?_
          refine lv_bipush (v := 15) S.1 S.2.1 dX1_goTo_67 (by decide) ?_
          refine lv_iand S.1 S.2.1 dX1_goTo_69 ?_
          refine r_taldT S hA hS (and15 _) dX1_goTo_70 ?_
          refine g_putL (x := (tabT ((G 3) &&& 15).toNatClampNeg)) S hA hF hW hS 8 (by decide) tf_X1_28 rfl rfl rfl dX1_goTo_71 (fun H locs hW hS => ?_)
          exact r_vret S hr hlk hW hS ⟨rfl, congrArg (fun z => gw Z ws q z) (show (upd (upd (upd (upd G 5 (G 0)) 6 (fX1_offOrClamped G a1)) 7 0) 8 (tabT ((G 3) &&& 15).toNatClampNeg)) = (fX1_goTo G a1) from Eq.symm (by unfold fX1_goTo; rw [if_neg c1, if_neg c2, if_pos c3, if_neg c4]))⟩ dX1_goTo_74
        · skip
          refine lv_aload_n S.1 S.2.1 dX1_goTo_35 rfl (lv_at hl 1 rfl) ?_
          refine lv_iload_n S.1 S.2.1 dX1_goTo_36 rfl (lv_at hl 0 rfl) ?_
          refine c_V S hA hW hS (kX1_setLevel l Z ws q G hF (fX1_offOrClamped G a1)) ok_X1_setLevel tm_X1_38 tn_X1_setLevel tl_X1_setLevel (fo_mem hF 1 (by decide)) rfl rfl ⟨Nat.le_of_ble_eq_true rfl, Nat.le_of_ble_eq_true rfl⟩ rfl hl.1 rfl (Nat.le_of_ble_eq_true rfl) dX1_goTo_37 ⟨Nat.le_of_ble_eq_true rfl, Nat.le_of_ble_eq_true rfl⟩ (kk_v fun H locs hW hS => ?_)
          exact r_vret S hr hlk hW hS ⟨rfl, congrArg (fun z => gw Z ws q z) (show (fX1_setLevel G (fX1_offOrClamped G a1)) = (fX1_goTo G a1) from Eq.symm (by unfold fX1_goTo; rw [if_neg c1, if_neg c2, if_pos c3, if_pos c4]))⟩ dX1_goTo_40
def fX1_passTicks (G : Nat → Int32) (a1 : Int32) : (Nat → Int32) :=
  (if 0 < (G 8) then (if ((G 7) + a1) < (G 8) then (upd (upd G 7 ((G 7) + a1)) 0 (fmax ((G 5) + ((((G 6) - (G 5)) * ((G 7) + a1)) / (G 8))) (G 1))) else (fX1_setLevel (upd G 7 ((G 7) + a1)) (G 6))) else G)
set_option maxRecDepth 100000 in
set_option maxHeartbeats 4000000 in
theorem kX1_passTicks (l : Launch) (Z : Zt) (ws : va_W) (q : Nat → Nat) (G : Nat → Int32) (hF : FI ws 3 q) (a1 : Int32)  : Ct l Z yX1_passTicks cX1_passTicks 3 none 2 41 0 0 (gw Z ws q G) [.ref (q 1), .int a1] (fun r w => r = none ∧ w = gw Z ws q (fX1_passTicks G a1)) := by
  refine Ct.start (by decide) (Nat.le_of_ble_eq_true rfl) ?_
  intro p e s m below meth c S hr hlk hnm hA hW hS ls hl
  replace S : CallFix p m c cX1_passTicks 3 s _ TB RX1 := S
  replace hl : lv_has ls 3 [(0, .ref (q 1)), (1, .int a1)] := hl
  refine lv_aload_n S.1 S.2.1 dX1_passTicks_0 rfl (lv_at hl 0 rfl) ?_
  refine g_getL (x := (G 8)) S hA hF hW 8 (by decide) tf_X1_28 rfl dX1_passTicks_1 ?_
  refine lv_if_gt (tgt := 8) S.1 S.2.1 dX1_passTicks_4 (by decide) (fun c1 => ?_) (fun c1 => ?_)
  · skip
    refine lv_aload_n S.1 S.2.1 dX1_passTicks_8 rfl (lv_at hl 0 rfl) ?_
    refine lv_dup S.1 S.2.1 dX1_passTicks_9 rfl ?_
    refine g_getL (x := (G 7)) S hA hF hW 7 (by decide) tf_X1_48 rfl dX1_passTicks_10 ?_
    refine lv_iload_n S.1 S.2.1 dX1_passTicks_13 rfl (lv_at hl 1 rfl) ?_
    refine lv_iadd S.1 S.2.1 dX1_passTicks_14 ?_
    refine g_putL (x := ((G 7) + a1)) S hA hF hW hS 7 (by decide) tf_X1_48 rfl rfl rfl dX1_passTicks_15 (fun H locs hW hS => ?_)
    refine lv_aload_n S.1 S.2.1 dX1_passTicks_18 rfl (lv_at hl 0 rfl) ?_
    refine g_getL (x := ((G 7) + a1)) S hA hF hW 7 (by decide) tf_X1_48 rfl dX1_passTicks_19 ?_
    refine lv_aload_n S.1 S.2.1 dX1_passTicks_22 rfl (lv_at hl 0 rfl) ?_
    refine g_getL (x := (G 8)) S hA hF hW 8 (by decide) tf_X1_28 rfl dX1_passTicks_23 ?_
    refine lv_icmp_lt (tgt := 38) S.1 S.2.1 dX1_passTicks_26 (by decide) (fun c2 => ?_) (fun c2 => ?_)
    · skip
      refine lv_aload_n S.1 S.2.1 dX1_passTicks_38 rfl (lv_at hl 0 rfl) ?_
      refine g_getL (x := (G 5)) S hA hF hW 5 (by decide) tf_X1_42 rfl dX1_passTicks_39 ?_
      refine lv_aload_n S.1 S.2.1 dX1_passTicks_42 rfl (lv_at hl 0 rfl) ?_
      refine g_getL (x := (G 6)) S hA hF hW 6 (by decide) tf_X1_45 rfl dX1_passTicks_43 ?_
      refine lv_aload_n S.1 S.2.1 dX1_passTicks_46 rfl (lv_at hl 0 rfl) ?_
      refine g_getL (x := (G 5)) S hA hF hW 5 (by decide) tf_X1_42 rfl dX1_passTicks_47 ?_
      refine lv_isub S.1 S.2.1 dX1_passTicks_50 ?_
      refine lv_aload_n S.1 S.2.1 dX1_passTicks_51 rfl (lv_at hl 0 rfl) ?_
      refine g_getL (x := ((G 7) + a1)) S hA hF hW 7 (by decide) tf_X1_48 rfl dX1_passTicks_52 ?_
      refine lv_imul S.1 S.2.1 dX1_passTicks_55 ?_
      refine lv_aload_n S.1 S.2.1 dX1_passTicks_56 rfl (lv_at hl 0 rfl) ?_
      refine g_getL (x := (G 8)) S hA hF hW 8 (by decide) tf_X1_28 rfl dX1_passTicks_57 ?_
      refine lv_idiv S.1 S.2.1 dX1_passTicks_60 (fun z => absurd c1 (by rw [z]; decide)) ?_
      refine lv_iadd S.1 S.2.1 dX1_passTicks_61 ?_
      refine lv_istore_n (lv' := [(2, .int ((G 5) + ((((G 6) - (G 5)) * ((G 7) + a1)) / (G 8)))), (0, .ref (q 1)), (1, .int a1)]) S.1 S.2.1 dX1_passTicks_62 rfl hl (by decide) rfl (fun ls hl => ?_)
      refine lv_aload_n S.1 S.2.1 dX1_passTicks_63 rfl (lv_at hl 1 rfl) ?_
      refine lv_iload_n S.1 S.2.1 dX1_passTicks_64 rfl (lv_at hl 0 rfl) ?_
      refine lv_aload_n S.1 S.2.1 dX1_passTicks_65 rfl (lv_at hl 1 rfl) ?_
      refine g_getL (x := (G 1)) S hA hF hW 1 (by decide) tf_X1_13 rfl dX1_passTicks_66 ?_
      refine m_max S tm_X1_55 hl.1 (Nat.le_of_ble_eq_true rfl) (Nat.le_of_ble_eq_true rfl) (Nat.le_of_ble_eq_true rfl) (Nat.le_of_ble_eq_true rfl) dX1_passTicks_69 ?_
      refine g_putL (x := (fmax ((G 5) + ((((G 6) - (G 5)) * ((G 7) + a1)) / (G 8))) (G 1))) S hA hF hW hS 0 (by decide) tf_X1_9 rfl rfl rfl dX1_passTicks_72 (fun H locs hW hS => ?_)
      exact r_vret S hr hlk hW hS ⟨rfl, congrArg (fun z => gw Z ws q z) (show (upd (upd G 7 ((G 7) + a1)) 0 (fmax ((G 5) + ((((G 6) - (G 5)) * ((G 7) + a1)) / (G 8))) (G 1))) = (fX1_passTicks G a1) from Eq.symm (by unfold fX1_passTicks; rw [if_pos c1, if_pos c2]))⟩ dX1_passTicks_75
    · skip
      refine lv_aload_n S.1 S.2.1 dX1_passTicks_29 rfl (lv_at hl 0 rfl) ?_
      refine lv_aload_n S.1 S.2.1 dX1_passTicks_30 rfl (lv_at hl 0 rfl) ?_
      refine g_getL (x := (G 6)) S hA hF hW 6 (by decide) tf_X1_45 rfl dX1_passTicks_31 ?_
      refine c_V S hA hW hS (kX1_setLevel l Z ws q (upd G 7 ((G 7) + a1)) hF (G 6)) ok_X1_setLevel tm_X1_38 tn_X1_setLevel tl_X1_setLevel (fo_mem hF 1 (by decide)) rfl rfl ⟨Nat.le_of_ble_eq_true rfl, Nat.le_of_ble_eq_true rfl⟩ rfl hl.1 rfl (Nat.le_of_ble_eq_true rfl) dX1_passTicks_34 ⟨Nat.le_of_ble_eq_true rfl, Nat.le_of_ble_eq_true rfl⟩ (kk_v fun H locs hW hS => ?_)
      exact r_vret S hr hlk hW hS ⟨rfl, congrArg (fun z => gw Z ws q z) (show (fX1_setLevel (upd G 7 ((G 7) + a1)) (G 6)) = (fX1_passTicks G a1) from Eq.symm (by unfold fX1_passTicks; rw [if_pos c1, if_neg c2]))⟩ dX1_passTicks_37
  · skip
    exact r_vret S hr hlk hW hS ⟨rfl, congrArg (fun z => gw Z ws q z) (show G = (fX1_passTicks G a1) from Eq.symm (by unfold fX1_passTicks; rw [if_neg c1]))⟩ dX1_passTicks_7
def fX1_moveBy (G : Nat → Int32) (a1 : Int32) : (Nat → Int32) :=
  (if (G 0) ≤ 0 then G else (fX1_setLevel G (fX1_clamped G ((G 0) + a1))))
set_option maxRecDepth 100000 in
set_option maxHeartbeats 4000000 in
theorem kX1_moveBy (l : Launch) (Z : Zt) (ws : va_W) (q : Nat → Nat) (G : Nat → Int32) (hF : FI ws 3 q) (a1 : Int32)  : Ct l Z yX1_moveBy cX1_moveBy 2 none 2 41 0 0 (gw Z ws q G) [.ref (q 1), .int a1] (fun r w => r = none ∧ w = gw Z ws q (fX1_moveBy G a1)) := by
  refine Ct.start (by decide) (Nat.le_of_ble_eq_true rfl) ?_
  intro p e s m below meth c S hr hlk hnm hA hW hS ls hl
  replace S : CallFix p m c cX1_moveBy 2 s _ TB RX1 := S
  replace hl : lv_has ls 2 [(0, .ref (q 1)), (1, .int a1)] := hl
  refine lv_aload_n S.1 S.2.1 dX1_moveBy_0 rfl (lv_at hl 0 rfl) ?_
  refine g_getL (x := (G 0)) S hA hF hW 0 (by decide) tf_X1_9 rfl dX1_moveBy_1 ?_
  refine lv_if_le (tgt := 21) S.1 S.2.1 dX1_moveBy_4 (by decide) (fun c1 => ?_) (fun c1 => ?_)
  · skip
    exact r_vret S hr hlk hW hS ⟨rfl, congrArg (fun z => gw Z ws q z) (show G = (fX1_moveBy G a1) from Eq.symm (by unfold fX1_moveBy; rw [if_pos c1]))⟩ dX1_moveBy_21
  · skip
    refine lv_aload_n S.1 S.2.1 dX1_moveBy_7 rfl (lv_at hl 0 rfl) ?_
    refine lv_aload_n S.1 S.2.1 dX1_moveBy_8 rfl (lv_at hl 0 rfl) ?_
    refine lv_aload_n S.1 S.2.1 dX1_moveBy_9 rfl (lv_at hl 0 rfl) ?_
    refine g_getL (x := (G 0)) S hA hF hW 0 (by decide) tf_X1_9 rfl dX1_moveBy_10 ?_
    refine lv_iload_n S.1 S.2.1 dX1_moveBy_13 rfl (lv_at hl 1 rfl) ?_
    refine lv_iadd S.1 S.2.1 dX1_moveBy_14 ?_
    refine c_V S hA hW hS (kX1_clamped l Z ws q G hF ((G 0) + a1)) ok_X1_clamped tm_X1_31 tn_X1_clamped tl_X1_clamped (fo_mem hF 1 (by decide)) rfl rfl ⟨Nat.le_of_ble_eq_true rfl, Nat.le_of_ble_eq_true rfl⟩ rfl hl.1 rfl (Nat.le_of_ble_eq_true rfl) dX1_moveBy_15 ⟨Nat.le_of_ble_eq_true rfl, Nat.le_of_ble_eq_true rfl⟩ (kk_i fun H locs hW hS => ?_)
    refine c_V S hA hW hS (kX1_setLevel l Z ws q G hF (fX1_clamped G ((G 0) + a1))) ok_X1_setLevel tm_X1_38 tn_X1_setLevel tl_X1_setLevel (fo_mem hF 1 (by decide)) rfl rfl ⟨Nat.le_of_ble_eq_true rfl, Nat.le_of_ble_eq_true rfl⟩ rfl hl.1 rfl (Nat.le_of_ble_eq_true rfl) dX1_moveBy_18 ⟨Nat.le_of_ble_eq_true rfl, Nat.le_of_ble_eq_true rfl⟩ (kk_v fun H locs hW hS => ?_)
    exact r_vret S hr hlk hW hS ⟨rfl, congrArg (fun z => gw Z ws q z) (show (fX1_setLevel G (fX1_clamped G ((G 0) + a1))) = (fX1_moveBy G a1) from Eq.symm (by unfold fX1_moveBy; rw [if_neg c1]))⟩ dX1_moveBy_21
def fX1_rateStep (G : Nat → Int32) : Int32 :=
  (tabR ((G 4) &&& 15).toNatClampNeg)
set_option maxRecDepth 100000 in
set_option maxHeartbeats 4000000 in
theorem kX1_rateStep (l : Launch) (Z : Zt) (ws : va_W) (q : Nat → Nat) (G : Nat → Int32) (hF : FI ws 3 q)   : Ct l Z yX1_rateStep cX1_rateStep 1 (some .int) 0 0 0 0 (gw Z ws q G) [.ref (q 1)] (fun r w => r = some (.int (fX1_rateStep G)) ∧ w = (gw Z ws q G)) := by
  refine Ct.start (by decide) (Nat.le_of_ble_eq_true rfl) ?_
  intro p e s m below meth c S hr hlk hnm hA hW hS ls hl
  replace S : CallFix p m c cX1_rateStep 1 s _ TB RX1 := S
  replace hl : lv_has ls 1 [(0, .ref (q 1))] := hl
  refine r_statR S hA hS tf_X1_61 dX1_rateStep_0 ?_
  refine lv_aload_n S.1 S.2.1 dX1_rateStep_3 rfl (lv_at hl 0 rfl) ?_
  refine g_getL (x := (G 4)) S hA hF hW 4 (by decide) tf_X1_22 rfl dX1_rateStep_4 ?_
  refine lv_bipush (v := 15) S.1 S.2.1 dX1_rateStep_7 (by decide) ?_
  refine lv_iand S.1 S.2.1 dX1_rateStep_9 ?_
  refine r_taldR S hA hS (and15 _) dX1_rateStep_10 ?_
  exact r_iret S hr hlk hW hS ⟨congrArg (fun z => some (Value.int z)) (show (tabR ((G 4) &&& 15).toNatClampNeg) = (fX1_rateStep G) from Eq.symm rfl), rfl⟩ dX1_rateStep_11
def fX1_stepDownOrOff_j1 (G : Nat → Int32) (x1 : Int32) : (Nat → Int32) :=
  (fX1_setLevel G x1)
def fX1_stepDownOrOff (G : Nat → Int32) : (Nat → Int32) :=
  (fX1_stepDownOrOff_j1 G (if (G 1) < (G 0) then (fX1_clamped G ((G 0) - 1)) else 0))
set_option maxRecDepth 100000 in
set_option maxHeartbeats 4000000 in
theorem kX1_stepDownOrOff (l : Launch) (Z : Zt) (ws : va_W) (q : Nat → Nat) (G : Nat → Int32) (hF : FI ws 3 q)   : Ct l Z yX1_stepDownOrOff cX1_stepDownOrOff 1 none 2 41 0 0 (gw Z ws q G) [.ref (q 1)] (fun r w => r = none ∧ w = gw Z ws q (fX1_stepDownOrOff G)) := by
  refine Ct.start (by decide) (Nat.le_of_ble_eq_true rfl) ?_
  intro p e s m below meth c S hr hlk hnm hA hW hS ls hl
  replace S : CallFix p m c cX1_stepDownOrOff 1 s _ TB RX1 := S
  replace hl : lv_has ls 1 [(0, .ref (q 1))] := hl
  refine lv_aload_n S.1 S.2.1 dX1_stepDownOrOff_0 rfl (lv_at hl 0 rfl) ?_
  refine lv_aload_n S.1 S.2.1 dX1_stepDownOrOff_1 rfl (lv_at hl 0 rfl) ?_
  refine g_getL (x := (G 0)) S hA hF hW 0 (by decide) tf_X1_9 rfl dX1_stepDownOrOff_2 ?_
  refine lv_aload_n S.1 S.2.1 dX1_stepDownOrOff_5 rfl (lv_at hl 0 rfl) ?_
  refine g_getL (x := (G 1)) S hA hF hW 1 (by decide) tf_X1_13 rfl dX1_stepDownOrOff_6 ?_
  refine jn (Z := Z) (tree := (if (G 1) < (G 0) then (fX1_clamped G ((G 0) - 1)) else 0)) 26 [.ref (q 1)] (gw Z ws q G) (fun x1 H locs e1 hW hS => ?_) (fun K1 => ?_)
  · skip
    refine c_V S hA hW hS (kX1_setLevel l Z ws q G hF x1) ok_X1_setLevel tm_X1_38 tn_X1_setLevel tl_X1_setLevel (fo_mem hF 1 (by decide)) rfl rfl ⟨Nat.le_of_ble_eq_true rfl, Nat.le_of_ble_eq_true rfl⟩ rfl hl.1 rfl (Nat.le_of_ble_eq_true rfl) dX1_stepDownOrOff_26 ⟨Nat.le_of_ble_eq_true rfl, Nat.le_of_ble_eq_true rfl⟩ (kk_v fun H locs hW hS => ?_)
    exact r_vret S hr hlk hW hS ⟨rfl, congrArg (fun z => gw Z ws q z) (show (fX1_setLevel G x1) = (fX1_stepDownOrOff G) from Eq.symm (by first | rfl | (unfold fX1_stepDownOrOff; rw [← e1]; unfold fX1_stepDownOrOff_j1; done) | (unfold fX1_stepDownOrOff; rw [← e1]; unfold fX1_stepDownOrOff_j1; rfl)))⟩ dX1_stepDownOrOff_29
  · skip
    refine lv_icmp_gt (tgt := 16) S.1 S.2.1 dX1_stepDownOrOff_9 (by decide) (fun c2 => ?_) (fun c2 => ?_)
    · skip
      refine lv_aload_n S.1 S.2.1 dX1_stepDownOrOff_16 rfl (lv_at hl 0 rfl) ?_
      refine lv_aload_n S.1 S.2.1 dX1_stepDownOrOff_17 rfl (lv_at hl 0 rfl) ?_
      refine g_getL (x := (G 0)) S hA hF hW 0 (by decide) tf_X1_9 rfl dX1_stepDownOrOff_18 ?_
      refine lv_iconst (v := 1) S.1 S.2.1 dX1_stepDownOrOff_21 (by decide) ?_
      refine lv_isub S.1 S.2.1 dX1_stepDownOrOff_22 ?_
      refine c_V S hA hW hS (kX1_clamped l Z ws q G hF ((G 0) - 1)) ok_X1_clamped tm_X1_31 tn_X1_clamped tl_X1_clamped (fo_mem hF 1 (by decide)) rfl rfl ⟨Nat.le_of_ble_eq_true rfl, Nat.le_of_ble_eq_true rfl⟩ rfl hl.1 rfl (Nat.le_of_ble_eq_true rfl) dX1_stepDownOrOff_23 ⟨Nat.le_of_ble_eq_true rfl, Nat.le_of_ble_eq_true rfl⟩ (kk_i fun H locs hW hS => ?_)
      exact K1 _ _ _ (by rw [if_pos c2]) hW hS
    · skip
      refine lv_iconst (v := 0) S.1 S.2.1 dX1_stepDownOrOff_12 (by decide) ?_
      refine lv_goto (tgt := 26) S.1 S.2.1 dX1_stepDownOrOff_13 (by decide) ?_
      exact K1 _ _ _ (by rw [if_neg c2]) hW hS
def fX1_onOrStepUp_j1 (G : Nat → Int32) (x1 : Int32) : (Nat → Int32) :=
  (fX1_setLevel G x1)
def fX1_onOrStepUp (G : Nat → Int32) : (Nat → Int32) :=
  (fX1_onOrStepUp_j1 G (if (G 0) = 0 then (G 1) else (fX1_clamped G ((G 0) + 1))))
set_option maxRecDepth 100000 in
set_option maxHeartbeats 4000000 in
theorem kX1_onOrStepUp (l : Launch) (Z : Zt) (ws : va_W) (q : Nat → Nat) (G : Nat → Int32) (hF : FI ws 3 q)   : Ct l Z yX1_onOrStepUp cX1_onOrStepUp 1 none 2 41 0 0 (gw Z ws q G) [.ref (q 1)] (fun r w => r = none ∧ w = gw Z ws q (fX1_onOrStepUp G)) := by
  refine Ct.start (by decide) (Nat.le_of_ble_eq_true rfl) ?_
  intro p e s m below meth c S hr hlk hnm hA hW hS ls hl
  replace S : CallFix p m c cX1_onOrStepUp 1 s _ TB RX1 := S
  replace hl : lv_has ls 1 [(0, .ref (q 1))] := hl
  refine lv_aload_n S.1 S.2.1 dX1_onOrStepUp_0 rfl (lv_at hl 0 rfl) ?_
  refine lv_aload_n S.1 S.2.1 dX1_onOrStepUp_1 rfl (lv_at hl 0 rfl) ?_
  refine g_getL (x := (G 0)) S hA hF hW 0 (by decide) tf_X1_9 rfl dX1_onOrStepUp_2 ?_
  refine jn (Z := Z) (tree := (if (G 0) = 0 then (G 1) else (fX1_clamped G ((G 0) + 1)))) 25 [.ref (q 1)] (gw Z ws q G) (fun x1 H locs e1 hW hS => ?_) (fun K1 => ?_)
  · skip
    refine c_V S hA hW hS (kX1_setLevel l Z ws q G hF x1) ok_X1_setLevel tm_X1_38 tn_X1_setLevel tl_X1_setLevel (fo_mem hF 1 (by decide)) rfl rfl ⟨Nat.le_of_ble_eq_true rfl, Nat.le_of_ble_eq_true rfl⟩ rfl hl.1 rfl (Nat.le_of_ble_eq_true rfl) dX1_onOrStepUp_25 ⟨Nat.le_of_ble_eq_true rfl, Nat.le_of_ble_eq_true rfl⟩ (kk_v fun H locs hW hS => ?_)
    exact r_vret S hr hlk hW hS ⟨rfl, congrArg (fun z => gw Z ws q z) (show (fX1_setLevel G x1) = (fX1_onOrStepUp G) from Eq.symm (by first | rfl | (unfold fX1_onOrStepUp; rw [← e1]; unfold fX1_onOrStepUp_j1; done) | (unfold fX1_onOrStepUp; rw [← e1]; unfold fX1_onOrStepUp_j1; rfl)))⟩ dX1_onOrStepUp_28
  · skip
    refine lv_if_ne (tgt := 15) S.1 S.2.1 dX1_onOrStepUp_5 (by decide) (fun c2 => ?_) (fun c2 => ?_)
    · skip
      refine lv_aload_n S.1 S.2.1 dX1_onOrStepUp_15 rfl (lv_at hl 0 rfl) ?_
      refine lv_aload_n S.1 S.2.1 dX1_onOrStepUp_16 rfl (lv_at hl 0 rfl) ?_
      refine g_getL (x := (G 0)) S hA hF hW 0 (by decide) tf_X1_9 rfl dX1_onOrStepUp_17 ?_
      refine lv_iconst (v := 1) S.1 S.2.1 dX1_onOrStepUp_20 (by decide) ?_
      refine lv_iadd S.1 S.2.1 dX1_onOrStepUp_21 ?_
      refine c_V S hA hW hS (kX1_clamped l Z ws q G hF ((G 0) + 1)) ok_X1_clamped tm_X1_31 tn_X1_clamped tl_X1_clamped (fo_mem hF 1 (by decide)) rfl rfl ⟨Nat.le_of_ble_eq_true rfl, Nat.le_of_ble_eq_true rfl⟩ rfl hl.1 rfl (Nat.le_of_ble_eq_true rfl) dX1_onOrStepUp_22 ⟨Nat.le_of_ble_eq_true rfl, Nat.le_of_ble_eq_true rfl⟩ (kk_i fun H locs hW hS => ?_)
      exact K1 _ _ _ (by rw [if_neg c2]) hW hS
    · skip
      refine lv_aload_n S.1 S.2.1 dX1_onOrStepUp_8 rfl (lv_at hl 0 rfl) ?_
      refine g_getL (x := (G 1)) S hA hF hW 1 (by decide) tf_X1_13 rfl dX1_onOrStepUp_9 ?_
      refine lv_goto (tgt := 25) S.1 S.2.1 dX1_onOrStepUp_12 (by decide) ?_
      exact K1 _ _ _ (by rw [if_pos c2]) hW hS
def fX1_setMost (G : Nat → Int32) (a1 : Int32) : (Nat → Int32) :=
  (fX1_setLevel (upd G 2 (fmax (G 1) (fmin a1 254))) (fX1_offOrClamped (upd G 2 (fmax (G 1) (fmin a1 254))) (G 0)))
set_option maxRecDepth 100000 in
set_option maxHeartbeats 4000000 in
theorem kX1_setMost (l : Launch) (Z : Zt) (ws : va_W) (q : Nat → Nat) (G : Nat → Int32) (hF : FI ws 3 q) (a1 : Int32)  : Ct l Z yX1_setMost cX1_setMost 2 none 2 42 0 0 (gw Z ws q G) [.ref (q 1), .int a1] (fun r w => r = none ∧ w = gw Z ws q (fX1_setMost G a1)) := by
  refine Ct.start (by decide) (Nat.le_of_ble_eq_true rfl) ?_
  intro p e s m below meth c S hr hlk hnm hA hW hS ls hl
  replace S : CallFix p m c cX1_setMost 2 s _ TB RX1 := S
  replace hl : lv_has ls 2 [(0, .ref (q 1)), (1, .int a1)] := hl
  refine lv_aload_n S.1 S.2.1 dX1_setMost_0 rfl (lv_at hl 0 rfl) ?_
  refine lv_aload_n S.1 S.2.1 dX1_setMost_1 rfl (lv_at hl 0 rfl) ?_
  refine g_getL (x := (G 1)) S hA hF hW 1 (by decide) tf_X1_13 rfl dX1_setMost_2 ?_
  refine lv_iload_n S.1 S.2.1 dX1_setMost_5 rfl (lv_at hl 1 rfl) ?_
  refine lv_sipush (v := 254) S.1 S.2.1 dX1_setMost_6 (by decide) ?_
  refine m_min S tm_X1_64 hl.1 (Nat.le_of_ble_eq_true rfl) (Nat.le_of_ble_eq_true rfl) (Nat.le_of_ble_eq_true rfl) (Nat.le_of_ble_eq_true rfl) dX1_setMost_9 ?_
  refine m_max S tm_X1_55 hl.1 (Nat.le_of_ble_eq_true rfl) (Nat.le_of_ble_eq_true rfl) (Nat.le_of_ble_eq_true rfl) (Nat.le_of_ble_eq_true rfl) dX1_setMost_12 ?_
  refine g_putL (x := (fmax (G 1) (fmin a1 254))) S hA hF hW hS 2 (by decide) tf_X1_16 rfl rfl rfl dX1_setMost_15 (fun H locs hW hS => ?_)
  refine lv_aload_n S.1 S.2.1 dX1_setMost_18 rfl (lv_at hl 0 rfl) ?_
  refine lv_aload_n S.1 S.2.1 dX1_setMost_19 rfl (lv_at hl 0 rfl) ?_
  refine lv_aload_n S.1 S.2.1 dX1_setMost_20 rfl (lv_at hl 0 rfl) ?_
  refine g_getL (x := (G 0)) S hA hF hW 0 (by decide) tf_X1_9 rfl dX1_setMost_21 ?_
  refine c_V S hA hW hS (kX1_offOrClamped l Z ws q (upd G 2 (fmax (G 1) (fmin a1 254))) hF (G 0)) ok_X1_offOrClamped tm_X1_35 tn_X1_offOrClamped tl_X1_offOrClamped (fo_mem hF 1 (by decide)) rfl rfl ⟨Nat.le_of_ble_eq_true rfl, Nat.le_of_ble_eq_true rfl⟩ rfl hl.1 rfl (Nat.le_of_ble_eq_true rfl) dX1_setMost_24 ⟨Nat.le_of_ble_eq_true rfl, Nat.le_of_ble_eq_true rfl⟩ (kk_i fun H locs hW hS => ?_)
  refine c_V S hA hW hS (kX1_setLevel l Z ws q (upd G 2 (fmax (G 1) (fmin a1 254))) hF (fX1_offOrClamped (upd G 2 (fmax (G 1) (fmin a1 254))) (G 0))) ok_X1_setLevel tm_X1_38 tn_X1_setLevel tl_X1_setLevel (fo_mem hF 1 (by decide)) rfl rfl ⟨Nat.le_of_ble_eq_true rfl, Nat.le_of_ble_eq_true rfl⟩ rfl hl.1 rfl (Nat.le_of_ble_eq_true rfl) dX1_setMost_27 ⟨Nat.le_of_ble_eq_true rfl, Nat.le_of_ble_eq_true rfl⟩ (kk_v fun H locs hW hS => ?_)
  exact r_vret S hr hlk hW hS ⟨rfl, congrArg (fun z => gw Z ws q z) (show (fX1_setLevel (upd G 2 (fmax (G 1) (fmin a1 254))) (fX1_offOrClamped (upd G 2 (fmax (G 1) (fmin a1 254))) (G 0))) = (fX1_setMost G a1) from Eq.symm rfl)⟩ dX1_setMost_30
def fX1_setLeast (G : Nat → Int32) (a1 : Int32) : (Nat → Int32) :=
  (fX1_setLevel (upd G 1 (fmax 1 (fmin a1 (G 2)))) (fX1_offOrClamped (upd G 1 (fmax 1 (fmin a1 (G 2)))) (G 0)))
set_option maxRecDepth 100000 in
set_option maxHeartbeats 4000000 in
theorem kX1_setLeast (l : Launch) (Z : Zt) (ws : va_W) (q : Nat → Nat) (G : Nat → Int32) (hF : FI ws 3 q) (a1 : Int32)  : Ct l Z yX1_setLeast cX1_setLeast 2 none 2 42 0 0 (gw Z ws q G) [.ref (q 1), .int a1] (fun r w => r = none ∧ w = gw Z ws q (fX1_setLeast G a1)) := by
  refine Ct.start (by decide) (Nat.le_of_ble_eq_true rfl) ?_
  intro p e s m below meth c S hr hlk hnm hA hW hS ls hl
  replace S : CallFix p m c cX1_setLeast 2 s _ TB RX1 := S
  replace hl : lv_has ls 2 [(0, .ref (q 1)), (1, .int a1)] := hl
  refine lv_aload_n S.1 S.2.1 dX1_setLeast_0 rfl (lv_at hl 0 rfl) ?_
  refine lv_iconst (v := 1) S.1 S.2.1 dX1_setLeast_1 (by decide) ?_
  refine lv_iload_n S.1 S.2.1 dX1_setLeast_2 rfl (lv_at hl 1 rfl) ?_
  refine lv_aload_n S.1 S.2.1 dX1_setLeast_3 rfl (lv_at hl 0 rfl) ?_
  refine g_getL (x := (G 2)) S hA hF hW 2 (by decide) tf_X1_16 rfl dX1_setLeast_4 ?_
  refine m_min S tm_X1_64 hl.1 (Nat.le_of_ble_eq_true rfl) (Nat.le_of_ble_eq_true rfl) (Nat.le_of_ble_eq_true rfl) (Nat.le_of_ble_eq_true rfl) dX1_setLeast_7 ?_
  refine m_max S tm_X1_55 hl.1 (Nat.le_of_ble_eq_true rfl) (Nat.le_of_ble_eq_true rfl) (Nat.le_of_ble_eq_true rfl) (Nat.le_of_ble_eq_true rfl) dX1_setLeast_10 ?_
  refine g_putL (x := (fmax 1 (fmin a1 (G 2)))) S hA hF hW hS 1 (by decide) tf_X1_13 rfl rfl rfl dX1_setLeast_13 (fun H locs hW hS => ?_)
  refine lv_aload_n S.1 S.2.1 dX1_setLeast_16 rfl (lv_at hl 0 rfl) ?_
  refine lv_aload_n S.1 S.2.1 dX1_setLeast_17 rfl (lv_at hl 0 rfl) ?_
  refine lv_aload_n S.1 S.2.1 dX1_setLeast_18 rfl (lv_at hl 0 rfl) ?_
  refine g_getL (x := (G 0)) S hA hF hW 0 (by decide) tf_X1_9 rfl dX1_setLeast_19 ?_
  refine c_V S hA hW hS (kX1_offOrClamped l Z ws q (upd G 1 (fmax 1 (fmin a1 (G 2)))) hF (G 0)) ok_X1_offOrClamped tm_X1_35 tn_X1_offOrClamped tl_X1_offOrClamped (fo_mem hF 1 (by decide)) rfl rfl ⟨Nat.le_of_ble_eq_true rfl, Nat.le_of_ble_eq_true rfl⟩ rfl hl.1 rfl (Nat.le_of_ble_eq_true rfl) dX1_setLeast_22 ⟨Nat.le_of_ble_eq_true rfl, Nat.le_of_ble_eq_true rfl⟩ (kk_i fun H locs hW hS => ?_)
  refine c_V S hA hW hS (kX1_setLevel l Z ws q (upd G 1 (fmax 1 (fmin a1 (G 2)))) hF (fX1_offOrClamped (upd G 1 (fmax 1 (fmin a1 (G 2)))) (G 0))) ok_X1_setLevel tm_X1_38 tn_X1_setLevel tl_X1_setLevel (fo_mem hF 1 (by decide)) rfl rfl ⟨Nat.le_of_ble_eq_true rfl, Nat.le_of_ble_eq_true rfl⟩ rfl hl.1 rfl (Nat.le_of_ble_eq_true rfl) dX1_setLeast_25 ⟨Nat.le_of_ble_eq_true rfl, Nat.le_of_ble_eq_true rfl⟩ (kk_v fun H locs hW hS => ?_)
  exact r_vret S hr hlk hW hS ⟨rfl, congrArg (fun z => gw Z ws q z) (show (fX1_setLevel (upd G 1 (fmax 1 (fmin a1 (G 2)))) (fX1_offOrClamped (upd G 1 (fmax 1 (fmin a1 (G 2)))) (G 0))) = (fX1_setLeast G a1) from Eq.symm rfl)⟩ dX1_setLeast_28
def fX1_setFade (G : Nat → Int32) (a1 : Int32) : (Nat → Int32) :=
  (upd G 3 (fmin a1 15))
set_option maxRecDepth 100000 in
set_option maxHeartbeats 4000000 in
theorem kX1_setFade (l : Launch) (Z : Zt) (ws : va_W) (q : Nat → Nat) (G : Nat → Int32) (hF : FI ws 3 q) (a1 : Int32)  : Ct l Z yX1_setFade cX1_setFade 2 none 1 21 0 0 (gw Z ws q G) [.ref (q 1), .int a1] (fun r w => r = none ∧ w = gw Z ws q (fX1_setFade G a1)) := by
  refine Ct.start (by decide) (Nat.le_of_ble_eq_true rfl) ?_
  intro p e s m below meth c S hr hlk hnm hA hW hS ls hl
  replace S : CallFix p m c cX1_setFade 2 s _ TB RX1 := S
  replace hl : lv_has ls 2 [(0, .ref (q 1)), (1, .int a1)] := hl
  refine lv_aload_n S.1 S.2.1 dX1_setFade_0 rfl (lv_at hl 0 rfl) ?_
  refine lv_iload_n S.1 S.2.1 dX1_setFade_1 rfl (lv_at hl 1 rfl) ?_
  refine lv_bipush (v := 15) S.1 S.2.1 dX1_setFade_2 (by decide) ?_
  refine m_min S tm_X1_64 hl.1 (Nat.le_of_ble_eq_true rfl) (Nat.le_of_ble_eq_true rfl) (Nat.le_of_ble_eq_true rfl) (Nat.le_of_ble_eq_true rfl) dX1_setFade_4 ?_
  refine g_putL (x := (fmin a1 15)) S hA hF hW hS 3 (by decide) tf_X1_19 rfl rfl rfl dX1_setFade_7 (fun H locs hW hS => ?_)
  exact r_vret S hr hlk hW hS ⟨rfl, congrArg (fun z => gw Z ws q z) (show (upd G 3 (fmin a1 15)) = (fX1_setFade G a1) from Eq.symm rfl)⟩ dX1_setFade_10
def fX1_setRate (G : Nat → Int32) (a1 : Int32) : (Nat → Int32) :=
  (upd G 4 (fmax 1 (fmin a1 15)))
set_option maxRecDepth 100000 in
set_option maxHeartbeats 4000000 in
theorem kX1_setRate (l : Launch) (Z : Zt) (ws : va_W) (q : Nat → Nat) (G : Nat → Int32) (hF : FI ws 3 q) (a1 : Int32)  : Ct l Z yX1_setRate cX1_setRate 2 none 1 21 0 0 (gw Z ws q G) [.ref (q 1), .int a1] (fun r w => r = none ∧ w = gw Z ws q (fX1_setRate G a1)) := by
  refine Ct.start (by decide) (Nat.le_of_ble_eq_true rfl) ?_
  intro p e s m below meth c S hr hlk hnm hA hW hS ls hl
  replace S : CallFix p m c cX1_setRate 2 s _ TB RX1 := S
  replace hl : lv_has ls 2 [(0, .ref (q 1)), (1, .int a1)] := hl
  refine lv_aload_n S.1 S.2.1 dX1_setRate_0 rfl (lv_at hl 0 rfl) ?_
  refine lv_iconst (v := 1) S.1 S.2.1 dX1_setRate_1 (by decide) ?_
  refine lv_iload_n S.1 S.2.1 dX1_setRate_2 rfl (lv_at hl 1 rfl) ?_
  refine lv_bipush (v := 15) S.1 S.2.1 dX1_setRate_3 (by decide) ?_
  refine m_min S tm_X1_64 hl.1 (Nat.le_of_ble_eq_true rfl) (Nat.le_of_ble_eq_true rfl) (Nat.le_of_ble_eq_true rfl) (Nat.le_of_ble_eq_true rfl) dX1_setRate_5 ?_
  refine m_max S tm_X1_55 hl.1 (Nat.le_of_ble_eq_true rfl) (Nat.le_of_ble_eq_true rfl) (Nat.le_of_ble_eq_true rfl) (Nat.le_of_ble_eq_true rfl) dX1_setRate_8 ?_
  refine g_putL (x := (fmax 1 (fmin a1 15))) S hA hF hW hS 4 (by decide) tf_X1_22 rfl rfl rfl dX1_setRate_11 (fun H locs hW hS => ?_)
  exact r_vret S hr hlk hW hS ⟨rfl, congrArg (fun z => gw Z ws q z) (show (upd G 4 (fmax 1 (fmin a1 15))) = (fX1_setRate G a1) from Eq.symm rfl)⟩ dX1_setRate_14
