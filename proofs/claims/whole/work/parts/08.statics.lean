def fmax (x y : Int32) : Int32 := if x < y then y else x
def fmin (x y : Int32) : Int32 := if y < x then y else x
section MM
variable {p : Program} {l : Launch} {e : Env} {R : Room} {s : State} {m : MethodId} {args : Array Value} {below : List Frame} {meth : Method} {c : Code} {H : Heap} {locs : List Loc} {cells slots : Nat} {Q : State → Prop}
variable {cc : ByteArray} {nL pc index : Nat} {ls : Array Slot} {rest : List Value} {own : String} {x y : Int32}
theorem m_max (S : CallFix p m c cc nL s args TB own) (hl : Cond.methodLink own index yJ9_max_7cf53 ∈ TB) (hls : ls.size = nL) (h1 : 1 ≤ R.frames) (h2 : (rest.map fun v => v.category).sum + 13 ≤ R.locals) (hc : cells ≤ R.cells) (hs : slots ≤ R.slots) (hdg : decode cc pc = .ok (.invokestatic index, 3))
    (kk : W p l e R s m args below meth c H locs cells slots Q (F0 m (pc + 3) ls (.int (fmax x y) :: rest))) : W p l e R s m args below meth c H locs cells slots Q (F0 m pc ls (.int y :: .int x :: rest)) :=
  va_mmax S.1 S.2.1 (S.2.2.1.trans hls.symm) S.2.2.2.1 (S.2.2.2.2 _ hl) (S.2.2.2.2 _ ts_J9_max_7cf53) (S.2.2.2.2 _ ti_J9) (S.2.2.2.2 _ tc_J9_max_7cf53) h1 h2 hc hs hdg kk
theorem m_min (S : CallFix p m c cc nL s args TB own) (hl : Cond.methodLink own index yJ9_min_7cf53 ∈ TB) (hls : ls.size = nL) (h1 : 1 ≤ R.frames) (h2 : (rest.map fun v => v.category).sum + 13 ≤ R.locals) (hc : cells ≤ R.cells) (hs : slots ≤ R.slots) (hdg : decode cc pc = .ok (.invokestatic index, 3))
    (kk : W p l e R s m args below meth c H locs cells slots Q (F0 m (pc + 3) ls (.int (fmin x y) :: rest))) : W p l e R s m args below meth c H locs cells slots Q (F0 m pc ls (.int y :: .int x :: rest)) :=
  va_mmin S.1 S.2.1 (S.2.2.1.trans hls.symm) S.2.2.2.1 (S.2.2.2.2 _ hl) (S.2.2.2.2 _ ts_J9_min_7cf53) (S.2.2.2.2 _ ti_J9) (S.2.2.2.2 _ tc_J9_min_7cf53) h1 h2 hc hs hdg kk
end MM
theorem jn {p : Program} {l : Launch} {e : Env} {R : Room} {s : State} {m : MethodId} {args : Array Value} {below : List Frame} {meth : Method} {c : Code} {H : Heap} {locs : List Loc} {cells slots : Nat} {Q : State → Prop} {pc : Nat} {ls : Array Slot} {st : List Value} {Z : Zt} {tree : Int32} (J : Nat) (rest : List Value) (w : va_W) (K : ∀ (x : Int32) (H1 : Heap) (locs1 : List Loc), x = tree → Wd Z w H1 → va_S (zA Z) s.heap H1 locs1 → W p l e R s m args below meth c H1 locs1 cells slots Q (F0 m J ls (.int x :: rest)))
    (k : (∀ (x : Int32) (H1 : Heap) (locs1 : List Loc), x = tree → Wd Z w H1 → va_S (zA Z) s.heap H1 locs1 → W p l e R s m args below meth c H1 locs1 cells slots Q (F0 m J ls (.int x :: rest))) → W p l e R s m args below meth c H locs cells slots Q (F0 m pc ls st)) : W p l e R s m args below meth c H locs cells slots Q (F0 m pc ls st) := k K
def fX0_yesIf (a1 : Int32) : Int32 :=
  (if a1 = 0 then (-1) else 255)
set_option maxRecDepth 100000 in
set_option maxHeartbeats 4000000 in
theorem kX0_yesIf (l : Launch) (Z : Zt) (ws : va_W) (a1 : Int32)  : Ct l Z yX0_yesIf cX0_yesIf 1 (some .int) 0 0 0 0 ws [.int a1] (fun r w => r = some (.int (fX0_yesIf a1)) ∧ w = ws) := by
  refine Ct.start (by decide) (Nat.le_of_ble_eq_true rfl) ?_
  intro p e s m below meth c S hr hlk hnm hA hW hS ls hl
  replace S : CallFix p m c cX0_yesIf 1 s _ TB RX0 := S
  replace hl : lv_has ls 1 [(0, .int a1)] := hl
  refine lv_iload_n S.1 S.2.1 dX0_yesIf_0 rfl (lv_at hl 0 rfl) ?_
  refine lv_if_eq (tgt := 10) S.1 S.2.1 dX0_yesIf_1 (by decide) (fun c1 => ?_) (fun c1 => ?_)
  · skip
    refine lv_iconst (v := (-1)) S.1 S.2.1 dX0_yesIf_10 (by decide) ?_
    exact r_iret S hr hlk hW hS ⟨congrArg (fun z => some (Value.int z)) (show (-1) = (fX0_yesIf a1) from Eq.symm (by unfold fX0_yesIf; rw [if_pos c1])), rfl⟩ dX0_yesIf_11
  · skip
    refine lv_sipush (v := 255) S.1 S.2.1 dX0_yesIf_4 (by decide) ?_
    refine lv_goto (tgt := 11) S.1 S.2.1 dX0_yesIf_7 (by decide) ?_
    exact r_iret S hr hlk hW hS ⟨congrArg (fun z => some (Value.int z)) (show 255 = (fX0_yesIf a1) from Eq.symm (by unfold fX0_yesIf; rw [if_neg c1])), rfl⟩ dX0_yesIf_11
def fX2_isByte (a1 : Int32) : Int32 :=
  (if a1 < 0 then 0 else (if 255 < a1 then 0 else 1))
theorem bfX2_isByte (a1 : Int32) : narrow .boolean (.int (fX2_isByte a1)) = .int (fX2_isByte a1) := by
  unfold fX2_isByte
  repeat' split
  all_goals first | rfl | exact bfX0_yesIf ..
set_option maxRecDepth 100000 in
set_option maxHeartbeats 4000000 in
theorem kX2_isByte (l : Launch) (Z : Zt) (ws : va_W) (a1 : Int32)  : Ct l Z yX2_isByte cX2_isByte 1 (some .boolean) 0 0 0 0 ws [.int a1] (fun r w => r = some (.int (fX2_isByte a1)) ∧ w = ws) := by
  refine Ct.start (by decide) (Nat.le_of_ble_eq_true rfl) ?_
  intro p e s m below meth c S hr hlk hnm hA hW hS ls hl
  replace S : CallFix p m c cX2_isByte 1 s _ TB RX2 := S
  replace hl : lv_has ls 1 [(0, .int a1)] := hl
  refine lv_iload_n S.1 S.2.1 dX2_isByte_0 rfl (lv_at hl 0 rfl) ?_
  refine lv_if_lt (tgt := 15) S.1 S.2.1 dX2_isByte_1 (by decide) (fun c1 => ?_) (fun c1 => ?_)
  · skip
    refine lv_iconst (v := 0) S.1 S.2.1 dX2_isByte_15 (by decide) ?_
    exact r_zret S hr hlk hW hS rfl ⟨congrArg (fun z => some (Value.int z)) (show 0 = (fX2_isByte a1) from Eq.symm (by unfold fX2_isByte; rw [if_pos c1])), rfl⟩ dX2_isByte_16
  · skip
    refine lv_iload_n S.1 S.2.1 dX2_isByte_4 rfl (lv_at hl 0 rfl) ?_
    refine lv_sipush (v := 255) S.1 S.2.1 dX2_isByte_5 (by decide) ?_
    refine lv_icmp_gt (tgt := 15) S.1 S.2.1 dX2_isByte_8 (by decide) (fun c2 => ?_) (fun c2 => ?_)
    · skip
      refine lv_iconst (v := 0) S.1 S.2.1 dX2_isByte_15 (by decide) ?_
      exact r_zret S hr hlk hW hS rfl ⟨congrArg (fun z => some (Value.int z)) (show 0 = (fX2_isByte a1) from Eq.symm (by unfold fX2_isByte; rw [if_neg c1, if_pos c2])), rfl⟩ dX2_isByte_16
    · skip
      refine lv_iconst (v := 1) S.1 S.2.1 dX2_isByte_11 (by decide) ?_
      refine lv_goto (tgt := 16) S.1 S.2.1 dX2_isByte_12 (by decide) ?_
      exact r_zret S hr hlk hW hS rfl ⟨congrArg (fun z => some (Value.int z)) (show 1 = (fX2_isByte a1) from Eq.symm (by unfold fX2_isByte; rw [if_neg c1, if_neg c2])), rfl⟩ dX2_isByte_16
def fX2_joined (a1 : Int32) (a2 : Int32) : Int32 :=
  (if a2 = (-1) then a1 else (if a2 = a1 then a1 else (if a1 = (-1) then a2 else 256)))
set_option maxRecDepth 100000 in
set_option maxHeartbeats 4000000 in
theorem kX2_joined (l : Launch) (Z : Zt) (ws : va_W) (a1 : Int32) (a2 : Int32)  : Ct l Z yX2_joined cX2_joined 2 (some .int) 0 0 0 0 ws [.int a1, .int a2] (fun r w => r = some (.int (fX2_joined a1 a2)) ∧ w = ws) := by
  refine Ct.start (by decide) (Nat.le_of_ble_eq_true rfl) ?_
  intro p e s m below meth c S hr hlk hnm hA hW hS ls hl
  replace S : CallFix p m c cX2_joined 2 s _ TB RX2 := S
  replace hl : lv_has ls 2 [(0, .int a1), (1, .int a2)] := hl
  refine lv_iload_n S.1 S.2.1 dX2_joined_0 rfl (lv_at hl 1 rfl) ?_
  refine lv_iconst (v := (-1)) S.1 S.2.1 dX2_joined_1 (by decide) ?_
  refine lv_icmp_eq (tgt := 10) S.1 S.2.1 dX2_joined_2 (by decide) (fun c1 => ?_) (fun c1 => ?_)
  · skip
    refine lv_iload_n S.1 S.2.1 dX2_joined_10 rfl (lv_at hl 0 rfl) ?_
    exact r_iret S hr hlk hW hS ⟨congrArg (fun z => some (Value.int z)) (show a1 = (fX2_joined a1 a2) from Eq.symm (by unfold fX2_joined; rw [if_pos c1])), rfl⟩ dX2_joined_11
  · skip
    refine lv_iload_n S.1 S.2.1 dX2_joined_5 rfl (lv_at hl 1 rfl) ?_
    refine lv_iload_n S.1 S.2.1 dX2_joined_6 rfl (lv_at hl 0 rfl) ?_
    refine lv_icmp_ne (tgt := 12) S.1 S.2.1 dX2_joined_7 (by decide) (fun c2 => ?_) (fun c2 => ?_)
    · skip
      refine lv_iload_n S.1 S.2.1 dX2_joined_12 rfl (lv_at hl 0 rfl) ?_
      refine lv_iconst (v := (-1)) S.1 S.2.1 dX2_joined_13 (by decide) ?_
      refine lv_icmp_ne (tgt := 21) S.1 S.2.1 dX2_joined_14 (by decide) (fun c3 => ?_) (fun c3 => ?_)
      · skip
        refine lv_sipush (v := 256) S.1 S.2.1 dX2_joined_21 (by decide) ?_
        exact r_iret S hr hlk hW hS ⟨congrArg (fun z => some (Value.int z)) (show 256 = (fX2_joined a1 a2) from Eq.symm (by unfold fX2_joined; rw [if_neg c1, if_neg c2, if_neg c3])), rfl⟩ dX2_joined_24
      · skip
        refine lv_iload_n S.1 S.2.1 dX2_joined_17 rfl (lv_at hl 1 rfl) ?_
        refine lv_goto (tgt := 24) S.1 S.2.1 dX2_joined_18 (by decide) ?_
        exact r_iret S hr hlk hW hS ⟨congrArg (fun z => some (Value.int z)) (show a2 = (fX2_joined a1 a2) from Eq.symm (by unfold fX2_joined; rw [if_neg c1, if_neg c2, if_pos c3])), rfl⟩ dX2_joined_24
    · skip
      refine lv_iload_n S.1 S.2.1 dX2_joined_10 rfl (lv_at hl 0 rfl) ?_
      exact r_iret S hr hlk hW hS ⟨congrArg (fun z => some (Value.int z)) (show a1 = (fX2_joined a1 a2) from Eq.symm (by unfold fX2_joined; rw [if_neg c1, if_pos c2])), rfl⟩ dX2_joined_11
def fX3_isIn (a1 : Int32) (a2 : Int32) (a3 : Int32) : Int32 :=
  (if a1 < a2 then 0 else (if a3 < a1 then 0 else 1))
theorem bfX3_isIn (a1 : Int32) (a2 : Int32) (a3 : Int32) : narrow .boolean (.int (fX3_isIn a1 a2 a3)) = .int (fX3_isIn a1 a2 a3) := by
  unfold fX3_isIn
  repeat' split
  all_goals first | rfl | exact bfX0_yesIf .. | exact bfX2_isByte .. | exact bfX2_joined ..
set_option maxRecDepth 100000 in
set_option maxHeartbeats 4000000 in
theorem kX3_isIn (l : Launch) (Z : Zt) (ws : va_W) (a1 : Int32) (a2 : Int32) (a3 : Int32)  : Ct l Z yX3_isIn cX3_isIn 3 (some .boolean) 0 0 0 0 ws [.int a1, .int a2, .int a3] (fun r w => r = some (.int (fX3_isIn a1 a2 a3)) ∧ w = ws) := by
  refine Ct.start (by decide) (Nat.le_of_ble_eq_true rfl) ?_
  intro p e s m below meth c S hr hlk hnm hA hW hS ls hl
  replace S : CallFix p m c cX3_isIn 3 s _ TB RX3 := S
  replace hl : lv_has ls 3 [(0, .int a1), (1, .int a2), (2, .int a3)] := hl
  refine lv_iload_n S.1 S.2.1 dX3_isIn_0 rfl (lv_at hl 0 rfl) ?_
  refine lv_iload_n S.1 S.2.1 dX3_isIn_1 rfl (lv_at hl 1 rfl) ?_
  refine lv_icmp_lt (tgt := 14) S.1 S.2.1 dX3_isIn_2 (by decide) (fun c1 => ?_) (fun c1 => ?_)
  · skip
    refine lv_iconst (v := 0) S.1 S.2.1 dX3_isIn_14 (by decide) ?_
    exact r_zret S hr hlk hW hS rfl ⟨congrArg (fun z => some (Value.int z)) (show 0 = (fX3_isIn a1 a2 a3) from Eq.symm (by unfold fX3_isIn; rw [if_pos c1])), rfl⟩ dX3_isIn_15
  · skip
    refine lv_iload_n S.1 S.2.1 dX3_isIn_5 rfl (lv_at hl 0 rfl) ?_
    refine lv_iload_n S.1 S.2.1 dX3_isIn_6 rfl (lv_at hl 2 rfl) ?_
    refine lv_icmp_gt (tgt := 14) S.1 S.2.1 dX3_isIn_7 (by decide) (fun c2 => ?_) (fun c2 => ?_)
    · skip
      refine lv_iconst (v := 0) S.1 S.2.1 dX3_isIn_14 (by decide) ?_
      exact r_zret S hr hlk hW hS rfl ⟨congrArg (fun z => some (Value.int z)) (show 0 = (fX3_isIn a1 a2 a3) from Eq.symm (by unfold fX3_isIn; rw [if_neg c1, if_pos c2])), rfl⟩ dX3_isIn_15
    · skip
      refine lv_iconst (v := 1) S.1 S.2.1 dX3_isIn_10 (by decide) ?_
      refine lv_goto (tgt := 15) S.1 S.2.1 dX3_isIn_11 (by decide) ?_
      exact r_zret S hr hlk hW hS rfl ⟨congrArg (fun z => some (Value.int z)) (show 1 = (fX3_isIn a1 a2 a3) from Eq.symm (by unfold fX3_isIn; rw [if_neg c1, if_neg c2])), rfl⟩ dX3_isIn_15
