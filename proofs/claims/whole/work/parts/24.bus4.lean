noncomputable def raw_X2_sendSearch (n : Nat) (T : Nat → Nat → Int32) (a1 : Int32) : (Nat → Nat → Int32) :=
  (fX2_sendSpecial n (fX2_sendSpecial n (fX2_sendSpecial n T 177 ((a1 >>> ((16 : Int32) &&& 31)) &&& 255)).2 179 ((a1 >>> ((8 : Int32) &&& 31)) &&& 255)).2 181 (a1 &&& 255)).2
noncomputable def fX2_sendSearch : Nat → (Nat → Nat → Int32) → Int32 → (Nat → Nat → Int32) := Classical.choose (p := fun f => f = raw_X2_sendSearch) ⟨raw_X2_sendSearch, rfl⟩
theorem fX2_sendSearch_eq : fX2_sendSearch = raw_X2_sendSearch := Classical.choose_spec (p := fun f => f = raw_X2_sendSearch) ⟨raw_X2_sendSearch, rfl⟩
set_option maxRecDepth 100000 in
set_option maxHeartbeats 4000000 in
theorem kX2_sendSearch (l : Launch) (Z : Zt) (ws : va_W) (n cap : Nat) (q : Nat → Nat) (T : Nat → Nat → Int32) (hB : BK ws n cap q) (a1 : Int32)  : Ct l Z yX2_sendSearch cX2_sendSearch 2 none 4 91 0 0 (bw Z ws n cap q T) [.ref (q 0), .int a1] (fun r w => r = none ∧ w = bw Z ws n cap q (fX2_sendSearch n T a1)) := by
  refine Ct.start (by decide) (Nat.le_of_ble_eq_true rfl) ?_
  intro p e s m below meth c S hr hlk hnm hA hW hS ls hl
  replace S : CallFix p m c cX2_sendSearch 2 s _ TB RX2 := S
  replace hl : lv_has ls 2 [(0, .ref (q 0)), (1, .int a1)] := hl
  refine lv_aload_n S.1 S.2.1 dX2_sendSearch_0 rfl (lv_at hl 0 rfl) ?_
  refine lv_sipush (v := 177) S.1 S.2.1 dX2_sendSearch_1 (by decide) ?_
  refine lv_iload_n S.1 S.2.1 dX2_sendSearch_4 rfl (lv_at hl 1 rfl) ?_
  refine lv_bipush (v := 16) S.1 S.2.1 dX2_sendSearch_5 (by decide) ?_
  refine lv_ishr S.1 S.2.1 dX2_sendSearch_7 ?_
  refine lv_sipush (v := 255) S.1 S.2.1 dX2_sendSearch_8 (by decide) ?_
  refine lv_iand S.1 S.2.1 dX2_sendSearch_11 ?_
  refine c_V S hA hW hS (kX2_sendSpecial l Z ws n cap q T hB 177 ((a1 >>> ((16 : Int32) &&& 31)) &&& 255)) ok_X2_sendSpecial tm_X2_43 tn_X2_sendSpecial tl_X2_sendSpecial (fo_mem hB.1 0 (bN_0 n)) rfl rfl ⟨Nat.le_of_ble_eq_true rfl, Nat.le_of_ble_eq_true rfl⟩ rfl hl.1 rfl (Nat.le_of_ble_eq_true rfl) dX2_sendSearch_12 ⟨Nat.le_of_ble_eq_true rfl, Nat.le_of_ble_eq_true rfl⟩ (kk_i fun H locs hW hS => ?_)
  refine lv_pop S.1 S.2.1 dX2_sendSearch_15 rfl ?_
  refine lv_aload_n S.1 S.2.1 dX2_sendSearch_16 rfl (lv_at hl 0 rfl) ?_
  refine lv_sipush (v := 179) S.1 S.2.1 dX2_sendSearch_17 (by decide) ?_
  refine lv_iload_n S.1 S.2.1 dX2_sendSearch_20 rfl (lv_at hl 1 rfl) ?_
  refine lv_bipush (v := 8) S.1 S.2.1 dX2_sendSearch_21 (by decide) ?_
  refine lv_ishr S.1 S.2.1 dX2_sendSearch_23 ?_
  refine lv_sipush (v := 255) S.1 S.2.1 dX2_sendSearch_24 (by decide) ?_
  refine lv_iand S.1 S.2.1 dX2_sendSearch_27 ?_
  refine c_V S hA hW hS (kX2_sendSpecial l Z ws n cap q (fX2_sendSpecial n T 177 ((a1 >>> ((16 : Int32) &&& 31)) &&& 255)).2 hB 179 ((a1 >>> ((8 : Int32) &&& 31)) &&& 255)) ok_X2_sendSpecial tm_X2_43 tn_X2_sendSpecial tl_X2_sendSpecial (fo_mem hB.1 0 (bN_0 n)) rfl rfl ⟨Nat.le_of_ble_eq_true rfl, Nat.le_of_ble_eq_true rfl⟩ rfl hl.1 rfl (Nat.le_of_ble_eq_true rfl) dX2_sendSearch_28 ⟨Nat.le_of_ble_eq_true rfl, Nat.le_of_ble_eq_true rfl⟩ (kk_i fun H locs hW hS => ?_)
  refine lv_pop S.1 S.2.1 dX2_sendSearch_31 rfl ?_
  refine lv_aload_n S.1 S.2.1 dX2_sendSearch_32 rfl (lv_at hl 0 rfl) ?_
  refine lv_sipush (v := 181) S.1 S.2.1 dX2_sendSearch_33 (by decide) ?_
  refine lv_iload_n S.1 S.2.1 dX2_sendSearch_36 rfl (lv_at hl 1 rfl) ?_
  refine lv_sipush (v := 255) S.1 S.2.1 dX2_sendSearch_37 (by decide) ?_
  refine lv_iand S.1 S.2.1 dX2_sendSearch_40 ?_
  refine c_V S hA hW hS (kX2_sendSpecial l Z ws n cap q (fX2_sendSpecial n (fX2_sendSpecial n T 177 ((a1 >>> ((16 : Int32) &&& 31)) &&& 255)).2 179 ((a1 >>> ((8 : Int32) &&& 31)) &&& 255)).2 hB 181 (a1 &&& 255)) ok_X2_sendSpecial tm_X2_43 tn_X2_sendSpecial tl_X2_sendSpecial (fo_mem hB.1 0 (bN_0 n)) rfl rfl ⟨Nat.le_of_ble_eq_true rfl, Nat.le_of_ble_eq_true rfl⟩ rfl hl.1 rfl (Nat.le_of_ble_eq_true rfl) dX2_sendSearch_41 ⟨Nat.le_of_ble_eq_true rfl, Nat.le_of_ble_eq_true rfl⟩ (kk_i fun H locs hW hS => ?_)
  refine lv_pop S.1 S.2.1 dX2_sendSearch_44 rfl ?_
  exact r_vret S hr hlk hW hS ⟨rfl, congrArg (fun z => bw Z ws n cap q z) (show (fX2_sendSpecial n (fX2_sendSpecial n (fX2_sendSpecial n T 177 ((a1 >>> ((16 : Int32) &&& 31)) &&& 255)).2 179 ((a1 >>> ((8 : Int32) &&& 31)) &&& 255)).2 181 (a1 &&& 255)).2 = (fX2_sendSearch n T a1) from Eq.symm (by rw [fX2_sendSearch_eq]; rfl))⟩ dX2_sendSearch_45
noncomputable def raw_X2_isAnyWithinSearch (n : Nat) (T : Nat → Nat → Int32) : Int32 × (Nat → Nat → Int32) :=
  (if ((fX2_sendSpecial n (up2 T 100 2 ((T 100 2) + 1)) 169 0).1) = (-1) then (0, (fX2_sendSpecial n (up2 T 100 2 ((T 100 2) + 1)) 169 0).2) else (1, (fX2_sendSpecial n (up2 T 100 2 ((T 100 2) + 1)) 169 0).2))
noncomputable def fX2_isAnyWithinSearch : Nat → (Nat → Nat → Int32) → Int32 × (Nat → Nat → Int32) := Classical.choose (p := fun f => f = raw_X2_isAnyWithinSearch) ⟨raw_X2_isAnyWithinSearch, rfl⟩
theorem fX2_isAnyWithinSearch_eq : fX2_isAnyWithinSearch = raw_X2_isAnyWithinSearch := Classical.choose_spec (p := fun f => f = raw_X2_isAnyWithinSearch) ⟨raw_X2_isAnyWithinSearch, rfl⟩
set_option maxRecDepth 100000 in
set_option maxHeartbeats 4000000 in
theorem kX2_isAnyWithinSearch (l : Launch) (Z : Zt) (ws : va_W) (n cap : Nat) (q : Nat → Nat) (T : Nat → Nat → Int32) (hB : BK ws n cap q)   : Ct l Z yX2_isAnyWithinSearch cX2_isAnyWithinSearch 1 (some .boolean) 4 91 0 0 (bw Z ws n cap q T) [.ref (q 0)] (fun r w => r = some (.int (fX2_isAnyWithinSearch n T).1) ∧ w = bw Z ws n cap q (fX2_isAnyWithinSearch n T).2) := by
  refine Ct.start (by decide) (Nat.le_of_ble_eq_true rfl) ?_
  intro p e s m below meth c S hr hlk hnm hA hW hS ls hl
  replace S : CallFix p m c cX2_isAnyWithinSearch 1 s _ TB RX2 := S
  replace hl : lv_has ls 1 [(0, .ref (q 0))] := hl
  refine lv_aload_n S.1 S.2.1 dX2_isAnyWithinSearch_0 rfl (lv_at hl 0 rfl) ?_
  refine lv_dup S.1 S.2.1 dX2_isAnyWithinSearch_1 rfl ?_
  refine b_get (x := (T 100 2)) S hA hB.1 hW 2 (by decide) (by decide) tf_X2_77 rfl dX2_isAnyWithinSearch_2 ?_
  refine lv_iconst (v := 1) S.1 S.2.1 dX2_isAnyWithinSearch_5 (by decide) ?_
  refine lv_iadd S.1 S.2.1 dX2_isAnyWithinSearch_6 ?_
  refine b_put (x := ((T 100 2) + 1)) S hA hB.1 hB.2.1 hW hS 2 (by decide) (by decide) tf_X2_77 rfl rfl rfl dX2_isAnyWithinSearch_7 (fun H locs hW hS => ?_)
  refine lv_aload_n S.1 S.2.1 dX2_isAnyWithinSearch_10 rfl (lv_at hl 0 rfl) ?_
  refine lv_sipush (v := 169) S.1 S.2.1 dX2_isAnyWithinSearch_11 (by decide) ?_
  refine lv_iconst (v := 0) S.1 S.2.1 dX2_isAnyWithinSearch_14 (by decide) ?_
  refine c_V S hA hW hS (kX2_sendSpecial l Z ws n cap q (up2 T 100 2 ((T 100 2) + 1)) hB 169 0) ok_X2_sendSpecial tm_X2_43 tn_X2_sendSpecial tl_X2_sendSpecial (fo_mem hB.1 0 (bN_0 n)) rfl rfl ⟨Nat.le_of_ble_eq_true rfl, Nat.le_of_ble_eq_true rfl⟩ rfl hl.1 rfl (Nat.le_of_ble_eq_true rfl) dX2_isAnyWithinSearch_15 ⟨Nat.le_of_ble_eq_true rfl, Nat.le_of_ble_eq_true rfl⟩ (kk_i fun H locs hW hS => ?_)
  refine lv_iconst (v := (-1)) S.1 S.2.1 dX2_isAnyWithinSearch_18 (by decide) ?_
  refine lv_icmp_eq (tgt := 26) S.1 S.2.1 dX2_isAnyWithinSearch_19 (by decide) (fun c1 => ?_) (fun c1 => ?_)
  · skip
    refine lv_iconst (v := 0) S.1 S.2.1 dX2_isAnyWithinSearch_26 (by decide) ?_
    exact r_zret S hr hlk hW hS rfl (show some (Value.int 0) = some (Value.int (fX2_isAnyWithinSearch n T).1) ∧ (bw Z ws n cap q (fX2_sendSpecial n (up2 T 100 2 ((T 100 2) + 1)) 169 0).2) = bw Z ws n cap q (fX2_isAnyWithinSearch n T).2 from (by rw [show (fX2_isAnyWithinSearch n T) = (0, (fX2_sendSpecial n (up2 T 100 2 ((T 100 2) + 1)) 169 0).2) from (by rw [fX2_isAnyWithinSearch_eq]; unfold raw_X2_isAnyWithinSearch; rw [if_pos c1])]; exact ⟨rfl, rfl⟩)) dX2_isAnyWithinSearch_27
  · skip
    refine lv_iconst (v := 1) S.1 S.2.1 dX2_isAnyWithinSearch_22 (by decide) ?_
    refine lv_goto (tgt := 27) S.1 S.2.1 dX2_isAnyWithinSearch_23 (by decide) ?_
    exact r_zret S hr hlk hW hS rfl (show some (Value.int 1) = some (Value.int (fX2_isAnyWithinSearch n T).1) ∧ (bw Z ws n cap q (fX2_sendSpecial n (up2 T 100 2 ((T 100 2) + 1)) 169 0).2) = bw Z ws n cap q (fX2_isAnyWithinSearch n T).2 from (by rw [show (fX2_isAnyWithinSearch n T) = (1, (fX2_sendSpecial n (up2 T 100 2 ((T 100 2) + 1)) 169 0).2) from (by rw [fX2_isAnyWithinSearch_eq]; unfold raw_X2_isAnyWithinSearch; rw [if_neg c1])]; exact ⟨rfl, rfl⟩)) dX2_isAnyWithinSearch_27
theorem baw (n : Nat) (T : Nat → Nat → Int32) : narrow .boolean (.int (fX2_isAnyWithinSearch n T).1) = .int (fX2_isAnyWithinSearch n T).1 := by
  rw [fX2_isAnyWithinSearch_eq]
  unfold raw_X2_isAnyWithinSearch
  split
  · show narrow .boolean (.int 0) = .int 0
    rfl
  · show narrow .boolean (.int 1) = .int 1
    rfl
theorem m1_sub (x : Int32) : x + Int32.ofInt (-1) = x - 1 := by
  rw [Int32.sub_eq_add_neg]
  rfl
theorem n24 : (nI 24 - 1 : Int32) = 23 := by decide
noncomputable def raw_X2_isAnyLeft (n : Nat) (T : Nat → Nat → Int32) : Int32 × (Nat → Nat → Int32) :=
  (((fX2_isAnyWithinSearch n (fX2_sendSearch n T 16777215)).1), (fX2_isAnyWithinSearch n (fX2_sendSearch n T 16777215)).2)
noncomputable def fX2_isAnyLeft : Nat → (Nat → Nat → Int32) → Int32 × (Nat → Nat → Int32) := Classical.choose (p := fun f => f = raw_X2_isAnyLeft) ⟨raw_X2_isAnyLeft, rfl⟩
theorem fX2_isAnyLeft_eq : fX2_isAnyLeft = raw_X2_isAnyLeft := Classical.choose_spec (p := fun f => f = raw_X2_isAnyLeft) ⟨raw_X2_isAnyLeft, rfl⟩
set_option maxRecDepth 100000 in
set_option maxHeartbeats 4000000 in
theorem kX2_isAnyLeft (l : Launch) (Z : Zt) (ws : va_W) (n cap : Nat) (q : Nat → Nat) (T : Nat → Nat → Int32) (hB : BK ws n cap q)   : Ct l Z yX2_isAnyLeft cX2_isAnyLeft 1 (some .boolean) 5 112 0 0 (bw Z ws n cap q T) [.ref (q 0)] (fun r w => r = some (.int (fX2_isAnyLeft n T).1) ∧ w = bw Z ws n cap q (fX2_isAnyLeft n T).2) := by
  refine Ct.start (by decide) (Nat.le_of_ble_eq_true rfl) ?_
  intro p e s m below meth c S hr hlk hnm hA hW hS ls hl
  replace S : CallFix p m c cX2_isAnyLeft 1 s _ TB RX2 := S
  replace hl : lv_has ls 1 [(0, .ref (q 0))] := hl
  refine lv_aload_n S.1 S.2.1 dX2_isAnyLeft_0 rfl (lv_at hl 0 rfl) ?_
  refine r_ldc S tk_X2_31 dX2_isAnyLeft_1 ?_
  refine c_V S hA hW hS (kX2_sendSearch l Z ws n cap q T hB 16777215) ok_X2_sendSearch tm_X2_120 tn_X2_sendSearch tl_X2_sendSearch (fo_mem hB.1 0 (bN_0 n)) rfl rfl ⟨Nat.le_of_ble_eq_true rfl, Nat.le_of_ble_eq_true rfl⟩ rfl hl.1 rfl (Nat.le_of_ble_eq_true rfl) dX2_isAnyLeft_3 ⟨Nat.le_of_ble_eq_true rfl, Nat.le_of_ble_eq_true rfl⟩ (kk_v fun H locs hW hS => ?_)
  refine lv_aload_n S.1 S.2.1 dX2_isAnyLeft_6 rfl (lv_at hl 0 rfl) ?_
  refine c_V S hA hW hS (kX2_isAnyWithinSearch l Z ws n cap q (fX2_sendSearch n T 16777215) hB ) ok_X2_isAnyWithinSearch tm_X2_123 tn_X2_isAnyWithinSearch tl_X2_isAnyWithinSearch (fo_mem hB.1 0 (bN_0 n)) rfl rfl ⟨Nat.le_of_ble_eq_true rfl, Nat.le_of_ble_eq_true rfl⟩ rfl hl.1 rfl (Nat.le_of_ble_eq_true rfl) dX2_isAnyLeft_7 ⟨Nat.le_of_ble_eq_true rfl, Nat.le_of_ble_eq_true rfl⟩ (kk_i fun H locs hW hS => ?_)
  exact r_zret S hr hlk hW hS (baw ..) (show some (Value.int ((fX2_isAnyWithinSearch n (fX2_sendSearch n T 16777215)).1)) = some (Value.int (fX2_isAnyLeft n T).1) ∧ (bw Z ws n cap q (fX2_isAnyWithinSearch n (fX2_sendSearch n T 16777215)).2) = bw Z ws n cap q (fX2_isAnyLeft n T).2 from (by rw [show (fX2_isAnyLeft n T) = (((fX2_isAnyWithinSearch n (fX2_sendSearch n T 16777215)).1), (fX2_isAnyWithinSearch n (fX2_sendSearch n T 16777215)).2) from (by rw [fX2_isAnyLeft_eq]; rfl)]; exact ⟨rfl, rfl⟩)) dX2_isAnyLeft_10
noncomputable def fX2_send_j3 (n : Nat) (T : Nat → Nat → Int32) (a1 : Int32) (a2 : Int32) (x3 : Int32) : Int32 × (Nat → Nat → Int32) :=
  (if x3 = 0 then (((fX2_sendAddressed n T a1 a2).1), (fX2_sendAddressed n T a1 a2).2) else (((fX2_sendSpecial n T a1 a2).1), (fX2_sendSpecial n T a1 a2).2))
noncomputable def fX2_send (n : Nat) (T : Nat → Nat → Int32) (a1 : Int32) (a2 : Int32) : Int32 × (Nat → Nat → Int32) :=
  (if (fX2_isByte a1) = 0 then ((-2), T) else (if (fX2_isByte a2) = 0 then ((-2), T) else (fX2_send_j3 n T a1 a2 (if a1 < 160 then 0 else (if 254 ≤ a1 then 0 else 1)))))
set_option maxRecDepth 100000 in
set_option maxHeartbeats 4000000 in
theorem kX2_send (l : Launch) (Z : Zt) (ws : va_W) (n cap : Nat) (q : Nat → Nat) (T : Nat → Nat → Int32) (hB : BK ws n cap q) (a1 : Int32) (a2 : Int32)  : Ct l Z yX2_send cX2_send 4 (some .int) 7 155 0 0 (bw Z ws n cap q T) [.ref (q 0), .int a1, .int a2] (fun r w => r = some (.int (fX2_send n T a1 a2).1) ∧ w = bw Z ws n cap q (fX2_send n T a1 a2).2) := by
  refine Ct.start (by decide) (Nat.le_of_ble_eq_true rfl) ?_
  intro p e s m below meth c S hr hlk hnm hA hW hS ls hl
  replace S : CallFix p m c cX2_send 4 s _ TB RX2 := S
  replace hl : lv_has ls 4 [(0, .ref (q 0)), (1, .int a1), (2, .int a2)] := hl
  refine lv_iload_n S.1 S.2.1 dX2_send_0 rfl (lv_at hl 1 rfl) ?_
  refine c_S S hA hW hS (kX2_isByte l Z (bw Z ws n cap q T) a1) ok_X2_isByte tm_X2_40 ts_X2_isByte ⟨Nat.le_of_ble_eq_true rfl, Nat.le_of_ble_eq_true rfl⟩ rfl hl.1 rfl (Nat.le_of_ble_eq_true rfl) dX2_send_1 ⟨Nat.le_of_ble_eq_true rfl, Nat.le_of_ble_eq_true rfl⟩ (kk_i fun H locs hW hS => ?_)
  refine lv_if_eq (tgt := 14) S.1 S.2.1 dX2_send_4 (by decide) (fun c1 => ?_) (fun c1 => ?_)
  · skip
    refine lv_bipush (v := (-2)) S.1 S.2.1 dX2_send_14 (by decide) ?_
    exact r_iret S hr hlk hW hS (show some (Value.int (-2)) = some (Value.int (fX2_send n T a1 a2).1) ∧ (bw Z ws n cap q T) = bw Z ws n cap q (fX2_send n T a1 a2).2 from (by rw [show (fX2_send n T a1 a2) = ((-2), T) from (by unfold fX2_send; rw [if_pos c1])]; exact ⟨rfl, rfl⟩)) dX2_send_16
  · skip
    refine lv_iload_n S.1 S.2.1 dX2_send_7 rfl (lv_at hl 2 rfl) ?_
    refine c_S S hA hW hS (kX2_isByte l Z (bw Z ws n cap q T) a2) ok_X2_isByte tm_X2_40 ts_X2_isByte ⟨Nat.le_of_ble_eq_true rfl, Nat.le_of_ble_eq_true rfl⟩ rfl hl.1 rfl (Nat.le_of_ble_eq_true rfl) dX2_send_8 ⟨Nat.le_of_ble_eq_true rfl, Nat.le_of_ble_eq_true rfl⟩ (kk_i fun H locs hW hS => ?_)
    refine lv_if_ne (tgt := 17) S.1 S.2.1 dX2_send_11 (by decide) (fun c2 => ?_) (fun c2 => ?_)
    · skip
      refine lv_iload_n S.1 S.2.1 dX2_send_17 rfl (lv_at hl 1 rfl) ?_
      refine lv_sipush (v := 160) S.1 S.2.1 dX2_send_18 (by decide) ?_
      refine jn (Z := Z) (tree := (if a1 < 160 then 0 else (if 254 ≤ a1 then 0 else 1))) 36 [] (bw Z ws n cap q T) (fun x3 H locs e3 hW hS => ?_) (fun K3 => ?_)
      · skip
        refine lv_istore_n (lv' := [(3, .int x3), (0, .ref (q 0)), (1, .int a1), (2, .int a2)]) S.1 S.2.1 dX2_send_36 rfl hl (by decide) rfl (fun ls hl => ?_)
        refine lv_iload_n S.1 S.2.1 dX2_send_37 rfl (lv_at hl 0 rfl) ?_
        refine lv_if_eq (tgt := 50) S.1 S.2.1 dX2_send_38 (by decide) (fun c4 => ?_) (fun c4 => ?_)
        · skip
          refine lv_aload_n S.1 S.2.1 dX2_send_50 rfl (lv_at hl 1 rfl) ?_
          refine lv_iload_n S.1 S.2.1 dX2_send_51 rfl (lv_at hl 2 rfl) ?_
          refine lv_iload_n S.1 S.2.1 dX2_send_52 rfl (lv_at hl 3 rfl) ?_
          refine c_V S hA hW hS (kX2_sendAddressed l Z ws n cap q T hB a1 a2) ok_X2_sendAddressed tm_X2_47 tn_X2_sendAddressed tl_X2_sendAddressed (fo_mem hB.1 0 (bN_0 n)) rfl rfl ⟨Nat.le_of_ble_eq_true rfl, Nat.le_of_ble_eq_true rfl⟩ rfl hl.1 rfl (Nat.le_of_ble_eq_true rfl) dX2_send_53 ⟨Nat.le_of_ble_eq_true rfl, Nat.le_of_ble_eq_true rfl⟩ (kk_i fun H locs hW hS => ?_)
          exact r_iret S hr hlk hW hS (show some (Value.int ((fX2_sendAddressed n T a1 a2).1)) = some (Value.int (fX2_send n T a1 a2).1) ∧ (bw Z ws n cap q (fX2_sendAddressed n T a1 a2).2) = bw Z ws n cap q (fX2_send n T a1 a2).2 from (by rw [show (fX2_send n T a1 a2) = (((fX2_sendAddressed n T a1 a2).1), (fX2_sendAddressed n T a1 a2).2) from (by unfold fX2_send; rw [if_neg c1, if_neg c2, ← e3]; unfold fX2_send_j3; rw [if_pos c4])]; exact ⟨rfl, rfl⟩)) dX2_send_56
        · skip
          refine lv_aload_n S.1 S.2.1 dX2_send_41 rfl (lv_at hl 1 rfl) ?_
          refine lv_iload_n S.1 S.2.1 dX2_send_42 rfl (lv_at hl 2 rfl) ?_
          refine lv_iload_n S.1 S.2.1 dX2_send_43 rfl (lv_at hl 3 rfl) ?_
          refine c_V S hA hW hS (kX2_sendSpecial l Z ws n cap q T hB a1 a2) ok_X2_sendSpecial tm_X2_43 tn_X2_sendSpecial tl_X2_sendSpecial (fo_mem hB.1 0 (bN_0 n)) rfl rfl ⟨Nat.le_of_ble_eq_true rfl, Nat.le_of_ble_eq_true rfl⟩ rfl hl.1 rfl (Nat.le_of_ble_eq_true rfl) dX2_send_44 ⟨Nat.le_of_ble_eq_true rfl, Nat.le_of_ble_eq_true rfl⟩ (kk_i fun H locs hW hS => ?_)
          refine lv_goto (tgt := 56) S.1 S.2.1 dX2_send_47 (by decide) ?_
          exact r_iret S hr hlk hW hS (show some (Value.int ((fX2_sendSpecial n T a1 a2).1)) = some (Value.int (fX2_send n T a1 a2).1) ∧ (bw Z ws n cap q (fX2_sendSpecial n T a1 a2).2) = bw Z ws n cap q (fX2_send n T a1 a2).2 from (by rw [show (fX2_send n T a1 a2) = (((fX2_sendSpecial n T a1 a2).1), (fX2_sendSpecial n T a1 a2).2) from (by unfold fX2_send; rw [if_neg c1, if_neg c2, ← e3]; unfold fX2_send_j3; rw [if_neg c4])]; exact ⟨rfl, rfl⟩)) dX2_send_56
      · skip
        refine lv_icmp_lt (tgt := 35) S.1 S.2.1 dX2_send_21 (by decide) (fun c5 => ?_) (fun c5 => ?_)
        · skip
          refine lv_iconst (v := 0) S.1 S.2.1 dX2_send_35 (by decide) ?_
          exact K3 _ _ _ (by rw [if_pos c5]) hW hS
        · skip
          refine lv_iload_n S.1 S.2.1 dX2_send_24 rfl (lv_at hl 1 rfl) ?_
          refine lv_sipush (v := 254) S.1 S.2.1 dX2_send_25 (by decide) ?_
          refine lv_icmp_ge (tgt := 35) S.1 S.2.1 dX2_send_28 (by decide) (fun c6 => ?_) (fun c6 => ?_)
          · skip
            refine lv_iconst (v := 0) S.1 S.2.1 dX2_send_35 (by decide) ?_
            exact K3 _ _ _ (by rw [if_neg c5, if_pos c6]) hW hS
          · skip
            refine lv_iconst (v := 1) S.1 S.2.1 dX2_send_31 (by decide) ?_
            refine lv_goto (tgt := 36) S.1 S.2.1 dX2_send_32 (by decide) ?_
            exact K3 _ _ _ (by rw [if_neg c5, if_neg c6]) hW hS
    · skip
      refine lv_bipush (v := (-2)) S.1 S.2.1 dX2_send_14 (by decide) ?_
      exact r_iret S hr hlk hW hS (show some (Value.int (-2)) = some (Value.int (fX2_send n T a1 a2).1) ∧ (bw Z ws n cap q T) = bw Z ws n cap q (fX2_send n T a1 a2).2 from (by rw [show (fX2_send n T a1 a2) = ((-2), T) from (by unfold fX2_send; rw [if_neg c1, if_pos c2])]; exact ⟨rfl, rfl⟩)) dX2_send_16
/-- the bits that are still to be tried: j of them -/
noncomputable def slIt : Nat → Int32 → Nat → (Nat → Nat → Int32) → Int32 × (Nat → Nat → Int32)
  | _, v, 0, T => (v, T)
  | n, v, j + 1, T => if (fX2_isAnyWithinSearch n (fX2_sendSearch n T (v - ((1 : Int32) <<< ((nI j) &&& 31))))).1 = 0 then slIt n v j (fX2_isAnyWithinSearch n (fX2_sendSearch n T (v - ((1 : Int32) <<< ((nI j) &&& 31))))).2 else slIt n (v - ((1 : Int32) <<< ((nI j) &&& 31))) j (fX2_isAnyWithinSearch n (fX2_sendSearch n T (v - ((1 : Int32) <<< ((nI j) &&& 31))))).2
theorem slIt_s {n j : Nat} {v : Int32} {T : Nat → Nat → Int32} : slIt n v (j + 1) T = if (fX2_isAnyWithinSearch n (fX2_sendSearch n T (v - ((1 : Int32) <<< ((nI j) &&& 31))))).1 = 0 then slIt n v j (fX2_isAnyWithinSearch n (fX2_sendSearch n T (v - ((1 : Int32) <<< ((nI j) &&& 31))))).2 else slIt n (v - ((1 : Int32) <<< ((nI j) &&& 31))) j (fX2_isAnyWithinSearch n (fX2_sendSearch n T (v - ((1 : Int32) <<< ((nI j) &&& 31))))).2 := by
  conv => lhs; unfold slIt
noncomputable def slr0 (n : Nat) (T : Nat → Nat → Int32) : Nat → Nat → Int32 := fX2_sendSearch n (slIt n 16777215 24 T).2 (slIt n 16777215 24 T).1
noncomputable def fX2_searchLeastRandom : Nat → (Nat → Nat → Int32) → (Nat → Nat → Int32) := Classical.choose (p := fun f => f = slr0) ⟨slr0, rfl⟩
theorem fX2_searchLeastRandom_eq : fX2_searchLeastRandom = slr0 := Classical.choose_spec (p := fun f => f = slr0) ⟨slr0, rfl⟩
set_option maxRecDepth 100000 in
set_option maxHeartbeats 4000000 in
theorem kX2_searchLeastRandom (l : Launch) (Z : Zt) (ws : va_W) (n cap : Nat) (q : Nat → Nat) (T : Nat → Nat → Int32) (hB : BK ws n cap q) : Ct l Z yX2_searchLeastRandom cX2_searchLeastRandom 4 none 5 112 0 0 (bw Z ws n cap q T) [.ref (q 0)] (fun r w => r = none ∧ w = bw Z ws n cap q (fX2_searchLeastRandom n T)) := by
  refine Ct.start (by decide) (Nat.le_of_ble_eq_true rfl) ?_
  intro p e s m below meth c S hr hlk hnm hA hW hS ls hl
  replace S : CallFix p m c cX2_searchLeastRandom 4 s _ TB RX2 := S
  replace hl : lv_has ls 4 [(0, .ref (q 0))] := hl
  have hn16 := hB.2.1
  refine r_ldc S tk_X2_31 dX2_searchLeastRandom_0 ?_
  refine lv_istore_n (lv' := [(1, .int 16777215), (0, .ref (q 0))]) S.1 S.2.1 dX2_searchLeastRandom_2 rfl hl (by decide) rfl (fun ls hl => ?_)
  refine lv_bipush (v := 23) S.1 S.2.1 dX2_searchLeastRandom_3 (by decide) ?_
  refine lv_istore_n (lv' := [(2, .int 23), (1, .int 16777215), (0, .ref (q 0))]) S.1 S.2.1 dX2_searchLeastRandom_5 rfl hl (by decide) rfl (fun ls hl => ?_)
  refine w_loop (fun d H1 locs1 ls1 => ∃ (j : Nat) (v : Int32) (Tv : Nat → Nat → Int32), d = j ∧ j ≤ 24 ∧ slIt n v j Tv = slIt n 16777215 24 T ∧ Wd Z (bw Z ws n cap q Tv) H1 ∧ va_S (zA Z) s.heap H1 locs1 ∧ lv_has ls1 4 [(2, .int (nI j - 1)), (1, .int v), (0, .ref (q 0))]) ?_ 24 ⟨24, 16777215, T, rfl, by omega, rfl, hW, hS, by rw [n24]; exact hl⟩
  clear hW hS hl
  rintro d H locs ls ⟨j, v, Tv, rfl, hj, hsl, hW, hS, hl⟩ ih
  refine lv_iload_n S.1 S.2.1 dX2_searchLeastRandom_6 rfl (lv_at hl 0 rfl) ?_
  refine lv_if_lt (tgt := 36) S.1 S.2.1 dX2_searchLeastRandom_7 (by decide) (fun cb => ?_) (fun cb => ?_)
  · have e0 : d = 0 := by
      rcases Nat.eq_zero_or_pos d with h | h
      · exact h
      · obtain ⟨k, rfl⟩ : ∃ k, d = k + 1 := ⟨d - 1, by omega⟩
        rw [nI_pred] at cb
        exact absurd cb (nI_pos (by omega))
    subst e0
    have hsl2 : slIt n 16777215 24 T = (v, Tv) := by rw [← hsl]; unfold slIt; rfl
    refine lv_aload_n S.1 S.2.1 dX2_searchLeastRandom_36 rfl (lv_at hl 2 rfl) ?_
    refine lv_iload_n S.1 S.2.1 dX2_searchLeastRandom_37 rfl (lv_at hl 1 rfl) ?_
    refine c_V S hA hW hS (kX2_sendSearch l Z ws n cap q Tv hB v) ok_X2_sendSearch tm_X2_120 tn_X2_sendSearch tl_X2_sendSearch (fo_mem hB.1 0 (bN_0 n)) rfl rfl ⟨Nat.le_of_ble_eq_true rfl, Nat.le_of_ble_eq_true rfl⟩ rfl hl.1 rfl (Nat.le_of_ble_eq_true rfl) dX2_searchLeastRandom_38 ⟨Nat.le_of_ble_eq_true rfl, Nat.le_of_ble_eq_true rfl⟩ (kk_v fun H locs hW hS => ?_)
    exact r_vret S hr hlk hW hS (by rw [show fX2_searchLeastRandom n T  = (fX2_sendSearch n Tv v) from (by rw [fX2_searchLeastRandom_eq]; unfold slr0; rw [hsl2])]; exact ⟨rfl, rfl⟩) dX2_searchLeastRandom_41
  · obtain ⟨k, rfl⟩ : ∃ k, d = k + 1 := ⟨d - 1, by
      rcases Nat.eq_zero_or_pos d with h | h
      · subst h; exact absurd (by decide) cb
      · omega⟩
    rw [nI_pred] at hl
    clear cb
    refine lv_iload_n S.1 S.2.1 dX2_searchLeastRandom_10 rfl (lv_at hl 1 rfl) ?_
    refine lv_iconst (v := 1) S.1 S.2.1 dX2_searchLeastRandom_11 (by decide) ?_
    refine lv_iload_n S.1 S.2.1 dX2_searchLeastRandom_12 rfl (lv_at hl 0 rfl) ?_
    refine lv_ishl S.1 S.2.1 dX2_searchLeastRandom_13 ?_
    refine lv_isub S.1 S.2.1 dX2_searchLeastRandom_14 ?_
    refine lv_istore_n (lv' := [(3, .int (v - ((1 : Int32) <<< ((nI k) &&& 31)))), (2, .int (nI k)), (1, .int v), (0, .ref (q 0))]) S.1 S.2.1 dX2_searchLeastRandom_15 rfl hl (by decide) rfl (fun ls hl => ?_)
    refine lv_aload_n S.1 S.2.1 dX2_searchLeastRandom_16 rfl (lv_at hl 3 rfl) ?_
    refine lv_iload_n S.1 S.2.1 dX2_searchLeastRandom_17 rfl (lv_at hl 0 rfl) ?_
    refine c_V S hA hW hS (kX2_sendSearch l Z ws n cap q Tv hB (v - ((1 : Int32) <<< ((nI k) &&& 31)))) ok_X2_sendSearch tm_X2_120 tn_X2_sendSearch tl_X2_sendSearch (fo_mem hB.1 0 (bN_0 n)) rfl rfl ⟨Nat.le_of_ble_eq_true rfl, Nat.le_of_ble_eq_true rfl⟩ rfl hl.1 rfl (Nat.le_of_ble_eq_true rfl) dX2_searchLeastRandom_18 ⟨Nat.le_of_ble_eq_true rfl, Nat.le_of_ble_eq_true rfl⟩ (kk_v fun H locs hW hS => ?_)
    refine lv_aload_n S.1 S.2.1 dX2_searchLeastRandom_21 rfl (lv_at hl 3 rfl) ?_
    refine c_V S hA hW hS (kX2_isAnyWithinSearch l Z ws n cap q (fX2_sendSearch n Tv (v - ((1 : Int32) <<< ((nI k) &&& 31)))) hB ) ok_X2_isAnyWithinSearch tm_X2_123 tn_X2_isAnyWithinSearch tl_X2_isAnyWithinSearch (fo_mem hB.1 0 (bN_0 n)) rfl rfl ⟨Nat.le_of_ble_eq_true rfl, Nat.le_of_ble_eq_true rfl⟩ rfl hl.1 rfl (Nat.le_of_ble_eq_true rfl) dX2_searchLeastRandom_22 ⟨Nat.le_of_ble_eq_true rfl, Nat.le_of_ble_eq_true rfl⟩ (kk_i fun H locs hW hS => ?_)
    refine lv_if_eq (tgt := 30) S.1 S.2.1 dX2_searchLeastRandom_25 (by decide) (fun c1 => ?_) (fun c1 => ?_)
    · skip
      refine lv_iinc (v := nI k - 1) (lv' := [(2, .int (nI k - 1)), (3, .int (v - ((1 : Int32) <<< ((nI k) &&& 31)))), (1, .int v), (0, .ref (q 0))]) S.1 S.2.1 dX2_searchLeastRandom_30 hl (k := 1) rfl (m1_sub _) (by decide) rfl (fun ls hl => ?_)
      refine lv_goto (tgt := 6) S.1 S.2.1 dX2_searchLeastRandom_33 (by decide) ?_
      exact ih k _ _ _ (by omega) ⟨k, v, (fX2_isAnyWithinSearch n (fX2_sendSearch n Tv (v - ((1 : Int32) <<< ((nI k) &&& 31))))).2, rfl, by omega, by rw [← hsl, slIt_s, if_pos c1], hW, hS, lv_sub hl [0, 2, 3] rfl⟩
    · skip
      refine lv_iload_n S.1 S.2.1 dX2_searchLeastRandom_28 rfl (lv_at hl 0 rfl) ?_
      refine lv_istore_n (lv' := [(1, .int (v - ((1 : Int32) <<< ((nI k) &&& 31)))), (3, .int (v - ((1 : Int32) <<< ((nI k) &&& 31)))), (2, .int (nI k)), (0, .ref (q 0))]) S.1 S.2.1 dX2_searchLeastRandom_29 rfl hl (by decide) rfl (fun ls hl => ?_)
      refine lv_iinc (v := nI k - 1) (lv' := [(2, .int (nI k - 1)), (1, .int (v - ((1 : Int32) <<< ((nI k) &&& 31)))), (3, .int (v - ((1 : Int32) <<< ((nI k) &&& 31)))), (0, .ref (q 0))]) S.1 S.2.1 dX2_searchLeastRandom_30 hl (k := 2) rfl (m1_sub _) (by decide) rfl (fun ls hl => ?_)
      refine lv_goto (tgt := 6) S.1 S.2.1 dX2_searchLeastRandom_33 (by decide) ?_
      exact ih k _ _ _ (by omega) ⟨k, (v - ((1 : Int32) <<< ((nI k) &&& 31))), (fX2_isAnyWithinSearch n (fX2_sendSearch n Tv (v - ((1 : Int32) <<< ((nI k) &&& 31))))).2, rfl, by omega, by rw [← hsl, slIt_s, if_neg c1], hW, hS, lv_sub hl [0, 1, 3] rfl⟩
noncomputable def bcAf (n : Nat) (a1 t : Int32) (T : Nat → Nat → Int32) : Nat → Nat → Int32 := (fX2_sendSpecial n (fX2_sendSpecial n T 183 ((2 * (a1 + t)) + 1)).2 171 0).2
noncomputable def bcO : Nat → Int32 → Nat → Int32 → (Nat → Nat → Int32) → Int32 × (Nat → Nat → Int32)
  | _, _, 0, t, T => (t, T)
  | n, a1, f + 1, t, T => if 20 ≤ t then (t, T) else (if 63 < (a1 + t) then (t, T) else (if (fX2_isAnyLeft n T).1 = 0 then (t, (fX2_isAnyLeft n T).2) else bcO n a1 f (t + 1) (bcAf n a1 t (fX2_searchLeastRandom n (fX2_isAnyLeft n T).2))))
theorem bcO_s {n f : Nat} {a1 t : Int32} {T : Nat → Nat → Int32} : bcO n a1 (f + 1) t T = if 20 ≤ t then (t, T) else (if 63 < (a1 + t) then (t, T) else (if (fX2_isAnyLeft n T).1 = 0 then (t, (fX2_isAnyLeft n T).2) else bcO n a1 f (t + 1) (bcAf n a1 t (fX2_searchLeastRandom n (fX2_isAnyLeft n T).2)))) := by
  conv => lhs; unfold bcO
noncomputable def bcM1 (n : Nat) (T : Nat → Nat → Int32) : Nat → Nat → Int32 := (fX2_sendSpecial n (fX2_sendSpecial n (fX2_sendSpecial n (fX2_sendSpecial n (up2 T 100 2 0) 165 0).2 165 0).2 167 0).2 167 0).2
noncomputable def fX2_commission (n : Nat) (T : Nat → Nat → Int32) (a1 : Int32) : Int32 × (Nat → Nat → Int32) := if a1 < 0 then ((-2), T) else (if a1 ≤ 63 then ((bcO n a1 21 0 (bcM1 n T)).1, (fX2_sendSpecial n (bcO n a1 21 0 (bcM1 n T)).2 161 0).2) else ((-2), T))
set_option maxRecDepth 100000 in
set_option maxHeartbeats 4000000 in
theorem kX2_commission (l : Launch) (Z : Zt) (ws : va_W) (n cap : Nat) (q : Nat → Nat) (T : Nat → Nat → Int32) (hB : BK ws n cap q) (a1 : Int32) : Ct l Z yX2_commission cX2_commission 3 (some .int) 6 135 0 0 (bw Z ws n cap q T) [.ref (q 0), .int a1] (fun r w => r = some (.int (fX2_commission n T a1).1) ∧ w = bw Z ws n cap q (fX2_commission n T a1).2) := by
  refine Ct.start (by decide) (Nat.le_of_ble_eq_true rfl) ?_
  intro p e s m below meth c S hr hlk hnm hA hW hS ls hl
  replace S : CallFix p m c cX2_commission 3 s _ TB RX2 := S
  replace hl : lv_has ls 3 [(0, .ref (q 0)), (1, .int a1)] := hl
  have hn16 := hB.2.1
  refine lv_iload_n S.1 S.2.1 dX2_commission_0 rfl (lv_at hl 1 rfl) ?_
  refine lv_if_lt (tgt := 10) S.1 S.2.1 dX2_commission_1 (by decide) (fun c1 => ?_) (fun c1 => ?_)
  · skip
    refine lv_bipush (v := (-2)) S.1 S.2.1 dX2_commission_10 (by decide) ?_
    exact r_iret S hr hlk hW hS (show some (Value.int (-2)) = some (Value.int (fX2_commission n T a1).1) ∧ (bw Z ws n cap q T) = bw Z ws n cap q (fX2_commission n T a1).2 from (by rw [show (fX2_commission n T a1) = ((-2), T) from (by unfold fX2_commission; rw [if_pos c1])]; exact ⟨rfl, rfl⟩)) dX2_commission_12
  · skip
    refine lv_iload_n S.1 S.2.1 dX2_commission_4 rfl (lv_at hl 1 rfl) ?_
    refine lv_bipush (v := 63) S.1 S.2.1 dX2_commission_5 (by decide) ?_
    refine lv_icmp_le (tgt := 13) S.1 S.2.1 dX2_commission_7 (by decide) (fun c2 => ?_) (fun c2 => ?_)
    · skip
      refine lv_aload_n S.1 S.2.1 dX2_commission_13 rfl (lv_at hl 0 rfl) ?_
      refine lv_iconst (v := 0) S.1 S.2.1 dX2_commission_14 (by decide) ?_
      refine b_put (x := 0) S hA hB.1 hB.2.1 hW hS 2 (by decide) (by decide) tf_X2_77 rfl rfl rfl dX2_commission_15 (fun H locs hW hS => ?_)
      refine lv_aload_n S.1 S.2.1 dX2_commission_18 rfl (lv_at hl 0 rfl) ?_
      refine lv_sipush (v := 165) S.1 S.2.1 dX2_commission_19 (by decide) ?_
      refine lv_iconst (v := 0) S.1 S.2.1 dX2_commission_22 (by decide) ?_
      refine c_V S hA hW hS (kX2_sendSpecial l Z ws n cap q (up2 T 100 2 0) hB 165 0) ok_X2_sendSpecial tm_X2_43 tn_X2_sendSpecial tl_X2_sendSpecial (fo_mem hB.1 0 (bN_0 n)) rfl rfl ⟨Nat.le_of_ble_eq_true rfl, Nat.le_of_ble_eq_true rfl⟩ rfl hl.1 rfl (Nat.le_of_ble_eq_true rfl) dX2_commission_23 ⟨Nat.le_of_ble_eq_true rfl, Nat.le_of_ble_eq_true rfl⟩ (kk_i fun H locs hW hS => ?_)
      refine lv_pop S.1 S.2.1 dX2_commission_26 rfl ?_
      refine lv_aload_n S.1 S.2.1 dX2_commission_27 rfl (lv_at hl 0 rfl) ?_
      refine lv_sipush (v := 165) S.1 S.2.1 dX2_commission_28 (by decide) ?_
      refine lv_iconst (v := 0) S.1 S.2.1 dX2_commission_31 (by decide) ?_
      refine c_V S hA hW hS (kX2_sendSpecial l Z ws n cap q (fX2_sendSpecial n (up2 T 100 2 0) 165 0).2 hB 165 0) ok_X2_sendSpecial tm_X2_43 tn_X2_sendSpecial tl_X2_sendSpecial (fo_mem hB.1 0 (bN_0 n)) rfl rfl ⟨Nat.le_of_ble_eq_true rfl, Nat.le_of_ble_eq_true rfl⟩ rfl hl.1 rfl (Nat.le_of_ble_eq_true rfl) dX2_commission_32 ⟨Nat.le_of_ble_eq_true rfl, Nat.le_of_ble_eq_true rfl⟩ (kk_i fun H locs hW hS => ?_)
      refine lv_pop S.1 S.2.1 dX2_commission_35 rfl ?_
      refine lv_aload_n S.1 S.2.1 dX2_commission_36 rfl (lv_at hl 0 rfl) ?_
      refine lv_sipush (v := 167) S.1 S.2.1 dX2_commission_37 (by decide) ?_
      refine lv_iconst (v := 0) S.1 S.2.1 dX2_commission_40 (by decide) ?_
      refine c_V S hA hW hS (kX2_sendSpecial l Z ws n cap q (fX2_sendSpecial n (fX2_sendSpecial n (up2 T 100 2 0) 165 0).2 165 0).2 hB 167 0) ok_X2_sendSpecial tm_X2_43 tn_X2_sendSpecial tl_X2_sendSpecial (fo_mem hB.1 0 (bN_0 n)) rfl rfl ⟨Nat.le_of_ble_eq_true rfl, Nat.le_of_ble_eq_true rfl⟩ rfl hl.1 rfl (Nat.le_of_ble_eq_true rfl) dX2_commission_41 ⟨Nat.le_of_ble_eq_true rfl, Nat.le_of_ble_eq_true rfl⟩ (kk_i fun H locs hW hS => ?_)
      refine lv_pop S.1 S.2.1 dX2_commission_44 rfl ?_
      refine lv_aload_n S.1 S.2.1 dX2_commission_45 rfl (lv_at hl 0 rfl) ?_
      refine lv_sipush (v := 167) S.1 S.2.1 dX2_commission_46 (by decide) ?_
      refine lv_iconst (v := 0) S.1 S.2.1 dX2_commission_49 (by decide) ?_
      refine c_V S hA hW hS (kX2_sendSpecial l Z ws n cap q (fX2_sendSpecial n (fX2_sendSpecial n (fX2_sendSpecial n (up2 T 100 2 0) 165 0).2 165 0).2 167 0).2 hB 167 0) ok_X2_sendSpecial tm_X2_43 tn_X2_sendSpecial tl_X2_sendSpecial (fo_mem hB.1 0 (bN_0 n)) rfl rfl ⟨Nat.le_of_ble_eq_true rfl, Nat.le_of_ble_eq_true rfl⟩ rfl hl.1 rfl (Nat.le_of_ble_eq_true rfl) dX2_commission_50 ⟨Nat.le_of_ble_eq_true rfl, Nat.le_of_ble_eq_true rfl⟩ (kk_i fun H locs hW hS => ?_)
      refine lv_pop S.1 S.2.1 dX2_commission_53 rfl ?_
      refine lv_iconst (v := 0) S.1 S.2.1 dX2_commission_54 (by decide) ?_
      refine lv_istore_n (lv' := [(2, .int 0), (0, .ref (q 0)), (1, .int a1)]) S.1 S.2.1 dX2_commission_55 rfl hl (by decide) rfl (fun ls hl => ?_)
      have cA := c1; have cB := c2
      refine w_loop (fun d H1 locs1 ls1 => ∃ (t : Nat) (T2 : Nat → Nat → Int32), t ≤ 20 ∧ t + d = 21 ∧ bcO n a1 d (nI t) T2 = bcO n a1 21 0 (bcM1 n T) ∧ Wd Z (bw Z ws n cap q T2) H1 ∧ va_S (zA Z) s.heap H1 locs1 ∧ lv_has ls1 3 [(2, .int (nI t)), (0, .ref (q 0)), (1, .int a1)]) ?_ 21 ⟨0, bcM1 n T, by omega, rfl, rfl, (by unfold bcM1; exact hW), hS, lv_sub hl [0, 1, 2] rfl⟩
      clear hW hS hl
      rintro d H locs ls ⟨t, T2, ht, hd, hcm, hW, hS, hl⟩ ih
      obtain ⟨f, rfl⟩ : ∃ f, d = f + 1 := ⟨d - 1, by omega⟩
      refine lv_iload_n S.1 S.2.1 dX2_commission_56 rfl (lv_at hl 0 rfl) ?_
      refine lv_bipush (v := 20) S.1 S.2.1 dX2_commission_57 (by decide) ?_
      refine lv_icmp_ge (tgt := 111) S.1 S.2.1 dX2_commission_59 (by decide) (fun c3 => ?_) (fun c3 => ?_)
      · skip
        have hx : bcO n a1 21 0 (bcM1 n T) = ((nI t), T2) := by rw [← hcm, bcO_s, if_pos c3]
        refine lv_aload_n S.1 S.2.1 dX2_commission_111 rfl (lv_at hl 1 rfl) ?_
        refine lv_sipush (v := 161) S.1 S.2.1 dX2_commission_112 (by decide) ?_
        refine lv_iconst (v := 0) S.1 S.2.1 dX2_commission_115 (by decide) ?_
        refine c_V S hA hW hS (kX2_sendSpecial l Z ws n cap q T2 hB 161 0) ok_X2_sendSpecial tm_X2_43 tn_X2_sendSpecial tl_X2_sendSpecial (fo_mem hB.1 0 (bN_0 n)) rfl rfl ⟨Nat.le_of_ble_eq_true rfl, Nat.le_of_ble_eq_true rfl⟩ rfl hl.1 rfl (Nat.le_of_ble_eq_true rfl) dX2_commission_116 ⟨Nat.le_of_ble_eq_true rfl, Nat.le_of_ble_eq_true rfl⟩ (kk_i fun H locs hW hS => ?_)
        refine lv_pop S.1 S.2.1 dX2_commission_119 rfl ?_
        refine lv_iload_n S.1 S.2.1 dX2_commission_120 rfl (lv_at hl 0 rfl) ?_
        exact r_iret S hr hlk hW hS (by rw [show fX2_commission n T a1 = ((nI t), (fX2_sendSpecial n T2 161 0).2) from (by unfold fX2_commission; rw [if_neg cA, if_pos cB, hx])]; exact ⟨rfl, rfl⟩) dX2_commission_121
      · skip
        refine lv_iload_n S.1 S.2.1 dX2_commission_62 rfl (lv_at hl 2 rfl) ?_
        refine lv_iload_n S.1 S.2.1 dX2_commission_63 rfl (lv_at hl 0 rfl) ?_
        refine lv_iadd S.1 S.2.1 dX2_commission_64 ?_
        refine lv_bipush (v := 63) S.1 S.2.1 dX2_commission_65 (by decide) ?_
        refine lv_icmp_gt (tgt := 111) S.1 S.2.1 dX2_commission_67 (by decide) (fun c4 => ?_) (fun c4 => ?_)
        · skip
          have hx : bcO n a1 21 0 (bcM1 n T) = ((nI t), T2) := by rw [← hcm, bcO_s, if_neg c3, if_pos c4]
          refine lv_aload_n S.1 S.2.1 dX2_commission_111 rfl (lv_at hl 1 rfl) ?_
          refine lv_sipush (v := 161) S.1 S.2.1 dX2_commission_112 (by decide) ?_
          refine lv_iconst (v := 0) S.1 S.2.1 dX2_commission_115 (by decide) ?_
          refine c_V S hA hW hS (kX2_sendSpecial l Z ws n cap q T2 hB 161 0) ok_X2_sendSpecial tm_X2_43 tn_X2_sendSpecial tl_X2_sendSpecial (fo_mem hB.1 0 (bN_0 n)) rfl rfl ⟨Nat.le_of_ble_eq_true rfl, Nat.le_of_ble_eq_true rfl⟩ rfl hl.1 rfl (Nat.le_of_ble_eq_true rfl) dX2_commission_116 ⟨Nat.le_of_ble_eq_true rfl, Nat.le_of_ble_eq_true rfl⟩ (kk_i fun H locs hW hS => ?_)
          refine lv_pop S.1 S.2.1 dX2_commission_119 rfl ?_
          refine lv_iload_n S.1 S.2.1 dX2_commission_120 rfl (lv_at hl 0 rfl) ?_
          exact r_iret S hr hlk hW hS (by rw [show fX2_commission n T a1 = ((nI t), (fX2_sendSpecial n T2 161 0).2) from (by unfold fX2_commission; rw [if_neg cA, if_pos cB, hx])]; exact ⟨rfl, rfl⟩) dX2_commission_121
        · skip
          refine lv_aload_n S.1 S.2.1 dX2_commission_70 rfl (lv_at hl 1 rfl) ?_
          refine c_V S hA hW hS (kX2_isAnyLeft l Z ws n cap q T2 hB ) ok_X2_isAnyLeft tm_X2_80 tn_X2_isAnyLeft tl_X2_isAnyLeft (fo_mem hB.1 0 (bN_0 n)) rfl rfl ⟨Nat.le_of_ble_eq_true rfl, Nat.le_of_ble_eq_true rfl⟩ rfl hl.1 rfl (Nat.le_of_ble_eq_true rfl) dX2_commission_71 ⟨Nat.le_of_ble_eq_true rfl, Nat.le_of_ble_eq_true rfl⟩ (kk_i fun H locs hW hS => ?_)
          refine lv_if_eq (tgt := 111) S.1 S.2.1 dX2_commission_74 (by decide) (fun c5 => ?_) (fun c5 => ?_)
          · skip
            have hx : bcO n a1 21 0 (bcM1 n T) = ((nI t), (fX2_isAnyLeft n T2).2) := by rw [← hcm, bcO_s, if_neg c3, if_neg c4, if_pos c5]
            refine lv_aload_n S.1 S.2.1 dX2_commission_111 rfl (lv_at hl 1 rfl) ?_
            refine lv_sipush (v := 161) S.1 S.2.1 dX2_commission_112 (by decide) ?_
            refine lv_iconst (v := 0) S.1 S.2.1 dX2_commission_115 (by decide) ?_
            refine c_V S hA hW hS (kX2_sendSpecial l Z ws n cap q (fX2_isAnyLeft n T2).2 hB 161 0) ok_X2_sendSpecial tm_X2_43 tn_X2_sendSpecial tl_X2_sendSpecial (fo_mem hB.1 0 (bN_0 n)) rfl rfl ⟨Nat.le_of_ble_eq_true rfl, Nat.le_of_ble_eq_true rfl⟩ rfl hl.1 rfl (Nat.le_of_ble_eq_true rfl) dX2_commission_116 ⟨Nat.le_of_ble_eq_true rfl, Nat.le_of_ble_eq_true rfl⟩ (kk_i fun H locs hW hS => ?_)
            refine lv_pop S.1 S.2.1 dX2_commission_119 rfl ?_
            refine lv_iload_n S.1 S.2.1 dX2_commission_120 rfl (lv_at hl 0 rfl) ?_
            exact r_iret S hr hlk hW hS (by rw [show fX2_commission n T a1 = ((nI t), (fX2_sendSpecial n (fX2_isAnyLeft n T2).2 161 0).2) from (by unfold fX2_commission; rw [if_neg cA, if_pos cB, hx])]; exact ⟨rfl, rfl⟩) dX2_commission_121
          · skip
            refine lv_aload_n S.1 S.2.1 dX2_commission_77 rfl (lv_at hl 1 rfl) ?_
            refine c_V S hA hW hS (kX2_searchLeastRandom l Z ws n cap q (fX2_isAnyLeft n T2).2 hB ) ok_X2_searchLeastRandom tm_X2_83 tn_X2_searchLeastRandom tl_X2_searchLeastRandom (fo_mem hB.1 0 (bN_0 n)) rfl rfl ⟨Nat.le_of_ble_eq_true rfl, Nat.le_of_ble_eq_true rfl⟩ rfl hl.1 rfl (Nat.le_of_ble_eq_true rfl) dX2_commission_78 ⟨Nat.le_of_ble_eq_true rfl, Nat.le_of_ble_eq_true rfl⟩ (kk_v fun H locs hW hS => ?_)
            refine lv_aload_n S.1 S.2.1 dX2_commission_81 rfl (lv_at hl 1 rfl) ?_
            refine lv_sipush (v := 183) S.1 S.2.1 dX2_commission_82 (by decide) ?_
            refine lv_iconst (v := 2) S.1 S.2.1 dX2_commission_85 (by decide) ?_
            refine lv_iload_n S.1 S.2.1 dX2_commission_86 rfl (lv_at hl 2 rfl) ?_
            refine lv_iload_n S.1 S.2.1 dX2_commission_87 rfl (lv_at hl 0 rfl) ?_
            refine lv_iadd S.1 S.2.1 dX2_commission_88 ?_
            refine lv_imul S.1 S.2.1 dX2_commission_89 ?_
            refine lv_iconst (v := 1) S.1 S.2.1 dX2_commission_90 (by decide) ?_
            refine lv_iadd S.1 S.2.1 dX2_commission_91 ?_
            refine c_V S hA hW hS (kX2_sendSpecial l Z ws n cap q (fX2_searchLeastRandom n (fX2_isAnyLeft n T2).2) hB 183 ((2 * (a1 + (nI t))) + 1)) ok_X2_sendSpecial tm_X2_43 tn_X2_sendSpecial tl_X2_sendSpecial (fo_mem hB.1 0 (bN_0 n)) rfl rfl ⟨Nat.le_of_ble_eq_true rfl, Nat.le_of_ble_eq_true rfl⟩ rfl hl.1 rfl (Nat.le_of_ble_eq_true rfl) dX2_commission_92 ⟨Nat.le_of_ble_eq_true rfl, Nat.le_of_ble_eq_true rfl⟩ (kk_i fun H locs hW hS => ?_)
            refine lv_pop S.1 S.2.1 dX2_commission_95 rfl ?_
            refine lv_aload_n S.1 S.2.1 dX2_commission_96 rfl (lv_at hl 1 rfl) ?_
            refine lv_sipush (v := 171) S.1 S.2.1 dX2_commission_97 (by decide) ?_
            refine lv_iconst (v := 0) S.1 S.2.1 dX2_commission_100 (by decide) ?_
            refine c_V S hA hW hS (kX2_sendSpecial l Z ws n cap q (fX2_sendSpecial n (fX2_searchLeastRandom n (fX2_isAnyLeft n T2).2) 183 ((2 * (a1 + (nI t))) + 1)).2 hB 171 0) ok_X2_sendSpecial tm_X2_43 tn_X2_sendSpecial tl_X2_sendSpecial (fo_mem hB.1 0 (bN_0 n)) rfl rfl ⟨Nat.le_of_ble_eq_true rfl, Nat.le_of_ble_eq_true rfl⟩ rfl hl.1 rfl (Nat.le_of_ble_eq_true rfl) dX2_commission_101 ⟨Nat.le_of_ble_eq_true rfl, Nat.le_of_ble_eq_true rfl⟩ (kk_i fun H locs hW hS => ?_)
            refine lv_pop S.1 S.2.1 dX2_commission_104 rfl ?_
            refine lv_iinc (v := nI (t + 1)) (lv' := [(2, .int (nI (t + 1))), (0, .ref (q 0)), (1, .int a1)]) S.1 S.2.1 dX2_commission_105 hl (k := 0) rfl (nI_1 t) (by decide) rfl (fun ls hl => ?_)
            refine lv_goto (tgt := 56) S.1 S.2.1 dX2_commission_108 (by decide) ?_
            refine ih f _ _ _ (by omega) ⟨t + 1, bcAf n a1 (nI t) (fX2_searchLeastRandom n (fX2_isAnyLeft n T2).2), ?_, by omega, ?_, (by unfold bcAf; exact hW), hS, lv_sub hl [0, 1, 2] rfl⟩
            · have : t < 20 := by
                rcases Nat.lt_or_ge t 20 with h | h
                · exact h
                · exact absurd (nI_le h (by omega)) c3
              omega
            · rw [← hcm, bcO_s, if_neg c3, if_neg c4, if_neg c5, nI_1]
    · skip
      refine lv_bipush (v := (-2)) S.1 S.2.1 dX2_commission_10 (by decide) ?_
      exact r_iret S hr hlk hW hS (show some (Value.int (-2)) = some (Value.int (fX2_commission n T a1).1) ∧ (bw Z ws n cap q T) = bw Z ws n cap q (fX2_commission n T a1).2 from (by rw [show (fX2_commission n T a1) = ((-2), T) from (by unfold fX2_commission; rw [if_neg c1, if_neg c2])]; exact ⟨rfl, rfl⟩)) dX2_commission_12
