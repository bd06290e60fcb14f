def fX3_set (M : Nat → Nat → Int32) (g : Nat) (a2 : Int32) : (Nat → Nat → Int32) :=
  (up2 (up2 M 2 g a2) 18 g (-1))
set_option maxRecDepth 100000 in
set_option maxHeartbeats 4000000 in
theorem kX3_set (l : Launch) (Z : Zt) (ws : va_W) (q : Nat → Nat) (M : Nat → Nat → Int32) (hF : FI ws 23 q) (g : Nat) (hg : g < 16) (a2 : Int32)  : Ct l Z yX3_set cX3_set 3 none 0 0 0 0 (mw Z ws q M) [.ref (q 0), .int (nI g), .int a2] (fun r w => r = none ∧ w = mw Z ws q (fX3_set M g a2)) := by
  refine Ct.start (by decide) (Nat.le_of_ble_eq_true rfl) ?_
  intro p e s m below meth c S hr hlk hnm hA hW hS ls hl
  replace S : CallFix p m c cX3_set 3 s _ TB RX3 := S
  replace hl : lv_has ls 3 [(0, .ref (q 0)), (1, .int (nI g)), (2, .int a2)] := hl
  refine lv_aload_n S.1 S.2.1 dX3_set_0 rfl (lv_at hl 0 rfl) ?_
  refine m_getA S hA hF hW 1 (by decide) (by decide) tf_X3_7 dX3_set_1 ?_
  refine lv_iload_n S.1 S.2.1 dX3_set_4 rfl (lv_at hl 1 rfl) ?_
  refine lv_iload_n S.1 S.2.1 dX3_set_5 rfl (lv_at hl 2 rfl) ?_
  refine m_ast (x := a2) S hA hF hW hS 1 (by decide) (by decide) rfl hg dX3_set_6 (fun H locs hW hS => ?_)
  refine lv_aload_n S.1 S.2.1 dX3_set_7 rfl (lv_at hl 0 rfl) ?_
  refine m_getA S hA hF hW 17 (by decide) (by decide) tf_X3_59 dX3_set_8 ?_
  refine lv_iload_n S.1 S.2.1 dX3_set_11 rfl (lv_at hl 1 rfl) ?_
  refine lv_iconst (v := (-1)) S.1 S.2.1 dX3_set_12 (by decide) ?_
  refine m_ast (x := (-1)) S hA hF hW hS 17 (by decide) (by decide) rfl hg dX3_set_13 (fun H locs hW hS => ?_)
  exact r_vret S hr hlk hW hS ⟨rfl, congrArg (fun z => mw Z ws q z) (show (up2 (up2 M 2 g a2) 18 g (-1)) = (fX3_set M g a2) from Eq.symm rfl)⟩ dX3_set_14
def fX3_within (M : Nat → Nat → Int32) (g : Nat) (a2 : Int32) : Int32 :=
  (if (M 3 g) ≤ a2 then (if a2 ≤ (M 4 g) then a2 else (M 4 g)) else (M 3 g))
set_option maxRecDepth 100000 in
set_option maxHeartbeats 4000000 in
theorem kX3_within (l : Launch) (Z : Zt) (ws : va_W) (q : Nat → Nat) (M : Nat → Nat → Int32) (hF : FI ws 23 q) (g : Nat) (hg : g < 16) (a2 : Int32)  : Ct l Z yX3_within cX3_within 3 (some .int) 0 0 0 0 (mw Z ws q M) [.ref (q 0), .int (nI g), .int a2] (fun r w => r = some (.int (fX3_within M g a2)) ∧ w = (mw Z ws q M)) := by
  refine Ct.start (by decide) (Nat.le_of_ble_eq_true rfl) ?_
  intro p e s m below meth c S hr hlk hnm hA hW hS ls hl
  replace S : CallFix p m c cX3_within 3 s _ TB RX3 := S
  replace hl : lv_has ls 3 [(0, .ref (q 0)), (1, .int (nI g)), (2, .int a2)] := hl
  refine lv_iload_n S.1 S.2.1 dX3_within_0 rfl (lv_at hl 2 rfl) ?_
  refine lv_aload_n S.1 S.2.1 dX3_within_1 rfl (lv_at hl 0 rfl) ?_
  refine m_getA S hA hF hW 2 (by decide) (by decide) tf_X3_13 dX3_within_2 ?_
  refine lv_iload_n S.1 S.2.1 dX3_within_5 rfl (lv_at hl 1 rfl) ?_
  refine m_ald (x := (M 3 g)) S hA hF hW 2 (by decide) (by decide) rfl hg rfl dX3_within_6 ?_
  refine lv_icmp_ge (tgt := 19) S.1 S.2.1 dX3_within_7 (by decide) (fun c1 => ?_) (fun c1 => ?_)
  · skip
    refine lv_iload_n S.1 S.2.1 dX3_within_19 rfl (lv_at hl 2 rfl) ?_
    refine lv_aload_n S.1 S.2.1 dX3_within_20 rfl (lv_at hl 0 rfl) ?_
    refine m_getA S hA hF hW 3 (by decide) (by decide) tf_X3_16 dX3_within_21 ?_
    refine lv_iload_n S.1 S.2.1 dX3_within_24 rfl (lv_at hl 1 rfl) ?_
    refine m_ald (x := (M 4 g)) S hA hF hW 3 (by decide) (by decide) rfl hg rfl dX3_within_25 ?_
    refine lv_icmp_le (tgt := 38) S.1 S.2.1 dX3_within_26 (by decide) (fun c2 => ?_) (fun c2 => ?_)
    · skip
      refine lv_iload_n S.1 S.2.1 dX3_within_38 rfl (lv_at hl 2 rfl) ?_
      exact r_iret S hr hlk hW hS ⟨congrArg (fun z => some (Value.int z)) (show a2 = (fX3_within M g a2) from Eq.symm (by unfold fX3_within; rw [if_pos c1, if_pos c2])), rfl⟩ dX3_within_39
    · skip
      refine lv_aload_n S.1 S.2.1 dX3_within_29 rfl (lv_at hl 0 rfl) ?_
      refine m_getA S hA hF hW 3 (by decide) (by decide) tf_X3_16 dX3_within_30 ?_
      refine lv_iload_n S.1 S.2.1 dX3_within_33 rfl (lv_at hl 1 rfl) ?_
      refine m_ald (x := (M 4 g)) S hA hF hW 3 (by decide) (by decide) rfl hg rfl dX3_within_34 ?_
      refine lv_goto (tgt := 39) S.1 S.2.1 dX3_within_35 (by decide) ?_
      exact r_iret S hr hlk hW hS ⟨congrArg (fun z => some (Value.int z)) (show (M 4 g) = (fX3_within M g a2) from Eq.symm (by unfold fX3_within; rw [if_pos c1, if_neg c2])), rfl⟩ dX3_within_39
  · skip
    refine lv_aload_n S.1 S.2.1 dX3_within_10 rfl (lv_at hl 0 rfl) ?_
    refine m_getA S hA hF hW 2 (by decide) (by decide) tf_X3_13 dX3_within_11 ?_
    refine lv_iload_n S.1 S.2.1 dX3_within_14 rfl (lv_at hl 1 rfl) ?_
    refine m_ald (x := (M 3 g)) S hA hF hW 2 (by decide) (by decide) rfl hg rfl dX3_within_15 ?_
    refine lv_goto (tgt := 39) S.1 S.2.1 dX3_within_16 (by decide) ?_
    exact r_iret S hr hlk hW hS ⟨congrArg (fun z => some (Value.int z)) (show (M 3 g) = (fX3_within M g a2) from Eq.symm (by unfold fX3_within; rw [if_neg c1])), rfl⟩ dX3_within_39
def fX3_goTo_j1 (M : Nat → Nat → Int32) (g : Nat) (a2 : Int32) (x1 : Int32) : (Nat → Nat → Int32) :=
  (if (M 7 g) = 0 then (fX3_set M g x1) else (if (M 2 g) = 0 then (fX3_set M g x1) else (if x1 = 0 then (if (M 2 g) = (M 3 g) then (fX3_set M g x1) else (up2 (up2 (up2 (up2 M 18 g x1) 19 g (M 2 g)) 20 g (M 22 (M 7 g).toNatClampNeg)) 21 g 0)) else (up2 (up2 (up2 (up2 M 18 g x1) 19 g (M 2 g)) 20 g (M 22 (M 7 g).toNatClampNeg)) 21 g 0))))
def fX3_goTo (M : Nat → Nat → Int32) (g : Nat) (a2 : Int32) : (Nat → Nat → Int32) :=
  (fX3_goTo_j1 M g a2 (if a2 = 0 then 0 else (fX3_within M g a2)))
set_option maxRecDepth 100000 in
set_option maxHeartbeats 4000000 in
theorem kX3_goTo (l : Launch) (Z : Zt) (ws : va_W) (q : Nat → Nat) (M : Nat → Nat → Int32) (hF : FI ws 23 q) (g : Nat) (hg : g < 16) (a2 : Int32) (hfa : vp_in (M 7 g) 16) : Ct l Z yX3_goTo cX3_goTo 4 none 1 22 0 0 (mw Z ws q M) [.ref (q 0), .int (nI g), .int a2] (fun r w => r = none ∧ w = mw Z ws q (fX3_goTo M g a2)) := by
  refine Ct.start (by decide) (Nat.le_of_ble_eq_true rfl) ?_
  intro p e s m below meth c S hr hlk hnm hA hW hS ls hl
  replace S : CallFix p m c cX3_goTo 4 s _ TB RX3 := S
  replace hl : lv_has ls 4 [(0, .ref (q 0)), (1, .int (nI g)), (2, .int a2)] := hl
  refine lv_iload_n S.1 S.2.1 dX3_goTo_0 rfl (lv_at hl 2 rfl) ?_
  refine jn (Z := Z) (tree := (if a2 = 0 then 0 else (fX3_within M g a2))) 14 [] (mw Z ws q M) (fun x1 H locs e1 hW hS => ?_) (fun K1 => ?_)
  · skip
    refine lv_istore_n (lv' := [(3, .int x1), (0, .ref (q 0)), (1, .int (nI g)), (2, .int a2)]) S.1 S.2.1 dX3_goTo_14 rfl hl (by decide) rfl (fun ls hl => ?_)
    refine lv_aload_n S.1 S.2.1 dX3_goTo_15 rfl (lv_at hl 1 rfl) ?_
    refine m_getA S hA hF hW 6 (by decide) (by decide) tf_X3_25 dX3_goTo_16 ?_
    refine lv_iload_n S.1 S.2.1 dX3_goTo_19 rfl (lv_at hl 2 rfl) ?_
    refine m_ald (x := (M 7 g)) S hA hF hW 6 (by decide) (by decide) rfl hg rfl dX3_goTo_20 ?_
    refine lv_if_eq (tgt := 52) S.1 S.2.1 dX3_goTo_21 (by decide) (fun c2 => ?_) (fun c2 => ?_)
    · skip
      refine lv_aload_n S.1 S.2.1 dX3_goTo_52 rfl (lv_at hl 1 rfl) ?_
      refine lv_iload_n S.1 S.2.1 dX3_goTo_53 rfl (lv_at hl 2 rfl) ?_
      refine lv_iload_n S.1 S.2.1 dX3_goTo_54 rfl (lv_at hl 0 rfl) ?_
      refine c_V S hA hW hS (kX3_set l Z ws q M hF g hg x1 ) ok_X3_set tm_X3_101 tn_X3_set tl_X3_set (fo_mem hF 0 (by decide)) rfl rfl ⟨Nat.le_of_ble_eq_true rfl, Nat.le_of_ble_eq_true rfl⟩ rfl hl.1 rfl (Nat.le_of_ble_eq_true rfl) dX3_goTo_55 ⟨Nat.le_of_ble_eq_true rfl, Nat.le_of_ble_eq_true rfl⟩ (kk_v fun H locs hW hS => ?_)
      refine lv_goto (tgt := 104) S.1 S.2.1 dX3_goTo_58 (by decide) ?_
      exact r_vret S hr hlk hW hS ⟨rfl, congrArg (fun z => mw Z ws q z) (show (fX3_set M g x1) = (fX3_goTo M g a2) from Eq.symm (by unfold fX3_goTo; rw [← e1]; unfold fX3_goTo_j1; rw [if_pos c2]))⟩ dX3_goTo_104
    · skip
      refine lv_aload_n S.1 S.2.1 dX3_goTo_24 rfl (lv_at hl 1 rfl) ?_
      refine m_getA S hA hF hW 1 (by decide) (by decide) tf_X3_7 dX3_goTo_25 ?_
      refine lv_iload_n S.1 S.2.1 dX3_goTo_28 rfl (lv_at hl 2 rfl) ?_
      refine m_ald (x := (M 2 g)) S hA hF hW 1 (by decide) (by decide) rfl hg rfl dX3_goTo_29 ?_
      refine lv_if_eq (tgt := 52) S.1 S.2.1 dX3_goTo_30 (by decide) (fun c3 => ?_) (fun c3 => ?_)
      · skip
        refine lv_aload_n S.1 S.2.1 dX3_goTo_52 rfl (lv_at hl 1 rfl) ?_
        refine lv_iload_n S.1 S.2.1 dX3_goTo_53 rfl (lv_at hl 2 rfl) ?_
        refine lv_iload_n S.1 S.2.1 dX3_goTo_54 rfl (lv_at hl 0 rfl) ?_
        refine c_V S hA hW hS (kX3_set l Z ws q M hF g hg x1 ) ok_X3_set tm_X3_101 tn_X3_set tl_X3_set (fo_mem hF 0 (by decide)) rfl rfl ⟨Nat.le_of_ble_eq_true rfl, Nat.le_of_ble_eq_true rfl⟩ rfl hl.1 rfl (Nat.le_of_ble_eq_true rfl) dX3_goTo_55 ⟨Nat.le_of_ble_eq_true rfl, Nat.le_of_ble_eq_true rfl⟩ (kk_v fun H locs hW hS => ?_)
        refine lv_goto (tgt := 104) S.1 S.2.1 dX3_goTo_58 (by decide) ?_
        exact r_vret S hr hlk hW hS ⟨rfl, congrArg (fun z => mw Z ws q z) (show (fX3_set M g x1) = (fX3_goTo M g a2) from Eq.symm (by unfold fX3_goTo; rw [← e1]; unfold fX3_goTo_j1; rw [if_neg c2, if_pos c3]))⟩ dX3_goTo_104
      · skip
        refine lv_iload_n S.1 S.2.1 dX3_goTo_33 rfl (lv_at hl 0 rfl) ?_
        refine lv_if_ne (tgt := 61) S.1 S.2.1 dX3_goTo_34 (by decide) (fun c4 => ?_) (fun c4 => ?_)
        · skip
          refine lv_aload_n S.1 S.2.1 dX3_goTo_61 rfl (lv_at hl 1 rfl) ?_
          refine m_getA S hA hF hW 17 (by decide) (by decide) tf_X3_59 dX3_goTo_62 ?_
          refine lv_iload_n S.1 S.2.1 dX3_goTo_65 rfl (lv_at hl 2 rfl) ?_
          refine lv_iload_n S.1 S.2.1 dX3_goTo_66 rfl (lv_at hl 0 rfl) ?_
          refine m_ast (x := x1) S hA hF hW hS 17 (by decide) (by decide) rfl hg dX3_goTo_67 (fun H locs hW hS => ?_)
          refine lv_aload_n S.1 S.2.1 dX3_goTo_68 rfl (lv_at hl 1 rfl) ?_
          refine m_getA S hA hF hW 18 (by decide) (by decide) tf_X3_62 dX3_goTo_69 ?_
          refine lv_iload_n S.1 S.2.1 dX3_goTo_72 rfl (lv_at hl 2 rfl) ?_
          refine lv_aload_n S.1 S.2.1 dX3_goTo_73 rfl (lv_at hl 1 rfl) ?_
          refine m_getA S hA hF hW 1 (by decide) (by decide) tf_X3_7 dX3_goTo_74 ?_
          refine lv_iload_n S.1 S.2.1 dX3_goTo_77 rfl (lv_at hl 2 rfl) ?_
          refine m_ald (x := (M 2 g)) S hA hF hW 1 (by decide) (by decide) rfl hg (by simp [up2]) dX3_goTo_78 ?_
          refine m_ast (x := (M 2 g)) S hA hF hW hS 18 (by decide) (by decide) rfl hg dX3_goTo_79 (fun H locs hW hS => ?_)
          refine lv_aload_n S.1 S.2.1 dX3_goTo_80 rfl (lv_at hl 1 rfl) ?_
          refine m_getA S hA hF hW 19 (by decide) (by decide) tf_X3_65 dX3_goTo_81 ?_
          refine lv_iload_n S.1 S.2.1 dX3_goTo_84 rfl (lv_at hl 2 rfl) ?_
          refine lv_aload_n S.1 S.2.1 dX3_goTo_85 rfl (lv_at hl 1 rfl) ?_
          refine m_getA S hA hF hW 21 (by decide) (by decide) tf_X3_71 dX3_goTo_86 ?_
          refine lv_aload_n S.1 S.2.1 dX3_goTo_89 rfl (lv_at hl 1 rfl) ?_
          refine m_getA S hA hF hW 6 (by decide) (by decide) tf_X3_25 dX3_goTo_90 ?_
          refine lv_iload_n S.1 S.2.1 dX3_goTo_93 rfl (lv_at hl 2 rfl) ?_
          refine m_ald (x := (M 7 g)) S hA hF hW 6 (by decide) (by decide) rfl hg (by simp [up2]) dX3_goTo_94 ?_
          refine m_aldX (x := (M 22 (M 7 g).toNatClampNeg)) S hA hF hW 21 (by decide) (by decide) rfl hfa (by simp [up2]) dX3_goTo_95 ?_
          refine m_ast (x := (M 22 (M 7 g).toNatClampNeg)) S hA hF hW hS 19 (by decide) (by decide) rfl hg dX3_goTo_96 (fun H locs hW hS => ?_)
          refine lv_aload_n S.1 S.2.1 dX3_goTo_97 rfl (lv_at hl 1 rfl) ?_
          refine m_getA S hA hF hW 20 (by decide) (by decide) tf_X3_68 dX3_goTo_98 ?_
          refine lv_iload_n S.1 S.2.1 dX3_goTo_101 rfl (lv_at hl 2 rfl) ?_
          refine lv_iconst (v := 0) S.1 S.2.1 dX3_goTo_102 (by decide) ?_
          refine m_ast (x := 0) S hA hF hW hS 20 (by decide) (by decide) rfl hg dX3_goTo_103 (fun H locs hW hS => ?_)
          exact r_vret S hr hlk hW hS ⟨rfl, congrArg (fun z => mw Z ws q z) (show (up2 (up2 (up2 (up2 M 18 g x1) 19 g (M 2 g)) 20 g (M 22 (M 7 g).toNatClampNeg)) 21 g 0) = (fX3_goTo M g a2) from Eq.symm (by unfold fX3_goTo; rw [← e1]; unfold fX3_goTo_j1; rw [if_neg c2, if_neg c3, if_neg c4]))⟩ dX3_goTo_104
        · skip
          refine lv_aload_n S.1 S.2.1 dX3_goTo_37 rfl (lv_at hl 1 rfl) ?_
          refine m_getA S hA hF hW 1 (by decide) (by decide) tf_X3_7 dX3_goTo_38 ?_
          refine lv_iload_n S.1 S.2.1 dX3_goTo_41 rfl (lv_at hl 2 rfl) ?_
          refine m_ald (x := (M 2 g)) S hA hF hW 1 (by decide) (by decide) rfl hg rfl dX3_goTo_42 ?_
          refine lv_aload_n S.1 S.2.1 dX3_goTo_43 rfl (lv_at hl 1 rfl) ?_
          refine m_getA S hA hF hW 2 (by decide) (by decide) tf_X3_13 dX3_goTo_44 ?_
          refine lv_iload_n S.1 S.2.1 dX3_goTo_47 rfl (lv_at hl 2 rfl) ?_
          refine m_ald (x := (M 3 g)) S hA hF hW 2 (by decide) (by decide) rfl hg rfl dX3_goTo_48 ?_
          refine lv_icmp_ne (tgt := 61) S.1 S.2.1 dX3_goTo_49 (by decide) (fun c5 => ?_) (fun c5 => ?_)
          · skip
            refine lv_aload_n S.1 S.2.1 dX3_goTo_61 rfl (lv_at hl 1 rfl) ?_
            refine m_getA S hA hF hW 17 (by decide) (by decide) tf_X3_59 dX3_goTo_62 ?_
            refine lv_iload_n S.1 S.2.1 dX3_goTo_65 rfl (lv_at hl 2 rfl) ?_
            refine lv_iload_n S.1 S.2.1 dX3_goTo_66 rfl (lv_at hl 0 rfl) ?_
            refine m_ast (x := x1) S hA hF hW hS 17 (by decide) (by decide) rfl hg dX3_goTo_67 (fun H locs hW hS => ?_)
            refine lv_aload_n S.1 S.2.1 dX3_goTo_68 rfl (lv_at hl 1 rfl) ?_
            refine m_getA S hA hF hW 18 (by decide) (by decide) tf_X3_62 dX3_goTo_69 ?_
            refine lv_iload_n S.1 S.2.1 dX3_goTo_72 rfl (lv_at hl 2 rfl) ?_
            refine lv_aload_n S.1 S.2.1 dX3_goTo_73 rfl (lv_at hl 1 rfl) ?_
            refine m_getA S hA hF hW 1 (by decide) (by decide) tf_X3_7 dX3_goTo_74 ?_
            refine lv_iload_n S.1 S.2.1 dX3_goTo_77 rfl (lv_at hl 2 rfl) ?_
            refine m_ald (x := (M 2 g)) S hA hF hW 1 (by decide) (by decide) rfl hg (by simp [up2]) dX3_goTo_78 ?_
            refine m_ast (x := (M 2 g)) S hA hF hW hS 18 (by decide) (by decide) rfl hg dX3_goTo_79 (fun H locs hW hS => ?_)
            refine lv_aload_n S.1 S.2.1 dX3_goTo_80 rfl (lv_at hl 1 rfl) ?_
            refine m_getA S hA hF hW 19 (by decide) (by decide) tf_X3_65 dX3_goTo_81 ?_
            refine lv_iload_n S.1 S.2.1 dX3_goTo_84 rfl (lv_at hl 2 rfl) ?_
            refine lv_aload_n S.1 S.2.1 dX3_goTo_85 rfl (lv_at hl 1 rfl) ?_
            refine m_getA S hA hF hW 21 (by decide) (by decide) tf_X3_71 dX3_goTo_86 ?_
            refine lv_aload_n S.1 S.2.1 dX3_goTo_89 rfl (lv_at hl 1 rfl) ?_
            refine m_getA S hA hF hW 6 (by decide) (by decide) tf_X3_25 dX3_goTo_90 ?_
            refine lv_iload_n S.1 S.2.1 dX3_goTo_93 rfl (lv_at hl 2 rfl) ?_
            refine m_ald (x := (M 7 g)) S hA hF hW 6 (by decide) (by decide) rfl hg (by simp [up2]) dX3_goTo_94 ?_
            refine m_aldX (x := (M 22 (M 7 g).toNatClampNeg)) S hA hF hW 21 (by decide) (by decide) rfl hfa (by simp [up2]) dX3_goTo_95 ?_
            refine m_ast (x := (M 22 (M 7 g).toNatClampNeg)) S hA hF hW hS 19 (by decide) (by decide) rfl hg dX3_goTo_96 (fun H locs hW hS => ?_)
            refine lv_aload_n S.1 S.2.1 dX3_goTo_97 rfl (lv_at hl 1 rfl) ?_
            refine m_getA S hA hF hW 20 (by decide) (by decide) tf_X3_68 dX3_goTo_98 ?_
            refine lv_iload_n S.1 S.2.1 dX3_goTo_101 rfl (lv_at hl 2 rfl) ?_
            refine lv_iconst (v := 0) S.1 S.2.1 dX3_goTo_102 (by decide) ?_
            refine m_ast (x := 0) S hA hF hW hS 20 (by decide) (by decide) rfl hg dX3_goTo_103 (fun H locs hW hS => ?_)
            exact r_vret S hr hlk hW hS ⟨rfl, congrArg (fun z => mw Z ws q z) (show (up2 (up2 (up2 (up2 M 18 g x1) 19 g (M 2 g)) 20 g (M 22 (M 7 g).toNatClampNeg)) 21 g 0) = (fX3_goTo M g a2) from Eq.symm (by unfold fX3_goTo; rw [← e1]; unfold fX3_goTo_j1; rw [if_neg c2, if_neg c3, if_pos c4, if_neg c5]))⟩ dX3_goTo_104
          · skip
            refine lv_aload_n S.1 S.2.1 dX3_goTo_52 rfl (lv_at hl 1 rfl) ?_
            refine lv_iload_n S.1 S.2.1 dX3_goTo_53 rfl (lv_at hl 2 rfl) ?_
            refine lv_iload_n S.1 S.2.1 dX3_goTo_54 rfl (lv_at hl 0 rfl) ?_
            refine c_V S hA hW hS (kX3_set l Z ws q M hF g hg x1 ) ok_X3_set tm_X3_101 tn_X3_set tl_X3_set (fo_mem hF 0 (by decide)) rfl rfl ⟨Nat.le_of_ble_eq_true rfl, Nat.le_of_ble_eq_true rfl⟩ rfl hl.1 rfl (Nat.le_of_ble_eq_true rfl) dX3_goTo_55 ⟨Nat.le_of_ble_eq_true rfl, Nat.le_of_ble_eq_true rfl⟩ (kk_v fun H locs hW hS => ?_)
            refine lv_goto (tgt := 104) S.1 S.2.1 dX3_goTo_58 (by decide) ?_
            exact r_vret S hr hlk hW hS ⟨rfl, congrArg (fun z => mw Z ws q z) (show (fX3_set M g x1) = (fX3_goTo M g a2) from Eq.symm (by unfold fX3_goTo; rw [← e1]; unfold fX3_goTo_j1; rw [if_neg c2, if_neg c3, if_pos c4, if_pos c5]))⟩ dX3_goTo_104
  · skip
    refine lv_if_ne (tgt := 8) S.1 S.2.1 dX3_goTo_1 (by decide) (fun c6 => ?_) (fun c6 => ?_)
    · skip
      refine lv_aload_n S.1 S.2.1 dX3_goTo_8 rfl (lv_at hl 0 rfl) ?_
      refine lv_iload_n S.1 S.2.1 dX3_goTo_9 rfl (lv_at hl 1 rfl) ?_
      refine lv_iload_n S.1 S.2.1 dX3_goTo_10 rfl (lv_at hl 2 rfl) ?_
      refine c_V S hA hW hS (kX3_within l Z ws q M hF g hg a2 ) ok_X3_within tm_X3_97 tn_X3_within tl_X3_within (fo_mem hF 0 (by decide)) rfl rfl ⟨Nat.le_of_ble_eq_true rfl, Nat.le_of_ble_eq_true rfl⟩ rfl hl.1 rfl (Nat.le_of_ble_eq_true rfl) dX3_goTo_11 ⟨Nat.le_of_ble_eq_true rfl, Nat.le_of_ble_eq_true rfl⟩ (kk_i fun H locs hW hS => ?_)
      exact K1 _ _ _ (by rw [if_neg c6]) hW hS
    · skip
      refine lv_iconst (v := 0) S.1 S.2.1 dX3_goTo_4 (by decide) ?_
      refine lv_goto (tgt := 14) S.1 S.2.1 dX3_goTo_5 (by decide) ?_
      exact K1 _ _ _ (by rw [if_pos c6]) hW hS
def fX3_step (M : Nat → Nat → Int32) (g : Nat) (a2 : Int32) : (Nat → Nat → Int32) :=
  (if (M 2 g) ≤ 0 then M else (fX3_set M g (fX3_within M g ((M 2 g) + a2))))
set_option maxRecDepth 100000 in
set_option maxHeartbeats 4000000 in
theorem kX3_step (l : Launch) (Z : Zt) (ws : va_W) (q : Nat → Nat) (M : Nat → Nat → Int32) (hF : FI ws 23 q) (g : Nat) (hg : g < 16) (a2 : Int32)  : Ct l Z yX3_step cX3_step 3 none 1 22 0 0 (mw Z ws q M) [.ref (q 0), .int (nI g), .int a2] (fun r w => r = none ∧ w = mw Z ws q (fX3_step M g a2)) := by
  refine Ct.start (by decide) (Nat.le_of_ble_eq_true rfl) ?_
  intro p e s m below meth c S hr hlk hnm hA hW hS ls hl
  replace S : CallFix p m c cX3_step 3 s _ TB RX3 := S
  replace hl : lv_has ls 3 [(0, .ref (q 0)), (1, .int (nI g)), (2, .int a2)] := hl
  refine lv_aload_n S.1 S.2.1 dX3_step_0 rfl (lv_at hl 0 rfl) ?_
  refine m_getA S hA hF hW 1 (by decide) (by decide) tf_X3_7 dX3_step_1 ?_
  refine lv_iload_n S.1 S.2.1 dX3_step_4 rfl (lv_at hl 1 rfl) ?_
  refine m_ald (x := (M 2 g)) S hA hF hW 1 (by decide) (by decide) rfl hg rfl dX3_step_5 ?_
  refine lv_if_le (tgt := 27) S.1 S.2.1 dX3_step_6 (by decide) (fun c1 => ?_) (fun c1 => ?_)
  · skip
    exact r_vret S hr hlk hW hS ⟨rfl, congrArg (fun z => mw Z ws q z) (show M = (fX3_step M g a2) from Eq.symm (by unfold fX3_step; rw [if_pos c1]))⟩ dX3_step_27
  · skip
    refine lv_aload_n S.1 S.2.1 dX3_step_9 rfl (lv_at hl 0 rfl) ?_
    refine lv_iload_n S.1 S.2.1 dX3_step_10 rfl (lv_at hl 1 rfl) ?_
    refine lv_aload_n S.1 S.2.1 dX3_step_11 rfl (lv_at hl 0 rfl) ?_
    refine lv_iload_n S.1 S.2.1 dX3_step_12 rfl (lv_at hl 1 rfl) ?_
    refine lv_aload_n S.1 S.2.1 dX3_step_13 rfl (lv_at hl 0 rfl) ?_
    refine m_getA S hA hF hW 1 (by decide) (by decide) tf_X3_7 dX3_step_14 ?_
    refine lv_iload_n S.1 S.2.1 dX3_step_17 rfl (lv_at hl 1 rfl) ?_
    refine m_ald (x := (M 2 g)) S hA hF hW 1 (by decide) (by decide) rfl hg rfl dX3_step_18 ?_
    refine lv_iload_n S.1 S.2.1 dX3_step_19 rfl (lv_at hl 2 rfl) ?_
    refine lv_iadd S.1 S.2.1 dX3_step_20 ?_
    refine c_V S hA hW hS (kX3_within l Z ws q M hF g hg ((M 2 g) + a2) ) ok_X3_within tm_X3_97 tn_X3_within tl_X3_within (fo_mem hF 0 (by decide)) rfl rfl ⟨Nat.le_of_ble_eq_true rfl, Nat.le_of_ble_eq_true rfl⟩ rfl hl.1 rfl (Nat.le_of_ble_eq_true rfl) dX3_step_21 ⟨Nat.le_of_ble_eq_true rfl, Nat.le_of_ble_eq_true rfl⟩ (kk_i fun H locs hW hS => ?_)
    refine c_V S hA hW hS (kX3_set l Z ws q M hF g hg (fX3_within M g ((M 2 g) + a2)) ) ok_X3_set tm_X3_101 tn_X3_set tl_X3_set (fo_mem hF 0 (by decide)) rfl rfl ⟨Nat.le_of_ble_eq_true rfl, Nat.le_of_ble_eq_true rfl⟩ rfl hl.1 rfl (Nat.le_of_ble_eq_true rfl) dX3_step_24 ⟨Nat.le_of_ble_eq_true rfl, Nat.le_of_ble_eq_true rfl⟩ (kk_v fun H locs hW hS => ?_)
    exact r_vret S hr hlk hW hS ⟨rfl, congrArg (fun z => mw Z ws q z) (show (fX3_set M g (fX3_within M g ((M 2 g) + a2))) = (fX3_step M g a2) from Eq.symm (by unfold fX3_step; rw [if_neg c1]))⟩ dX3_step_27
def fX3_bring (M : Nat → Nat → Int32) (g : Nat) : (Nat → Nat → Int32) :=
  (if (M 2 g) ≤ 0 then M else (fX3_set M g (fX3_within M g (M 2 g))))
set_option maxRecDepth 100000 in
set_option maxHeartbeats 4000000 in
theorem kX3_bring (l : Launch) (Z : Zt) (ws : va_W) (q : Nat → Nat) (M : Nat → Nat → Int32) (hF : FI ws 23 q) (g : Nat) (hg : g < 16)   : Ct l Z yX3_bring cX3_bring 2 none 1 22 0 0 (mw Z ws q M) [.ref (q 0), .int (nI g)] (fun r w => r = none ∧ w = mw Z ws q (fX3_bring M g)) := by
  refine Ct.start (by decide) (Nat.le_of_ble_eq_true rfl) ?_
  intro p e s m below meth c S hr hlk hnm hA hW hS ls hl
  replace S : CallFix p m c cX3_bring 2 s _ TB RX3 := S
  replace hl : lv_has ls 2 [(0, .ref (q 0)), (1, .int (nI g))] := hl
  refine lv_aload_n S.1 S.2.1 dX3_bring_0 rfl (lv_at hl 0 rfl) ?_
  refine m_getA S hA hF hW 1 (by decide) (by decide) tf_X3_7 dX3_bring_1 ?_
  refine lv_iload_n S.1 S.2.1 dX3_bring_4 rfl (lv_at hl 1 rfl) ?_
  refine m_ald (x := (M 2 g)) S hA hF hW 1 (by decide) (by decide) rfl hg rfl dX3_bring_5 ?_
  refine lv_if_le (tgt := 25) S.1 S.2.1 dX3_bring_6 (by decide) (fun c1 => ?_) (fun c1 => ?_)
  · skip
    exact r_vret S hr hlk hW hS ⟨rfl, congrArg (fun z => mw Z ws q z) (show M = (fX3_bring M g) from Eq.symm (by unfold fX3_bring; rw [if_pos c1]))⟩ dX3_bring_25
  · skip
    refine lv_aload_n S.1 S.2.1 dX3_bring_9 rfl (lv_at hl 0 rfl) ?_
    refine lv_iload_n S.1 S.2.1 dX3_bring_10 rfl (lv_at hl 1 rfl) ?_
    refine lv_aload_n S.1 S.2.1 dX3_bring_11 rfl (lv_at hl 0 rfl) ?_
    refine lv_iload_n S.1 S.2.1 dX3_bring_12 rfl (lv_at hl 1 rfl) ?_
    refine lv_aload_n S.1 S.2.1 dX3_bring_13 rfl (lv_at hl 0 rfl) ?_
    refine m_getA S hA hF hW 1 (by decide) (by decide) tf_X3_7 dX3_bring_14 ?_
    refine lv_iload_n S.1 S.2.1 dX3_bring_17 rfl (lv_at hl 1 rfl) ?_
    refine m_ald (x := (M 2 g)) S hA hF hW 1 (by decide) (by decide) rfl hg rfl dX3_bring_18 ?_
    refine c_V S hA hW hS (kX3_within l Z ws q M hF g hg (M 2 g) ) ok_X3_within tm_X3_97 tn_X3_within tl_X3_within (fo_mem hF 0 (by decide)) rfl rfl ⟨Nat.le_of_ble_eq_true rfl, Nat.le_of_ble_eq_true rfl⟩ rfl hl.1 rfl (Nat.le_of_ble_eq_true rfl) dX3_bring_19 ⟨Nat.le_of_ble_eq_true rfl, Nat.le_of_ble_eq_true rfl⟩ (kk_i fun H locs hW hS => ?_)
    refine c_V S hA hW hS (kX3_set l Z ws q M hF g hg (fX3_within M g (M 2 g)) ) ok_X3_set tm_X3_101 tn_X3_set tl_X3_set (fo_mem hF 0 (by decide)) rfl rfl ⟨Nat.le_of_ble_eq_true rfl, Nat.le_of_ble_eq_true rfl⟩ rfl hl.1 rfl (Nat.le_of_ble_eq_true rfl) dX3_bring_22 ⟨Nat.le_of_ble_eq_true rfl, Nat.le_of_ble_eq_true rfl⟩ (kk_v fun H locs hW hS => ?_)
    exact r_vret S hr hlk hW hS ⟨rfl, congrArg (fun z => mw Z ws q z) (show (fX3_set M g (fX3_within M g (M 2 g))) = (fX3_bring M g) from Eq.symm (by unfold fX3_bring; rw [if_neg c1]))⟩ dX3_bring_25
def fX3_say_j1 (M : Nat → Nat → Int32) (a1 : Int32) (x1 : Int32) : (Nat → Nat → Int32) :=
  (up2 M 29 0 x1)
def fX3_say (M : Nat → Nat → Int32) (a1 : Int32) : (Nat → Nat → Int32) :=
  (fX3_say_j1 M a1 (if (M 29 0) = (-1) then a1 else (if (M 29 0) = a1 then a1 else 256)))
set_option maxRecDepth 100000 in
set_option maxHeartbeats 4000000 in
theorem kX3_say (l : Launch) (Z : Zt) (ws : va_W) (q : Nat → Nat) (M : Nat → Nat → Int32) (hF : FI ws 23 q) (a1 : Int32)  : Ct l Z yX3_say cX3_say 2 none 0 0 0 0 (mw Z ws q M) [.ref (q 0), .int a1] (fun r w => r = none ∧ w = mw Z ws q (fX3_say M a1)) := by
  refine Ct.start (by decide) (Nat.le_of_ble_eq_true rfl) ?_
  intro p e s m below meth c S hr hlk hnm hA hW hS ls hl
  replace S : CallFix p m c cX3_say 2 s _ TB RX3 := S
  replace hl : lv_has ls 2 [(0, .ref (q 0)), (1, .int a1)] := hl
  refine lv_aload_n S.1 S.2.1 dX3_say_0 rfl (lv_at hl 0 rfl) ?_
  refine lv_aload_n S.1 S.2.1 dX3_say_1 rfl (lv_at hl 0 rfl) ?_
  refine m_get (x := (M 29 0)) S hA hF hW 29 (by decide) (by decide) tf_X3_105 rfl dX3_say_2 ?_
  refine lv_iconst (v := (-1)) S.1 S.2.1 dX3_say_5 (by decide) ?_
  refine jn (Z := Z) (tree := (if (M 29 0) = (-1) then a1 else (if (M 29 0) = a1 then a1 else 256))) 24 [.ref (q 0)] (mw Z ws q M) (fun x1 H locs e1 hW hS => ?_) (fun K1 => ?_)
  · skip
    refine m_put (x := x1) S hA hF hW hS 29 (by decide) (by decide) tf_X3_105 rfl rfl rfl dX3_say_24 (fun H locs hW hS => ?_)
    exact r_vret S hr hlk hW hS ⟨rfl, congrArg (fun z => mw Z ws q z) (show (up2 M 29 0 x1) = (fX3_say M a1) from Eq.symm (by first | rfl | (unfold fX3_say; rw [← e1]; unfold fX3_say_j1; done) | (unfold fX3_say; rw [← e1]; unfold fX3_say_j1; rfl)))⟩ dX3_say_27
  · skip
    refine lv_icmp_eq (tgt := 17) S.1 S.2.1 dX3_say_6 (by decide) (fun c2 => ?_) (fun c2 => ?_)
    · skip
      refine lv_iload_n S.1 S.2.1 dX3_say_17 rfl (lv_at hl 1 rfl) ?_
      refine lv_goto (tgt := 24) S.1 S.2.1 dX3_say_18 (by decide) ?_
      exact K1 _ _ _ (by rw [if_pos c2]) hW hS
    · skip
      refine lv_aload_n S.1 S.2.1 dX3_say_9 rfl (lv_at hl 0 rfl) ?_
      refine m_get (x := (M 29 0)) S hA hF hW 29 (by decide) (by decide) tf_X3_105 rfl dX3_say_10 ?_
      refine lv_iload_n S.1 S.2.1 dX3_say_13 rfl (lv_at hl 1 rfl) ?_
      refine lv_icmp_ne (tgt := 21) S.1 S.2.1 dX3_say_14 (by decide) (fun c3 => ?_) (fun c3 => ?_)
      · skip
        refine lv_sipush (v := 256) S.1 S.2.1 dX3_say_21 (by decide) ?_
        exact K1 _ _ _ (by rw [if_neg c2, if_neg c3]) hW hS
      · skip
        refine lv_iload_n S.1 S.2.1 dX3_say_17 rfl (lv_at hl 1 rfl) ?_
        refine lv_goto (tgt := 24) S.1 S.2.1 dX3_say_18 (by decide) ?_
        exact K1 _ _ _ (by rw [if_neg c2, if_pos c3]) hW hS
def fX3_level_j9 (M : Nat → Nat → Int32) (g : Nat) (a2 : Int32) (x9 : Int32) : (Nat → Nat → Int32) :=
  (fX3_set M g x9)
def fX3_level_j11 (M : Nat → Nat → Int32) (g : Nat) (a2 : Int32) (x11 : Int32) : (Nat → Nat → Int32) :=
  (fX3_set M g x11)
def fX3_level (M : Nat → Nat → Int32) (g : Nat) (a2 : Int32) : (Nat → Nat → Int32) :=
  (if a2 = 0 then (fX3_set M g 0) else (if a2 = 1 then (fX3_step M g (M 23 (M 8 g).toNatClampNeg)) else (if a2 = 2 then (fX3_step M g (-(M 23 (M 8 g).toNatClampNeg))) else (if a2 = 3 then (fX3_step M g 1) else (if a2 = 4 then (fX3_step M g (-1)) else (if a2 = 5 then (fX3_set M g (M 4 g)) else (if a2 = 6 then (fX3_set M g (M 3 g)) else (if a2 = 7 then (fX3_level_j9 M g a2 (if (M 3 g) < (M 2 g) then ((M 2 g) - 1) else 0)) else (fX3_level_j11 M g a2 (if (M 2 g) = 0 then (M 3 g) else (fX3_within M g ((M 2 g) + 1))))))))))))
set_option maxRecDepth 100000 in
set_option maxHeartbeats 4000000 in
theorem kX3_level (l : Launch) (Z : Zt) (ws : va_W) (q : Nat → Nat) (M : Nat → Nat → Int32) (hF : FI ws 23 q) (g : Nat) (hg : g < 16) (a2 : Int32) (hra : vp_in (M 8 g) 16) : Ct l Z yX3_level cX3_level 4 none 2 44 0 0 (mw Z ws q M) [.ref (q 0), .int (nI g), .int a2] (fun r w => r = none ∧ w = mw Z ws q (fX3_level M g a2)) := by
  refine Ct.start (by decide) (Nat.le_of_ble_eq_true rfl) ?_
  intro p e s m below meth c S hr hlk hnm hA hW hS ls hl
  replace S : CallFix p m c cX3_level 4 s _ TB RX3 := S
  replace hl : lv_has ls 4 [(0, .ref (q 0)), (1, .int (nI g)), (2, .int a2)] := hl
  refine lv_aload_n S.1 S.2.1 dX3_level_0 rfl (lv_at hl 0 rfl) ?_
  refine m_getA S hA hF hW 22 (by decide) (by decide) tf_X3_74 dX3_level_1 ?_
  refine lv_aload_n S.1 S.2.1 dX3_level_4 rfl (lv_at hl 0 rfl) ?_
  refine m_getA S hA hF hW 7 (by decide) (by decide) tf_X3_28 dX3_level_5 ?_
  refine lv_iload_n S.1 S.2.1 dX3_level_8 rfl (lv_at hl 1 rfl) ?_
  refine m_ald (x := (M 8 g)) S hA hF hW 7 (by decide) (by decide) rfl hg rfl dX3_level_9 ?_
  refine m_aldX (x := (M 23 (M 8 g).toNatClampNeg)) S hA hF hW 22 (by decide) (by decide) rfl hra rfl dX3_level_10 ?_
  refine lv_istore_n (lv' := [(3, .int (M 23 (M 8 g).toNatClampNeg)), (0, .ref (q 0)), (1, .int (nI g)), (2, .int a2)]) S.1 S.2.1 dX3_level_11 rfl hl (by decide) rfl (fun ls hl => ?_)
  refine lv_iload_n S.1 S.2.1 dX3_level_12 rfl (lv_at hl 3 rfl) ?_
  by_cases c1 : a2 = 0
  · refine lv_tableIn (off := 47) (tgt := 60) S.1 S.2.1 dX3_level_13 (by rw [c1]; decide) (by rw [c1]; decide) (by rw [c1]; rfl) (by decide) ?_
    refine lv_aload_n S.1 S.2.1 dX3_level_60 rfl (lv_at hl 1 rfl) ?_
    refine lv_iload_n S.1 S.2.1 dX3_level_61 rfl (lv_at hl 2 rfl) ?_
    refine lv_iconst (v := 0) S.1 S.2.1 dX3_level_62 (by decide) ?_
    refine c_V S hA hW hS (kX3_set l Z ws q M hF g hg 0 ) ok_X3_set tm_X3_101 tn_X3_set tl_X3_set (fo_mem hF 0 (by decide)) rfl rfl ⟨Nat.le_of_ble_eq_true rfl, Nat.le_of_ble_eq_true rfl⟩ rfl hl.1 rfl (Nat.le_of_ble_eq_true rfl) dX3_level_63 ⟨Nat.le_of_ble_eq_true rfl, Nat.le_of_ble_eq_true rfl⟩ (kk_v fun H locs hW hS => ?_)
    refine lv_goto (tgt := 205) S.1 S.2.1 dX3_level_66 (by decide) ?_
    exact r_vret S hr hlk hW hS ⟨rfl, congrArg (fun z => mw Z ws q z) (show (fX3_set M g 0) = (fX3_level M g a2) from Eq.symm (by unfold fX3_level; rw [if_pos c1]))⟩ dX3_level_205
  by_cases c2 : a2 = 1
  · refine lv_tableIn (off := 56) (tgt := 69) S.1 S.2.1 dX3_level_13 (by rw [c2]; decide) (by rw [c2]; decide) (by rw [c2]; rfl) (by decide) ?_
    refine lv_aload_n S.1 S.2.1 dX3_level_69 rfl (lv_at hl 1 rfl) ?_
    refine lv_iload_n S.1 S.2.1 dX3_level_70 rfl (lv_at hl 2 rfl) ?_
    refine lv_iload_n S.1 S.2.1 dX3_level_71 rfl (lv_at hl 0 rfl) ?_
    refine c_V S hA hW hS (kX3_step l Z ws q M hF g hg (M 23 (M 8 g).toNatClampNeg) ) ok_X3_step tm_X3_120 tn_X3_step tl_X3_step (fo_mem hF 0 (by decide)) rfl rfl ⟨Nat.le_of_ble_eq_true rfl, Nat.le_of_ble_eq_true rfl⟩ rfl hl.1 rfl (Nat.le_of_ble_eq_true rfl) dX3_level_72 ⟨Nat.le_of_ble_eq_true rfl, Nat.le_of_ble_eq_true rfl⟩ (kk_v fun H locs hW hS => ?_)
    refine lv_goto (tgt := 205) S.1 S.2.1 dX3_level_75 (by decide) ?_
    exact r_vret S hr hlk hW hS ⟨rfl, congrArg (fun z => mw Z ws q z) (show (fX3_step M g (M 23 (M 8 g).toNatClampNeg)) = (fX3_level M g a2) from Eq.symm (by unfold fX3_level; rw [if_neg c1, if_pos c2]))⟩ dX3_level_205
  by_cases c3 : a2 = 2
  · refine lv_tableIn (off := 65) (tgt := 78) S.1 S.2.1 dX3_level_13 (by rw [c3]; decide) (by rw [c3]; decide) (by rw [c3]; rfl) (by decide) ?_
    refine lv_aload_n S.1 S.2.1 dX3_level_78 rfl (lv_at hl 1 rfl) ?_
    refine lv_iload_n S.1 S.2.1 dX3_level_79 rfl (lv_at hl 2 rfl) ?_
    refine lv_iload_n S.1 S.2.1 dX3_level_80 rfl (lv_at hl 0 rfl) ?_
    refine lv_ineg S.1 S.2.1 dX3_level_81 ?_
    refine c_V S hA hW hS (kX3_step l Z ws q M hF g hg (-(M 23 (M 8 g).toNatClampNeg)) ) ok_X3_step tm_X3_120 tn_X3_step tl_X3_step (fo_mem hF 0 (by decide)) rfl rfl ⟨Nat.le_of_ble_eq_true rfl, Nat.le_of_ble_eq_true rfl⟩ rfl hl.1 rfl (Nat.le_of_ble_eq_true rfl) dX3_level_82 ⟨Nat.le_of_ble_eq_true rfl, Nat.le_of_ble_eq_true rfl⟩ (kk_v fun H locs hW hS => ?_)
    refine lv_goto (tgt := 205) S.1 S.2.1 dX3_level_85 (by decide) ?_
    exact r_vret S hr hlk hW hS ⟨rfl, congrArg (fun z => mw Z ws q z) (show (fX3_step M g (-(M 23 (M 8 g).toNatClampNeg))) = (fX3_level M g a2) from Eq.symm (by unfold fX3_level; rw [if_neg c1, if_neg c2, if_pos c3]))⟩ dX3_level_205
  by_cases c4 : a2 = 3
  · refine lv_tableIn (off := 75) (tgt := 88) S.1 S.2.1 dX3_level_13 (by rw [c4]; decide) (by rw [c4]; decide) (by rw [c4]; rfl) (by decide) ?_
    refine lv_aload_n S.1 S.2.1 dX3_level_88 rfl (lv_at hl 1 rfl) ?_
    refine lv_iload_n S.1 S.2.1 dX3_level_89 rfl (lv_at hl 2 rfl) ?_
    refine lv_iconst (v := 1) S.1 S.2.1 dX3_level_90 (by decide) ?_
    refine c_V S hA hW hS (kX3_step l Z ws q M hF g hg 1 ) ok_X3_step tm_X3_120 tn_X3_step tl_X3_step (fo_mem hF 0 (by decide)) rfl rfl ⟨Nat.le_of_ble_eq_true rfl, Nat.le_of_ble_eq_true rfl⟩ rfl hl.1 rfl (Nat.le_of_ble_eq_true rfl) dX3_level_91 ⟨Nat.le_of_ble_eq_true rfl, Nat.le_of_ble_eq_true rfl⟩ (kk_v fun H locs hW hS => ?_)
    refine lv_goto (tgt := 205) S.1 S.2.1 dX3_level_94 (by decide) ?_
    exact r_vret S hr hlk hW hS ⟨rfl, congrArg (fun z => mw Z ws q z) (show (fX3_step M g 1) = (fX3_level M g a2) from Eq.symm (by unfold fX3_level; rw [if_neg c1, if_neg c2, if_neg c3, if_pos c4]))⟩ dX3_level_205
  by_cases c5 : a2 = 4
  · refine lv_tableIn (off := 84) (tgt := 97) S.1 S.2.1 dX3_level_13 (by rw [c5]; decide) (by rw [c5]; decide) (by rw [c5]; rfl) (by decide) ?_
    refine lv_aload_n S.1 S.2.1 dX3_level_97 rfl (lv_at hl 1 rfl) ?_
    refine lv_iload_n S.1 S.2.1 dX3_level_98 rfl (lv_at hl 2 rfl) ?_
    refine lv_iconst (v := (-1)) S.1 S.2.1 dX3_level_99 (by decide) ?_
    refine c_V S hA hW hS (kX3_step l Z ws q M hF g hg (-1) ) ok_X3_step tm_X3_120 tn_X3_step tl_X3_step (fo_mem hF 0 (by decide)) rfl rfl ⟨Nat.le_of_ble_eq_true rfl, Nat.le_of_ble_eq_true rfl⟩ rfl hl.1 rfl (Nat.le_of_ble_eq_true rfl) dX3_level_100 ⟨Nat.le_of_ble_eq_true rfl, Nat.le_of_ble_eq_true rfl⟩ (kk_v fun H locs hW hS => ?_)
    refine lv_goto (tgt := 205) S.1 S.2.1 dX3_level_103 (by decide) ?_
    exact r_vret S hr hlk hW hS ⟨rfl, congrArg (fun z => mw Z ws q z) (show (fX3_step M g (-1)) = (fX3_level M g a2) from Eq.symm (by unfold fX3_level; rw [if_neg c1, if_neg c2, if_neg c3, if_neg c4, if_pos c5]))⟩ dX3_level_205
  by_cases c6 : a2 = 5
  · refine lv_tableIn (off := 93) (tgt := 106) S.1 S.2.1 dX3_level_13 (by rw [c6]; decide) (by rw [c6]; decide) (by rw [c6]; rfl) (by decide) ?_
    refine lv_aload_n S.1 S.2.1 dX3_level_106 rfl (lv_at hl 1 rfl) ?_
    refine lv_iload_n S.1 S.2.1 dX3_level_107 rfl (lv_at hl 2 rfl) ?_
    refine lv_aload_n S.1 S.2.1 dX3_level_108 rfl (lv_at hl 1 rfl) ?_
    refine m_getA S hA hF hW 3 (by decide) (by decide) tf_X3_16 dX3_level_109 ?_
    refine lv_iload_n S.1 S.2.1 dX3_level_112 rfl (lv_at hl 2 rfl) ?_
    refine m_ald (x := (M 4 g)) S hA hF hW 3 (by decide) (by decide) rfl hg rfl dX3_level_113 ?_
    refine c_V S hA hW hS (kX3_set l Z ws q M hF g hg (M 4 g) ) ok_X3_set tm_X3_101 tn_X3_set tl_X3_set (fo_mem hF 0 (by decide)) rfl rfl ⟨Nat.le_of_ble_eq_true rfl, Nat.le_of_ble_eq_true rfl⟩ rfl hl.1 rfl (Nat.le_of_ble_eq_true rfl) dX3_level_114 ⟨Nat.le_of_ble_eq_true rfl, Nat.le_of_ble_eq_true rfl⟩ (kk_v fun H locs hW hS => ?_)
    refine lv_goto (tgt := 205) S.1 S.2.1 dX3_level_117 (by decide) ?_
    exact r_vret S hr hlk hW hS ⟨rfl, congrArg (fun z => mw Z ws q z) (show (fX3_set M g (M 4 g)) = (fX3_level M g a2) from Eq.symm (by unfold fX3_level; rw [if_neg c1, if_neg c2, if_neg c3, if_neg c4, if_neg c5, if_pos c6]))⟩ dX3_level_205
  by_cases c7 : a2 = 6
  · refine lv_tableIn (off := 107) (tgt := 120) S.1 S.2.1 dX3_level_13 (by rw [c7]; decide) (by rw [c7]; decide) (by rw [c7]; rfl) (by decide) ?_
    refine lv_aload_n S.1 S.2.1 dX3_level_120 rfl (lv_at hl 1 rfl) ?_
    refine lv_iload_n S.1 S.2.1 dX3_level_121 rfl (lv_at hl 2 rfl) ?_
    refine lv_aload_n S.1 S.2.1 dX3_level_122 rfl (lv_at hl 1 rfl) ?_
    refine m_getA S hA hF hW 2 (by decide) (by decide) tf_X3_13 dX3_level_123 ?_
    refine lv_iload_n S.1 S.2.1 dX3_level_126 rfl (lv_at hl 2 rfl) ?_
    refine m_ald (x := (M 3 g)) S hA hF hW 2 (by decide) (by decide) rfl hg rfl dX3_level_127 ?_
    refine c_V S hA hW hS (kX3_set l Z ws q M hF g hg (M 3 g) ) ok_X3_set tm_X3_101 tn_X3_set tl_X3_set (fo_mem hF 0 (by decide)) rfl rfl ⟨Nat.le_of_ble_eq_true rfl, Nat.le_of_ble_eq_true rfl⟩ rfl hl.1 rfl (Nat.le_of_ble_eq_true rfl) dX3_level_128 ⟨Nat.le_of_ble_eq_true rfl, Nat.le_of_ble_eq_true rfl⟩ (kk_v fun H locs hW hS => ?_)
    refine lv_goto (tgt := 205) S.1 S.2.1 dX3_level_131 (by decide) ?_
    exact r_vret S hr hlk hW hS ⟨rfl, congrArg (fun z => mw Z ws q z) (show (fX3_set M g (M 3 g)) = (fX3_level M g a2) from Eq.symm (by unfold fX3_level; rw [if_neg c1, if_neg c2, if_neg c3, if_neg c4, if_neg c5, if_neg c6, if_pos c7]))⟩ dX3_level_205
  by_cases c8 : a2 = 7
  · refine lv_tableIn (off := 121) (tgt := 134) S.1 S.2.1 dX3_level_13 (by rw [c8]; decide) (by rw [c8]; decide) (by rw [c8]; rfl) (by decide) ?_
    refine lv_aload_n S.1 S.2.1 dX3_level_134 rfl (lv_at hl 1 rfl) ?_
    refine lv_iload_n S.1 S.2.1 dX3_level_135 rfl (lv_at hl 2 rfl) ?_
    refine lv_aload_n S.1 S.2.1 dX3_level_136 rfl (lv_at hl 1 rfl) ?_
    refine m_getA S hA hF hW 1 (by decide) (by decide) tf_X3_7 dX3_level_137 ?_
    refine lv_iload_n S.1 S.2.1 dX3_level_140 rfl (lv_at hl 2 rfl) ?_
    refine m_ald (x := (M 2 g)) S hA hF hW 1 (by decide) (by decide) rfl hg rfl dX3_level_141 ?_
    refine lv_aload_n S.1 S.2.1 dX3_level_142 rfl (lv_at hl 1 rfl) ?_
    refine m_getA S hA hF hW 2 (by decide) (by decide) tf_X3_13 dX3_level_143 ?_
    refine lv_iload_n S.1 S.2.1 dX3_level_146 rfl (lv_at hl 2 rfl) ?_
    refine m_ald (x := (M 3 g)) S hA hF hW 2 (by decide) (by decide) rfl hg rfl dX3_level_147 ?_
    refine jn (Z := Z) (tree := (if (M 3 g) < (M 2 g) then ((M 2 g) - 1) else 0)) 163 [.int (nI g), .ref (q 0)] (mw Z ws q M) (fun x9 H locs e9 hW hS => ?_) (fun K9 => ?_)
    · skip
      refine c_V S hA hW hS (kX3_set l Z ws q M hF g hg x9 ) ok_X3_set tm_X3_101 tn_X3_set tl_X3_set (fo_mem hF 0 (by decide)) rfl rfl ⟨Nat.le_of_ble_eq_true rfl, Nat.le_of_ble_eq_true rfl⟩ rfl hl.1 rfl (Nat.le_of_ble_eq_true rfl) dX3_level_163 ⟨Nat.le_of_ble_eq_true rfl, Nat.le_of_ble_eq_true rfl⟩ (kk_v fun H locs hW hS => ?_)
      refine lv_goto (tgt := 205) S.1 S.2.1 dX3_level_166 (by decide) ?_
      exact r_vret S hr hlk hW hS ⟨rfl, congrArg (fun z => mw Z ws q z) (show (fX3_set M g x9) = (fX3_level M g a2) from Eq.symm (by first | rfl | (unfold fX3_level; rw [if_neg c1, if_neg c2, if_neg c3, if_neg c4, if_neg c5, if_neg c6, if_neg c7, if_pos c8, ← e9]; unfold fX3_level_j9; done) | (unfold fX3_level; rw [if_neg c1, if_neg c2, if_neg c3, if_neg c4, if_neg c5, if_neg c6, if_neg c7, if_pos c8, ← e9]; unfold fX3_level_j9; rfl)))⟩ dX3_level_205
    · skip
      refine lv_icmp_gt (tgt := 155) S.1 S.2.1 dX3_level_148 (by decide) (fun c10 => ?_) (fun c10 => ?_)
      · skip
        refine lv_aload_n S.1 S.2.1 dX3_level_155 rfl (lv_at hl 1 rfl) ?_
        refine m_getA S hA hF hW 1 (by decide) (by decide) tf_X3_7 dX3_level_156 ?_
        refine lv_iload_n S.1 S.2.1 dX3_level_159 rfl (lv_at hl 2 rfl) ?_
        refine m_ald (x := (M 2 g)) S hA hF hW 1 (by decide) (by decide) rfl hg rfl dX3_level_160 ?_
        refine lv_iconst (v := 1) S.1 S.2.1 dX3_level_161 (by decide) ?_
        refine lv_isub S.1 S.2.1 dX3_level_162 ?_
        exact K9 _ _ _ (by rw [if_pos c10]) hW hS
      · skip
        refine lv_iconst (v := 0) S.1 S.2.1 dX3_level_151 (by decide) ?_
        refine lv_goto (tgt := 163) S.1 S.2.1 dX3_level_152 (by decide) ?_
        exact K9 _ _ _ (by rw [if_neg c10]) hW hS
  refine sw_tab (tgt := 169) [0, 1, 2, 3, 4, 5, 6, 7] S.1 S.2.1 dX3_level_13 (by decide) (List.forall_mem_cons.mpr ⟨c1, List.forall_mem_cons.mpr ⟨c2, List.forall_mem_cons.mpr ⟨c3, List.forall_mem_cons.mpr ⟨c4, List.forall_mem_cons.mpr ⟨c5, List.forall_mem_cons.mpr ⟨c6, List.forall_mem_cons.mpr ⟨c7, List.forall_mem_cons.mpr ⟨c8, fun _ h => absurd h List.not_mem_nil⟩⟩⟩⟩⟩⟩⟩⟩) (by decide +kernel) ?_
  refine lv_aload_n S.1 S.2.1 dX3_level_169 rfl (lv_at hl 1 rfl) ?_
  refine lv_iload_n S.1 S.2.1 dX3_level_170 rfl (lv_at hl 2 rfl) ?_
  refine lv_aload_n S.1 S.2.1 dX3_level_171 rfl (lv_at hl 1 rfl) ?_
  refine m_getA S hA hF hW 1 (by decide) (by decide) tf_X3_7 dX3_level_172 ?_
  refine lv_iload_n S.1 S.2.1 dX3_level_175 rfl (lv_at hl 2 rfl) ?_
  refine m_ald (x := (M 2 g)) S hA hF hW 1 (by decide) (by decide) rfl hg rfl dX3_level_176 ?_
  refine jn (Z := Z) (tree := (if (M 2 g) = 0 then (M 3 g) else (fX3_within M g ((M 2 g) + 1)))) 202 [.int (nI g), .ref (q 0)] (mw Z ws q M) (fun x11 H locs e11 hW hS => ?_) (fun K11 => ?_)
  · skip
    refine c_V S hA hW hS (kX3_set l Z ws q M hF g hg x11 ) ok_X3_set tm_X3_101 tn_X3_set tl_X3_set (fo_mem hF 0 (by decide)) rfl rfl ⟨Nat.le_of_ble_eq_true rfl, Nat.le_of_ble_eq_true rfl⟩ rfl hl.1 rfl (Nat.le_of_ble_eq_true rfl) dX3_level_202 ⟨Nat.le_of_ble_eq_true rfl, Nat.le_of_ble_eq_true rfl⟩ (kk_v fun H locs hW hS => ?_)
    exact r_vret S hr hlk hW hS ⟨rfl, congrArg (fun z => mw Z ws q z) (show (fX3_set M g x11) = (fX3_level M g a2) from Eq.symm (by first | rfl | (unfold fX3_level; rw [if_neg c1, if_neg c2, if_neg c3, if_neg c4, if_neg c5, if_neg c6, if_neg c7, if_neg c8, ← e11]; unfold fX3_level_j11; done) | (unfold fX3_level; rw [if_neg c1, if_neg c2, if_neg c3, if_neg c4, if_neg c5, if_neg c6, if_neg c7, if_neg c8, ← e11]; unfold fX3_level_j11; rfl)))⟩ dX3_level_205
  · skip
    refine lv_if_ne (tgt := 189) S.1 S.2.1 dX3_level_177 (by decide) (fun c12 => ?_) (fun c12 => ?_)
    · skip
      refine lv_aload_n S.1 S.2.1 dX3_level_189 rfl (lv_at hl 1 rfl) ?_
      refine lv_iload_n S.1 S.2.1 dX3_level_190 rfl (lv_at hl 2 rfl) ?_
      refine lv_aload_n S.1 S.2.1 dX3_level_191 rfl (lv_at hl 1 rfl) ?_
      refine m_getA S hA hF hW 1 (by decide) (by decide) tf_X3_7 dX3_level_192 ?_
      refine lv_iload_n S.1 S.2.1 dX3_level_195 rfl (lv_at hl 2 rfl) ?_
      refine m_ald (x := (M 2 g)) S hA hF hW 1 (by decide) (by decide) rfl hg rfl dX3_level_196 ?_
      refine lv_iconst (v := 1) S.1 S.2.1 dX3_level_197 (by decide) ?_
      refine lv_iadd S.1 S.2.1 dX3_level_198 ?_
      refine c_V S hA hW hS (kX3_within l Z ws q M hF g hg ((M 2 g) + 1) ) ok_X3_within tm_X3_97 tn_X3_within tl_X3_within (fo_mem hF 0 (by decide)) rfl rfl ⟨Nat.le_of_ble_eq_true rfl, Nat.le_of_ble_eq_true rfl⟩ rfl hl.1 rfl (Nat.le_of_ble_eq_true rfl) dX3_level_199 ⟨Nat.le_of_ble_eq_true rfl, Nat.le_of_ble_eq_true rfl⟩ (kk_i fun H locs hW hS => ?_)
      exact K11 _ _ _ (by rw [if_neg c12]) hW hS
    · skip
      refine lv_aload_n S.1 S.2.1 dX3_level_180 rfl (lv_at hl 1 rfl) ?_
      refine m_getA S hA hF hW 2 (by decide) (by decide) tf_X3_13 dX3_level_181 ?_
      refine lv_iload_n S.1 S.2.1 dX3_level_184 rfl (lv_at hl 2 rfl) ?_
      refine m_ald (x := (M 3 g)) S hA hF hW 2 (by decide) (by decide) rfl hg rfl dX3_level_185 ?_
      refine lv_goto (tgt := 202) S.1 S.2.1 dX3_level_186 (by decide) ?_
      exact K11 _ _ _ (by rw [if_pos c12]) hW hS
def fX3_setShort (M : Nat → Nat → Int32) (g : Nat) (a2 : Int32) : (Nat → Nat → Int32) :=
  (if a2 = 255 then (up2 M 11 g 255) else (if (a2 - a2 / 2 * 2) = 1 then (if 128 ≤ a2 then M else (up2 M 11 g ((a2 - 1) / 2))) else M))
set_option maxRecDepth 100000 in
set_option maxHeartbeats 4000000 in
theorem kX3_setShort (l : Launch) (Z : Zt) (ws : va_W) (q : Nat → Nat) (M : Nat → Nat → Int32) (hF : FI ws 23 q) (g : Nat) (hg : g < 16) (a2 : Int32)  : Ct l Z yX3_setShort cX3_setShort 3 none 0 0 0 0 (mw Z ws q M) [.ref (q 0), .int (nI g), .int a2] (fun r w => r = none ∧ w = mw Z ws q (fX3_setShort M g a2)) := by
  refine Ct.start (by decide) (Nat.le_of_ble_eq_true rfl) ?_
  intro p e s m below meth c S hr hlk hnm hA hW hS ls hl
  replace S : CallFix p m c cX3_setShort 3 s _ TB RX3 := S
  replace hl : lv_has ls 3 [(0, .ref (q 0)), (1, .int (nI g)), (2, .int a2)] := hl
  refine lv_iload_n S.1 S.2.1 dX3_setShort_0 rfl (lv_at hl 2 rfl) ?_
  refine lv_sipush (v := 255) S.1 S.2.1 dX3_setShort_1 (by decide) ?_
  refine lv_icmp_ne (tgt := 19) S.1 S.2.1 dX3_setShort_4 (by decide) (fun c1 => ?_) (fun c1 => ?_)
  · skip
    refine lv_iload_n S.1 S.2.1 dX3_setShort_19 rfl (lv_at hl 2 rfl) ?_
    refine lv_iconst (v := 2) S.1 S.2.1 dX3_setShort_20 (by decide) ?_
    refine lv_irem S.1 S.2.1 dX3_setShort_21 (by decide) ?_
    refine lv_iconst (v := 1) S.1 S.2.1 dX3_setShort_22 (by decide) ?_
    refine lv_icmp_ne (tgt := 44) S.1 S.2.1 dX3_setShort_23 (by decide) (fun c2 => ?_) (fun c2 => ?_)
    · skip
      exact r_vret S hr hlk hW hS ⟨rfl, congrArg (fun z => mw Z ws q z) (show M = (fX3_setShort M g a2) from Eq.symm (by unfold fX3_setShort; rw [if_neg c1, if_neg c2]))⟩ dX3_setShort_44
    · skip
      refine lv_iload_n S.1 S.2.1 dX3_setShort_26 rfl (lv_at hl 2 rfl) ?_
      refine lv_sipush (v := 128) S.1 S.2.1 dX3_setShort_27 (by decide) ?_
      refine lv_icmp_ge (tgt := 44) S.1 S.2.1 dX3_setShort_30 (by decide) (fun c3 => ?_) (fun c3 => ?_)
      · skip
        exact r_vret S hr hlk hW hS ⟨rfl, congrArg (fun z => mw Z ws q z) (show M = (fX3_setShort M g a2) from Eq.symm (by unfold fX3_setShort; rw [if_neg c1, if_pos c2, if_pos c3]))⟩ dX3_setShort_44
      · skip
        refine lv_aload_n S.1 S.2.1 dX3_setShort_33 rfl (lv_at hl 0 rfl) ?_
        refine m_getA S hA hF hW 10 (by decide) (by decide) tf_X3_37 dX3_setShort_34 ?_
        refine lv_iload_n S.1 S.2.1 dX3_setShort_37 rfl (lv_at hl 1 rfl) ?_
        refine lv_iload_n S.1 S.2.1 dX3_setShort_38 rfl (lv_at hl 2 rfl) ?_
        refine lv_iconst (v := 1) S.1 S.2.1 dX3_setShort_39 (by decide) ?_
        refine lv_isub S.1 S.2.1 dX3_setShort_40 ?_
        refine lv_iconst (v := 2) S.1 S.2.1 dX3_setShort_41 (by decide) ?_
        refine lv_idiv S.1 S.2.1 dX3_setShort_42 (by decide) ?_
        refine m_ast (x := ((a2 - 1) / 2)) S hA hF hW hS 10 (by decide) (by decide) rfl hg dX3_setShort_43 (fun H locs hW hS => ?_)
        exact r_vret S hr hlk hW hS ⟨rfl, congrArg (fun z => mw Z ws q z) (show (up2 M 11 g ((a2 - 1) / 2)) = (fX3_setShort M g a2) from Eq.symm (by unfold fX3_setShort; rw [if_neg c1, if_pos c2, if_neg c3]))⟩ dX3_setShort_44
  · skip
    refine lv_aload_n S.1 S.2.1 dX3_setShort_7 rfl (lv_at hl 0 rfl) ?_
    refine m_getA S hA hF hW 10 (by decide) (by decide) tf_X3_37 dX3_setShort_8 ?_
    refine lv_iload_n S.1 S.2.1 dX3_setShort_11 rfl (lv_at hl 1 rfl) ?_
    refine lv_sipush (v := 255) S.1 S.2.1 dX3_setShort_12 (by decide) ?_
    refine m_ast (x := 255) S hA hF hW hS 10 (by decide) (by decide) rfl hg dX3_setShort_15 (fun H locs hW hS => ?_)
    refine lv_goto (tgt := 44) S.1 S.2.1 dX3_setShort_16 (by decide) ?_
    exact r_vret S hr hlk hW hS ⟨rfl, congrArg (fun z => mw Z ws q z) (show (up2 M 11 g 255) = (fX3_setShort M g a2) from Eq.symm (by unfold fX3_setShort; rw [if_pos c1]))⟩ dX3_setShort_44
def fX3_isMeant (M : Nat → Nat → Int32) (g : Nat) (a2 : Int32) : Int32 :=
  (if 128 ≤ a2 then (if 160 ≤ a2 then (if a2 ≤ 253 then 0 else 1) else (if (((M 9 g) >>> (((a2 - 128) / 2) &&& 31)) &&& 1) = 1 then 1 else 0)) else (if (M 11 g) = (a2 / 2) then 1 else 0))
theorem bfX3_isMeant (M : Nat → Nat → Int32) (g : Nat) (a2 : Int32) : narrow .boolean (.int (fX3_isMeant M g a2)) = .int (fX3_isMeant M g a2) := by
  unfold fX3_isMeant
  repeat' split
  all_goals rfl
set_option maxRecDepth 100000 in
set_option maxHeartbeats 4000000 in
theorem kX3_isMeant (l : Launch) (Z : Zt) (ws : va_W) (q : Nat → Nat) (M : Nat → Nat → Int32) (hF : FI ws 23 q) (g : Nat) (hg : g < 16) (a2 : Int32)  : Ct l Z yX3_isMeant cX3_isMeant 3 (some .boolean) 0 0 0 0 (mw Z ws q M) [.ref (q 0), .int (nI g), .int a2] (fun r w => r = some (.int (fX3_isMeant M g a2)) ∧ w = (mw Z ws q M)) := by
  refine Ct.start (by decide) (Nat.le_of_ble_eq_true rfl) ?_
  intro p e s m below meth c S hr hlk hnm hA hW hS ls hl
  replace S : CallFix p m c cX3_isMeant 3 s _ TB RX3 := S
  replace hl : lv_has ls 3 [(0, .ref (q 0)), (1, .int (nI g)), (2, .int a2)] := hl
  refine lv_iload_n S.1 S.2.1 dX3_isMeant_0 rfl (lv_at hl 2 rfl) ?_
  refine lv_sipush (v := 128) S.1 S.2.1 dX3_isMeant_1 (by decide) ?_
  refine lv_icmp_ge (tgt := 25) S.1 S.2.1 dX3_isMeant_4 (by decide) (fun c1 => ?_) (fun c1 => ?_)
  · skip
    refine lv_iload_n S.1 S.2.1 dX3_isMeant_25 rfl (lv_at hl 2 rfl) ?_
    refine lv_sipush (v := 160) S.1 S.2.1 dX3_isMeant_26 (by decide) ?_
    refine lv_icmp_ge (tgt := 58) S.1 S.2.1 dX3_isMeant_29 (by decide) (fun c2 => ?_) (fun c2 => ?_)
    · skip
      refine lv_iload_n S.1 S.2.1 dX3_isMeant_58 rfl (lv_at hl 2 rfl) ?_
      refine lv_sipush (v := 253) S.1 S.2.1 dX3_isMeant_59 (by decide) ?_
      refine lv_icmp_le (tgt := 69) S.1 S.2.1 dX3_isMeant_62 (by decide) (fun c3 => ?_) (fun c3 => ?_)
      · skip
        refine lv_iconst (v := 0) S.1 S.2.1 dX3_isMeant_69 (by decide) ?_
        exact r_zret S hr hlk hW hS rfl ⟨congrArg (fun z => some (Value.int z)) (show 0 = (fX3_isMeant M g a2) from Eq.symm (by unfold fX3_isMeant; rw [if_pos c1, if_pos c2, if_pos c3])), rfl⟩ dX3_isMeant_70
      · skip
        refine lv_iconst (v := 1) S.1 S.2.1 dX3_isMeant_65 (by decide) ?_
        refine lv_goto (tgt := 70) S.1 S.2.1 dX3_isMeant_66 (by decide) ?_
        exact r_zret S hr hlk hW hS rfl ⟨congrArg (fun z => some (Value.int z)) (show 1 = (fX3_isMeant M g a2) from Eq.symm (by unfold fX3_isMeant; rw [if_pos c1, if_pos c2, if_neg c3])), rfl⟩ dX3_isMeant_70
    · skip
      refine lv_aload_n S.1 S.2.1 dX3_isMeant_32 rfl (lv_at hl 0 rfl) ?_
      refine m_getA S hA hF hW 8 (by decide) (by decide) tf_X3_31 dX3_isMeant_33 ?_
      refine lv_iload_n S.1 S.2.1 dX3_isMeant_36 rfl (lv_at hl 1 rfl) ?_
      refine m_ald (x := (M 9 g)) S hA hF hW 8 (by decide) (by decide) rfl hg rfl dX3_isMeant_37 ?_
      refine lv_iload_n S.1 S.2.1 dX3_isMeant_38 rfl (lv_at hl 2 rfl) ?_
      refine lv_sipush (v := 128) S.1 S.2.1 dX3_isMeant_39 (by decide) ?_
      refine lv_isub S.1 S.2.1 dX3_isMeant_42 ?_
      refine lv_iconst (v := 2) S.1 S.2.1 dX3_isMeant_43 (by decide) ?_
      refine lv_idiv S.1 S.2.1 dX3_isMeant_44 (by decide) ?_
      refine lv_ishr S.1 S.2.1 dX3_isMeant_45 ?_
      refine lv_iconst (v := 1) S.1 S.2.1 dX3_isMeant_46 (by decide) ?_
      refine lv_iand S.1 S.2.1 dX3_isMeant_47 ?_
      refine lv_iconst (v := 1) S.1 S.2.1 dX3_isMeant_48 (by decide) ?_
      refine lv_icmp_ne (tgt := 56) S.1 S.2.1 dX3_isMeant_49 (by decide) (fun c4 => ?_) (fun c4 => ?_)
      · skip
        refine lv_iconst (v := 0) S.1 S.2.1 dX3_isMeant_56 (by decide) ?_
        exact r_zret S hr hlk hW hS rfl ⟨congrArg (fun z => some (Value.int z)) (show 0 = (fX3_isMeant M g a2) from Eq.symm (by unfold fX3_isMeant; rw [if_pos c1, if_neg c2, if_neg c4])), rfl⟩ dX3_isMeant_57
      · skip
        refine lv_iconst (v := 1) S.1 S.2.1 dX3_isMeant_52 (by decide) ?_
        refine lv_goto (tgt := 57) S.1 S.2.1 dX3_isMeant_53 (by decide) ?_
        exact r_zret S hr hlk hW hS rfl ⟨congrArg (fun z => some (Value.int z)) (show 1 = (fX3_isMeant M g a2) from Eq.symm (by unfold fX3_isMeant; rw [if_pos c1, if_neg c2, if_pos c4])), rfl⟩ dX3_isMeant_57
  · skip
    refine lv_aload_n S.1 S.2.1 dX3_isMeant_7 rfl (lv_at hl 0 rfl) ?_
    refine m_getA S hA hF hW 10 (by decide) (by decide) tf_X3_37 dX3_isMeant_8 ?_
    refine lv_iload_n S.1 S.2.1 dX3_isMeant_11 rfl (lv_at hl 1 rfl) ?_
    refine m_ald (x := (M 11 g)) S hA hF hW 10 (by decide) (by decide) rfl hg rfl dX3_isMeant_12 ?_
    refine lv_iload_n S.1 S.2.1 dX3_isMeant_13 rfl (lv_at hl 2 rfl) ?_
    refine lv_iconst (v := 2) S.1 S.2.1 dX3_isMeant_14 (by decide) ?_
    refine lv_idiv S.1 S.2.1 dX3_isMeant_15 (by decide) ?_
    refine lv_icmp_ne (tgt := 23) S.1 S.2.1 dX3_isMeant_16 (by decide) (fun c5 => ?_) (fun c5 => ?_)
    · skip
      refine lv_iconst (v := 0) S.1 S.2.1 dX3_isMeant_23 (by decide) ?_
      exact r_zret S hr hlk hW hS rfl ⟨congrArg (fun z => some (Value.int z)) (show 0 = (fX3_isMeant M g a2) from Eq.symm (by unfold fX3_isMeant; rw [if_neg c1, if_neg c5])), rfl⟩ dX3_isMeant_24
    · skip
      refine lv_iconst (v := 1) S.1 S.2.1 dX3_isMeant_19 (by decide) ?_
      refine lv_goto (tgt := 24) S.1 S.2.1 dX3_isMeant_20 (by decide) ?_
      exact r_zret S hr hlk hW hS rfl ⟨congrArg (fun z => some (Value.int z)) (show 1 = (fX3_isMeant M g a2) from Eq.symm (by unfold fX3_isMeant; rw [if_neg c1, if_pos c5])), rfl⟩ dX3_isMeant_24
def fX3_ask_j5 (M : Nat → Nat → Int32) (g : Nat) (a2 : Int32) (x3 : Int32) (x4 : Int32) (x5 : Int32) : (Nat → Nat → Int32) :=
  (fX3_say M ((x3 + x4) + x5))
def fX3_ask_j4 (M : Nat → Nat → Int32) (g : Nat) (a2 : Int32) (x3 : Int32) (x4 : Int32) : (Nat → Nat → Int32) :=
  (fX3_ask_j5 M g a2 x3 x4 (if (M 11 g) = 255 then 64 else 0))
def fX3_ask_j3 (M : Nat → Nat → Int32) (g : Nat) (a2 : Int32) (x3 : Int32) : (Nat → Nat → Int32) :=
  (fX3_ask_j4 M g a2 x3 (if (M 18 g) = (-1) then 0 else 16))
def fX3_ask (M : Nat → Nat → Int32) (g : Nat) (a2 : Int32) : (Nat → Nat → Int32) :=
  (if (fX3_isIn a2 176 191) = 0 then (if a2 = 144 then (fX3_ask_j3 M g a2 (if (M 2 g) ≤ 0 then 0 else 4)) else (if a2 = 145 then (fX3_say M 255) else (if a2 = 147 then (if (M 2 g) ≤ 0 then M else (fX3_say M 255)) else (if a2 = 150 then (if (M 11 g) = 255 then (fX3_say M 255) else M) else (if a2 = 152 then (fX3_say M (M 13 g)) else (if a2 = 160 then (fX3_say M (M 2 g)) else (if a2 = 161 then (fX3_say M (M 4 g)) else (if a2 = 162 then (fX3_say M (M 3 g)) else (if a2 = 163 then (fX3_say M (M 5 g)) else (if a2 = 164 then (fX3_say M (M 6 g)) else (if a2 = 165 then (fX3_say M ((16 * (M 7 g)) + (M 8 g))) else (if a2 = 192 then (fX3_say M ((M 9 g) - (M 9 g) / 256 * 256)) else (if a2 = 193 then (fX3_say M ((M 9 g) / 256)) else (if a2 = 194 then (fX3_say M ((M 12 g) / 65536)) else (if a2 = 195 then (fX3_say M (((M 12 g) / 256) - ((M 12 g) / 256) / 256 * 256)) else (if a2 = 196 then (fX3_say M ((M 12 g) - (M 12 g) / 256 * 256)) else M)))))))))))))))) else (fX3_say M (M 10 (((16 * (nI g)) + a2) - 176).toNatClampNeg)))
set_option maxRecDepth 100000 in
set_option maxHeartbeats 4000000 in
theorem kX3_ask (l : Launch) (Z : Zt) (ws : va_W) (q : Nat → Nat) (M : Nat → Nat → Int32) (hF : FI ws 23 q) (g : Nat) (hg : g < 16) (a2 : Int32)  : Ct l Z yX3_ask cX3_ask 3 none 1 22 0 0 (mw Z ws q M) [.ref (q 0), .int (nI g), .int a2] (fun r w => r = none ∧ w = mw Z ws q (fX3_ask M g a2)) := by
  refine Ct.start (by decide) (Nat.le_of_ble_eq_true rfl) ?_
  intro p e s m below meth c S hr hlk hnm hA hW hS ls hl
  replace S : CallFix p m c cX3_ask 3 s _ TB RX3 := S
  replace hl : lv_has ls 3 [(0, .ref (q 0)), (1, .int (nI g)), (2, .int a2)] := hl
  refine lv_iload_n S.1 S.2.1 dX3_ask_0 rfl (lv_at hl 2 rfl) ?_
  refine lv_sipush (v := 176) S.1 S.2.1 dX3_ask_1 (by decide) ?_
  refine lv_sipush (v := 191) S.1 S.2.1 dX3_ask_4 (by decide) ?_
  refine c_S S hA hW hS (kX3_isIn l Z (mw Z ws q M) a2 176 191) ok_X3_isIn tm_X3_93 ts_X3_isIn ⟨Nat.le_of_ble_eq_true rfl, Nat.le_of_ble_eq_true rfl⟩ rfl hl.1 rfl (Nat.le_of_ble_eq_true rfl) dX3_ask_7 ⟨Nat.le_of_ble_eq_true rfl, Nat.le_of_ble_eq_true rfl⟩ (kk_i fun H locs hW hS => ?_)
  refine lv_if_eq (tgt := 33) S.1 S.2.1 dX3_ask_10 (by decide) (fun c1 => ?_) (fun c1 => ?_)
  · skip
    refine lv_iload_n S.1 S.2.1 dX3_ask_33 rfl (lv_at hl 2 rfl) ?_
    by_cases c2 : a2 = 144
    · refine lv_tableIn (off := 226) (tgt := 260) S.1 S.2.1 dX3_ask_34 (by rw [c2]; decide) (by rw [c2]; decide) (by rw [c2]; rfl) (by decide) ?_
      refine lv_aload_n S.1 S.2.1 dX3_ask_260 rfl (lv_at hl 0 rfl) ?_
      refine lv_aload_n S.1 S.2.1 dX3_ask_261 rfl (lv_at hl 0 rfl) ?_
      refine m_getA S hA hF hW 1 (by decide) (by decide) tf_X3_7 dX3_ask_262 ?_
      refine lv_iload_n S.1 S.2.1 dX3_ask_265 rfl (lv_at hl 1 rfl) ?_
      refine m_ald (x := (M 2 g)) S hA hF hW 1 (by decide) (by decide) rfl hg rfl dX3_ask_266 ?_
      refine jn (Z := Z) (tree := (if (M 2 g) ≤ 0 then 0 else 4)) 275 [.ref (q 0)] (mw Z ws q M) (fun x3 H locs e3 hW hS => ?_) (fun K3 => ?_)
      · skip
        refine lv_aload_n S.1 S.2.1 dX3_ask_275 rfl (lv_at hl 0 rfl) ?_
        refine m_getA S hA hF hW 17 (by decide) (by decide) tf_X3_59 dX3_ask_276 ?_
        refine lv_iload_n S.1 S.2.1 dX3_ask_279 rfl (lv_at hl 1 rfl) ?_
        refine m_ald (x := (M 18 g)) S hA hF hW 17 (by decide) (by decide) rfl hg rfl dX3_ask_280 ?_
        refine lv_iconst (v := (-1)) S.1 S.2.1 dX3_ask_281 (by decide) ?_
        refine jn (Z := Z) (tree := (if (M 18 g) = (-1) then 0 else 16)) 291 [.int x3, .ref (q 0)] (mw Z ws q M) (fun x4 H locs e4 hW hS => ?_) (fun K4 => ?_)
        · skip
          refine lv_iadd S.1 S.2.1 dX3_ask_291 ?_
          refine lv_aload_n S.1 S.2.1 dX3_ask_292 rfl (lv_at hl 0 rfl) ?_
          refine m_getA S hA hF hW 10 (by decide) (by decide) tf_X3_37 dX3_ask_293 ?_
          refine lv_iload_n S.1 S.2.1 dX3_ask_296 rfl (lv_at hl 1 rfl) ?_
          refine m_ald (x := (M 11 g)) S hA hF hW 10 (by decide) (by decide) rfl hg rfl dX3_ask_297 ?_
          refine lv_sipush (v := 255) S.1 S.2.1 dX3_ask_298 (by decide) ?_
          refine jn (Z := Z) (tree := (if (M 11 g) = 255 then 64 else 0)) 310 [.int (x3 + x4), .ref (q 0)] (mw Z ws q M) (fun x5 H locs e5 hW hS => ?_) (fun K5 => ?_)
          · skip
            refine lv_iadd S.1 S.2.1 dX3_ask_310 ?_
            refine c_V S hA hW hS (kX3_say l Z ws q M hF ((x3 + x4) + x5) ) ok_X3_say tm_X3_129 tn_X3_say tl_X3_say (fo_mem hF 0 (by decide)) rfl rfl ⟨Nat.le_of_ble_eq_true rfl, Nat.le_of_ble_eq_true rfl⟩ rfl hl.1 rfl (Nat.le_of_ble_eq_true rfl) dX3_ask_311 ⟨Nat.le_of_ble_eq_true rfl, Nat.le_of_ble_eq_true rfl⟩ (kk_v fun H locs hW hS => ?_)
            refine lv_goto (tgt := 557) S.1 S.2.1 dX3_ask_314 (by decide) ?_
            exact r_vret S hr hlk hW hS ⟨rfl, congrArg (fun z => mw Z ws q z) (show (fX3_say M ((x3 + x4) + x5)) = (fX3_ask M g a2) from Eq.symm (by first | rfl | (unfold fX3_ask; rw [if_pos c1, if_pos c2, ← e3]; unfold fX3_ask_j3; rw [← e4]; unfold fX3_ask_j4; rw [← e5]; unfold fX3_ask_j5; done) | (unfold fX3_ask; rw [if_pos c1, if_pos c2, ← e3]; unfold fX3_ask_j3; rw [← e4]; unfold fX3_ask_j4; rw [← e5]; unfold fX3_ask_j5; rfl)))⟩ dX3_ask_557
          · skip
            refine lv_icmp_ne (tgt := 309) S.1 S.2.1 dX3_ask_301 (by decide) (fun c6 => ?_) (fun c6 => ?_)
            · skip
              refine lv_iconst (v := 0) S.1 S.2.1 dX3_ask_309 (by decide) ?_
              exact K5 _ _ _ (by rw [if_neg c6]) hW hS
            · skip
              refine lv_bipush (v := 64) S.1 S.2.1 dX3_ask_304 (by decide) ?_
              refine lv_goto (tgt := 310) S.1 S.2.1 dX3_ask_306 (by decide) ?_
              exact K5 _ _ _ (by rw [if_pos c6]) hW hS
        · skip
          refine lv_icmp_eq (tgt := 290) S.1 S.2.1 dX3_ask_282 (by decide) (fun c7 => ?_) (fun c7 => ?_)
          · skip
            refine lv_iconst (v := 0) S.1 S.2.1 dX3_ask_290 (by decide) ?_
            exact K4 _ _ _ (by rw [if_pos c7]) hW hS
          · skip
            refine lv_bipush (v := 16) S.1 S.2.1 dX3_ask_285 (by decide) ?_
            refine lv_goto (tgt := 291) S.1 S.2.1 dX3_ask_287 (by decide) ?_
            exact K4 _ _ _ (by rw [if_neg c7]) hW hS
      · skip
        refine lv_if_le (tgt := 274) S.1 S.2.1 dX3_ask_267 (by decide) (fun c8 => ?_) (fun c8 => ?_)
        · skip
          refine lv_iconst (v := 0) S.1 S.2.1 dX3_ask_274 (by decide) ?_
          exact K3 _ _ _ (by rw [if_pos c8]) hW hS
        · skip
          refine lv_iconst (v := 4) S.1 S.2.1 dX3_ask_270 (by decide) ?_
          refine lv_goto (tgt := 275) S.1 S.2.1 dX3_ask_271 (by decide) ?_
          exact K3 _ _ _ (by rw [if_neg c8]) hW hS
    by_cases c9 : a2 = 145
    · refine lv_tableIn (off := 283) (tgt := 317) S.1 S.2.1 dX3_ask_34 (by rw [c9]; decide) (by rw [c9]; decide) (by rw [c9]; rfl) (by decide) ?_
      refine lv_aload_n S.1 S.2.1 dX3_ask_317 rfl (lv_at hl 0 rfl) ?_
      refine lv_sipush (v := 255) S.1 S.2.1 dX3_ask_318 (by decide) ?_
      refine c_V S hA hW hS (kX3_say l Z ws q M hF 255 ) ok_X3_say tm_X3_129 tn_X3_say tl_X3_say (fo_mem hF 0 (by decide)) rfl rfl ⟨Nat.le_of_ble_eq_true rfl, Nat.le_of_ble_eq_true rfl⟩ rfl hl.1 rfl (Nat.le_of_ble_eq_true rfl) dX3_ask_321 ⟨Nat.le_of_ble_eq_true rfl, Nat.le_of_ble_eq_true rfl⟩ (kk_v fun H locs hW hS => ?_)
      refine lv_goto (tgt := 557) S.1 S.2.1 dX3_ask_324 (by decide) ?_
      exact r_vret S hr hlk hW hS ⟨rfl, congrArg (fun z => mw Z ws q z) (show (fX3_say M 255) = (fX3_ask M g a2) from Eq.symm (by unfold fX3_ask; rw [if_pos c1, if_neg c2, if_pos c9]))⟩ dX3_ask_557
    by_cases c10 : a2 = 147
    · refine lv_tableIn (off := 293) (tgt := 327) S.1 S.2.1 dX3_ask_34 (by rw [c10]; decide) (by rw [c10]; decide) (by rw [c10]; rfl) (by decide) ?_
      refine lv_aload_n S.1 S.2.1 dX3_ask_327 rfl (lv_at hl 0 rfl) ?_
      refine m_getA S hA hF hW 1 (by decide) (by decide) tf_X3_7 dX3_ask_328 ?_
      refine lv_iload_n S.1 S.2.1 dX3_ask_331 rfl (lv_at hl 1 rfl) ?_
      refine m_ald (x := (M 2 g)) S hA hF hW 1 (by decide) (by decide) rfl hg rfl dX3_ask_332 ?_
      refine lv_if_le (tgt := 557) S.1 S.2.1 dX3_ask_333 (by decide) (fun c11 => ?_) (fun c11 => ?_)
      · skip
        exact r_vret S hr hlk hW hS ⟨rfl, congrArg (fun z => mw Z ws q z) (show M = (fX3_ask M g a2) from Eq.symm (by unfold fX3_ask; rw [if_pos c1, if_neg c2, if_neg c9, if_pos c10, if_pos c11]))⟩ dX3_ask_557
      · skip
        refine lv_aload_n S.1 S.2.1 dX3_ask_336 rfl (lv_at hl 0 rfl) ?_
        refine lv_sipush (v := 255) S.1 S.2.1 dX3_ask_337 (by decide) ?_
        refine c_V S hA hW hS (kX3_say l Z ws q M hF 255 ) ok_X3_say tm_X3_129 tn_X3_say tl_X3_say (fo_mem hF 0 (by decide)) rfl rfl ⟨Nat.le_of_ble_eq_true rfl, Nat.le_of_ble_eq_true rfl⟩ rfl hl.1 rfl (Nat.le_of_ble_eq_true rfl) dX3_ask_340 ⟨Nat.le_of_ble_eq_true rfl, Nat.le_of_ble_eq_true rfl⟩ (kk_v fun H locs hW hS => ?_)
        refine lv_goto (tgt := 557) S.1 S.2.1 dX3_ask_343 (by decide) ?_
        exact r_vret S hr hlk hW hS ⟨rfl, congrArg (fun z => mw Z ws q z) (show (fX3_say M 255) = (fX3_ask M g a2) from Eq.symm (by unfold fX3_ask; rw [if_pos c1, if_neg c2, if_neg c9, if_pos c10, if_neg c11]))⟩ dX3_ask_557
    by_cases c12 : a2 = 150
    · refine lv_tableIn (off := 312) (tgt := 346) S.1 S.2.1 dX3_ask_34 (by rw [c12]; decide) (by rw [c12]; decide) (by rw [c12]; rfl) (by decide) ?_
      refine lv_aload_n S.1 S.2.1 dX3_ask_346 rfl (lv_at hl 0 rfl) ?_
      refine m_getA S hA hF hW 10 (by decide) (by decide) tf_X3_37 dX3_ask_347 ?_
      refine lv_iload_n S.1 S.2.1 dX3_ask_350 rfl (lv_at hl 1 rfl) ?_
      refine m_ald (x := (M 11 g)) S hA hF hW 10 (by decide) (by decide) rfl hg rfl dX3_ask_351 ?_
      refine lv_sipush (v := 255) S.1 S.2.1 dX3_ask_352 (by decide) ?_
      refine lv_icmp_ne (tgt := 557) S.1 S.2.1 dX3_ask_355 (by decide) (fun c13 => ?_) (fun c13 => ?_)
      · skip
        exact r_vret S hr hlk hW hS ⟨rfl, congrArg (fun z => mw Z ws q z) (show M = (fX3_ask M g a2) from Eq.symm (by unfold fX3_ask; rw [if_pos c1, if_neg c2, if_neg c9, if_neg c10, if_pos c12, if_neg c13]))⟩ dX3_ask_557
      · skip
        refine lv_aload_n S.1 S.2.1 dX3_ask_358 rfl (lv_at hl 0 rfl) ?_
        refine lv_sipush (v := 255) S.1 S.2.1 dX3_ask_359 (by decide) ?_
        refine c_V S hA hW hS (kX3_say l Z ws q M hF 255 ) ok_X3_say tm_X3_129 tn_X3_say tl_X3_say (fo_mem hF 0 (by decide)) rfl rfl ⟨Nat.le_of_ble_eq_true rfl, Nat.le_of_ble_eq_true rfl⟩ rfl hl.1 rfl (Nat.le_of_ble_eq_true rfl) dX3_ask_362 ⟨Nat.le_of_ble_eq_true rfl, Nat.le_of_ble_eq_true rfl⟩ (kk_v fun H locs hW hS => ?_)
        refine lv_goto (tgt := 557) S.1 S.2.1 dX3_ask_365 (by decide) ?_
        exact r_vret S hr hlk hW hS ⟨rfl, congrArg (fun z => mw Z ws q z) (show (fX3_say M 255) = (fX3_ask M g a2) from Eq.symm (by unfold fX3_ask; rw [if_pos c1, if_neg c2, if_neg c9, if_neg c10, if_pos c12, if_pos c13]))⟩ dX3_ask_557
    by_cases c14 : a2 = 152
    · refine lv_tableIn (off := 334) (tgt := 368) S.1 S.2.1 dX3_ask_34 (by rw [c14]; decide) (by rw [c14]; decide) (by rw [c14]; rfl) (by decide) ?_
      refine lv_aload_n S.1 S.2.1 dX3_ask_368 rfl (lv_at hl 0 rfl) ?_
      refine lv_aload_n S.1 S.2.1 dX3_ask_369 rfl (lv_at hl 0 rfl) ?_
      refine m_getA S hA hF hW 12 (by decide) (by decide) tf_X3_43 dX3_ask_370 ?_
      refine lv_iload_n S.1 S.2.1 dX3_ask_373 rfl (lv_at hl 1 rfl) ?_
      refine m_ald (x := (M 13 g)) S hA hF hW 12 (by decide) (by decide) rfl hg rfl dX3_ask_374 ?_
      refine c_V S hA hW hS (kX3_say l Z ws q M hF (M 13 g) ) ok_X3_say tm_X3_129 tn_X3_say tl_X3_say (fo_mem hF 0 (by decide)) rfl rfl ⟨Nat.le_of_ble_eq_true rfl, Nat.le_of_ble_eq_true rfl⟩ rfl hl.1 rfl (Nat.le_of_ble_eq_true rfl) dX3_ask_375 ⟨Nat.le_of_ble_eq_true rfl, Nat.le_of_ble_eq_true rfl⟩ (kk_v fun H locs hW hS => ?_)
      refine lv_goto (tgt := 557) S.1 S.2.1 dX3_ask_378 (by decide) ?_
      exact r_vret S hr hlk hW hS ⟨rfl, congrArg (fun z => mw Z ws q z) (show (fX3_say M (M 13 g)) = (fX3_ask M g a2) from Eq.symm (by unfold fX3_ask; rw [if_pos c1, if_neg c2, if_neg c9, if_neg c10, if_neg c12, if_pos c14]))⟩ dX3_ask_557
    by_cases c15 : a2 = 160
    · refine lv_tableIn (off := 347) (tgt := 381) S.1 S.2.1 dX3_ask_34 (by rw [c15]; decide) (by rw [c15]; decide) (by rw [c15]; rfl) (by decide) ?_
      refine lv_aload_n S.1 S.2.1 dX3_ask_381 rfl (lv_at hl 0 rfl) ?_
      refine lv_aload_n S.1 S.2.1 dX3_ask_382 rfl (lv_at hl 0 rfl) ?_
      refine m_getA S hA hF hW 1 (by decide) (by decide) tf_X3_7 dX3_ask_383 ?_
      refine lv_iload_n S.1 S.2.1 dX3_ask_386 rfl (lv_at hl 1 rfl) ?_
      refine m_ald (x := (M 2 g)) S hA hF hW 1 (by decide) (by decide) rfl hg rfl dX3_ask_387 ?_
      refine c_V S hA hW hS (kX3_say l Z ws q M hF (M 2 g) ) ok_X3_say tm_X3_129 tn_X3_say tl_X3_say (fo_mem hF 0 (by decide)) rfl rfl ⟨Nat.le_of_ble_eq_true rfl, Nat.le_of_ble_eq_true rfl⟩ rfl hl.1 rfl (Nat.le_of_ble_eq_true rfl) dX3_ask_388 ⟨Nat.le_of_ble_eq_true rfl, Nat.le_of_ble_eq_true rfl⟩ (kk_v fun H locs hW hS => ?_)
      refine lv_goto (tgt := 557) S.1 S.2.1 dX3_ask_391 (by decide) ?_
      exact r_vret S hr hlk hW hS ⟨rfl, congrArg (fun z => mw Z ws q z) (show (fX3_say M (M 2 g)) = (fX3_ask M g a2) from Eq.symm (by unfold fX3_ask; rw [if_pos c1, if_neg c2, if_neg c9, if_neg c10, if_neg c12, if_neg c14, if_pos c15]))⟩ dX3_ask_557
    by_cases c16 : a2 = 161
    · refine lv_tableIn (off := 360) (tgt := 394) S.1 S.2.1 dX3_ask_34 (by rw [c16]; decide) (by rw [c16]; decide) (by rw [c16]; rfl) (by decide) ?_
      refine lv_aload_n S.1 S.2.1 dX3_ask_394 rfl (lv_at hl 0 rfl) ?_
      refine lv_aload_n S.1 S.2.1 dX3_ask_395 rfl (lv_at hl 0 rfl) ?_
      refine m_getA S hA hF hW 3 (by decide) (by decide) tf_X3_16 dX3_ask_396 ?_
      refine lv_iload_n S.1 S.2.1 dX3_ask_399 rfl (lv_at hl 1 rfl) ?_
      refine m_ald (x := (M 4 g)) S hA hF hW 3 (by decide) (by decide) rfl hg rfl dX3_ask_400 ?_
      refine c_V S hA hW hS (kX3_say l Z ws q M hF (M 4 g) ) ok_X3_say tm_X3_129 tn_X3_say tl_X3_say (fo_mem hF 0 (by decide)) rfl rfl ⟨Nat.le_of_ble_eq_true rfl, Nat.le_of_ble_eq_true rfl⟩ rfl hl.1 rfl (Nat.le_of_ble_eq_true rfl) dX3_ask_401 ⟨Nat.le_of_ble_eq_true rfl, Nat.le_of_ble_eq_true rfl⟩ (kk_v fun H locs hW hS => ?_)
      refine lv_goto (tgt := 557) S.1 S.2.1 dX3_ask_404 (by decide) ?_
      exact r_vret S hr hlk hW hS ⟨rfl, congrArg (fun z => mw Z ws q z) (show (fX3_say M (M 4 g)) = (fX3_ask M g a2) from Eq.symm (by unfold fX3_ask; rw [if_pos c1, if_neg c2, if_neg c9, if_neg c10, if_neg c12, if_neg c14, if_neg c15, if_pos c16]))⟩ dX3_ask_557
    by_cases c17 : a2 = 162
    · refine lv_tableIn (off := 373) (tgt := 407) S.1 S.2.1 dX3_ask_34 (by rw [c17]; decide) (by rw [c17]; decide) (by rw [c17]; rfl) (by decide) ?_
      refine lv_aload_n S.1 S.2.1 dX3_ask_407 rfl (lv_at hl 0 rfl) ?_
      refine lv_aload_n S.1 S.2.1 dX3_ask_408 rfl (lv_at hl 0 rfl) ?_
      refine m_getA S hA hF hW 2 (by decide) (by decide) tf_X3_13 dX3_ask_409 ?_
      refine lv_iload_n S.1 S.2.1 dX3_ask_412 rfl (lv_at hl 1 rfl) ?_
      refine m_ald (x := (M 3 g)) S hA hF hW 2 (by decide) (by decide) rfl hg rfl dX3_ask_413 ?_
      refine c_V S hA hW hS (kX3_say l Z ws q M hF (M 3 g) ) ok_X3_say tm_X3_129 tn_X3_say tl_X3_say (fo_mem hF 0 (by decide)) rfl rfl ⟨Nat.le_of_ble_eq_true rfl, Nat.le_of_ble_eq_true rfl⟩ rfl hl.1 rfl (Nat.le_of_ble_eq_true rfl) dX3_ask_414 ⟨Nat.le_of_ble_eq_true rfl, Nat.le_of_ble_eq_true rfl⟩ (kk_v fun H locs hW hS => ?_)
      refine lv_goto (tgt := 557) S.1 S.2.1 dX3_ask_417 (by decide) ?_
      exact r_vret S hr hlk hW hS ⟨rfl, congrArg (fun z => mw Z ws q z) (show (fX3_say M (M 3 g)) = (fX3_ask M g a2) from Eq.symm (by unfold fX3_ask; rw [if_pos c1, if_neg c2, if_neg c9, if_neg c10, if_neg c12, if_neg c14, if_neg c15, if_neg c16, if_pos c17]))⟩ dX3_ask_557
    by_cases c18 : a2 = 163
    · refine lv_tableIn (off := 386) (tgt := 420) S.1 S.2.1 dX3_ask_34 (by rw [c18]; decide) (by rw [c18]; decide) (by rw [c18]; rfl) (by decide) ?_
      refine lv_aload_n S.1 S.2.1 dX3_ask_420 rfl (lv_at hl 0 rfl) ?_
      refine lv_aload_n S.1 S.2.1 dX3_ask_421 rfl (lv_at hl 0 rfl) ?_
      refine m_getA S hA hF hW 4 (by decide) (by decide) tf_X3_19 dX3_ask_422 ?_
      refine lv_iload_n S.1 S.2.1 dX3_ask_425 rfl (lv_at hl 1 rfl) ?_
      refine m_ald (x := (M 5 g)) S hA hF hW 4 (by decide) (by decide) rfl hg rfl dX3_ask_426 ?_
      refine c_V S hA hW hS (kX3_say l Z ws q M hF (M 5 g) ) ok_X3_say tm_X3_129 tn_X3_say tl_X3_say (fo_mem hF 0 (by decide)) rfl rfl ⟨Nat.le_of_ble_eq_true rfl, Nat.le_of_ble_eq_true rfl⟩ rfl hl.1 rfl (Nat.le_of_ble_eq_true rfl) dX3_ask_427 ⟨Nat.le_of_ble_eq_true rfl, Nat.le_of_ble_eq_true rfl⟩ (kk_v fun H locs hW hS => ?_)
      refine lv_goto (tgt := 557) S.1 S.2.1 dX3_ask_430 (by decide) ?_
      exact r_vret S hr hlk hW hS ⟨rfl, congrArg (fun z => mw Z ws q z) (show (fX3_say M (M 5 g)) = (fX3_ask M g a2) from Eq.symm (by unfold fX3_ask; rw [if_pos c1, if_neg c2, if_neg c9, if_neg c10, if_neg c12, if_neg c14, if_neg c15, if_neg c16, if_neg c17, if_pos c18]))⟩ dX3_ask_557
    by_cases c19 : a2 = 164
    · refine lv_tableIn (off := 399) (tgt := 433) S.1 S.2.1 dX3_ask_34 (by rw [c19]; decide) (by rw [c19]; decide) (by rw [c19]; rfl) (by decide) ?_
      refine lv_aload_n S.1 S.2.1 dX3_ask_433 rfl (lv_at hl 0 rfl) ?_
      refine lv_aload_n S.1 S.2.1 dX3_ask_434 rfl (lv_at hl 0 rfl) ?_
      refine m_getA S hA hF hW 5 (by decide) (by decide) tf_X3_22 dX3_ask_435 ?_
      refine lv_iload_n S.1 S.2.1 dX3_ask_438 rfl (lv_at hl 1 rfl) ?_
      refine m_ald (x := (M 6 g)) S hA hF hW 5 (by decide) (by decide) rfl hg rfl dX3_ask_439 ?_
      refine c_V S hA hW hS (kX3_say l Z ws q M hF (M 6 g) ) ok_X3_say tm_X3_129 tn_X3_say tl_X3_say (fo_mem hF 0 (by decide)) rfl rfl ⟨Nat.le_of_ble_eq_true rfl, Nat.le_of_ble_eq_true rfl⟩ rfl hl.1 rfl (Nat.le_of_ble_eq_true rfl) dX3_ask_440 ⟨Nat.le_of_ble_eq_true rfl, Nat.le_of_ble_eq_true rfl⟩ (kk_v fun H locs hW hS => ?_)
      refine lv_goto (tgt := 557) S.1 S.2.1 dX3_ask_443 (by decide) ?_
      exact r_vret S hr hlk hW hS ⟨rfl, congrArg (fun z => mw Z ws q z) (show (fX3_say M (M 6 g)) = (fX3_ask M g a2) from Eq.symm (by unfold fX3_ask; rw [if_pos c1, if_neg c2, if_neg c9, if_neg c10, if_neg c12, if_neg c14, if_neg c15, if_neg c16, if_neg c17, if_neg c18, if_pos c19]))⟩ dX3_ask_557
    by_cases c20 : a2 = 165
    · refine lv_tableIn (off := 412) (tgt := 446) S.1 S.2.1 dX3_ask_34 (by rw [c20]; decide) (by rw [c20]; decide) (by rw [c20]; rfl) (by decide) ?_
      refine lv_aload_n S.1 S.2.1 dX3_ask_446 rfl (lv_at hl 0 rfl) ?_
      refine lv_bipush (v := 16) S.1 S.2.1 dX3_ask_447 (by decide) ?_
      refine lv_aload_n S.1 S.2.1 dX3_ask_449 rfl (lv_at hl 0 rfl) ?_
      refine m_getA S hA hF hW 6 (by decide) (by decide) tf_X3_25 dX3_ask_450 ?_
      refine lv_iload_n S.1 S.2.1 dX3_ask_453 rfl (lv_at hl 1 rfl) ?_
      refine m_ald (x := (M 7 g)) S hA hF hW 6 (by decide) (by decide) rfl hg rfl dX3_ask_454 ?_
      refine lv_imul S.1 S.2.1 dX3_ask_455 ?_
      refine lv_aload_n S.1 S.2.1 dX3_ask_456 rfl (lv_at hl 0 rfl) ?_
      refine m_getA S hA hF hW 7 (by decide) (by decide) tf_X3_28 dX3_ask_457 ?_
      refine lv_iload_n S.1 S.2.1 dX3_ask_460 rfl (lv_at hl 1 rfl) ?_
      refine m_ald (x := (M 8 g)) S hA hF hW 7 (by decide) (by decide) rfl hg rfl dX3_ask_461 ?_
      refine lv_iadd S.1 S.2.1 dX3_ask_462 ?_
      refine c_V S hA hW hS (kX3_say l Z ws q M hF ((16 * (M 7 g)) + (M 8 g)) ) ok_X3_say tm_X3_129 tn_X3_say tl_X3_say (fo_mem hF 0 (by decide)) rfl rfl ⟨Nat.le_of_ble_eq_true rfl, Nat.le_of_ble_eq_true rfl⟩ rfl hl.1 rfl (Nat.le_of_ble_eq_true rfl) dX3_ask_463 ⟨Nat.le_of_ble_eq_true rfl, Nat.le_of_ble_eq_true rfl⟩ (kk_v fun H locs hW hS => ?_)
      refine lv_goto (tgt := 557) S.1 S.2.1 dX3_ask_466 (by decide) ?_
      exact r_vret S hr hlk hW hS ⟨rfl, congrArg (fun z => mw Z ws q z) (show (fX3_say M ((16 * (M 7 g)) + (M 8 g))) = (fX3_ask M g a2) from Eq.symm (by unfold fX3_ask; rw [if_pos c1, if_neg c2, if_neg c9, if_neg c10, if_neg c12, if_neg c14, if_neg c15, if_neg c16, if_neg c17, if_neg c18, if_neg c19, if_pos c20]))⟩ dX3_ask_557
    by_cases c21 : a2 = 192
    · refine lv_tableIn (off := 435) (tgt := 469) S.1 S.2.1 dX3_ask_34 (by rw [c21]; decide) (by rw [c21]; decide) (by rw [c21]; rfl) (by decide) ?_
      refine lv_aload_n S.1 S.2.1 dX3_ask_469 rfl (lv_at hl 0 rfl) ?_
      refine lv_aload_n S.1 S.2.1 dX3_ask_470 rfl (lv_at hl 0 rfl) ?_
      refine m_getA S hA hF hW 8 (by decide) (by decide) tf_X3_31 dX3_ask_471 ?_
      refine lv_iload_n S.1 S.2.1 dX3_ask_474 rfl (lv_at hl 1 rfl) ?_
      refine m_ald (x := (M 9 g)) S hA hF hW 8 (by decide) (by decide) rfl hg rfl dX3_ask_475 ?_
      refine lv_sipush (v := 256) S.1 S.2.1 dX3_ask_476 (by decide) ?_
      refine lv_irem S.1 S.2.1 dX3_ask_479 (by decide) ?_
      refine c_V S hA hW hS (kX3_say l Z ws q M hF ((M 9 g) - (M 9 g) / 256 * 256) ) ok_X3_say tm_X3_129 tn_X3_say tl_X3_say (fo_mem hF 0 (by decide)) rfl rfl ⟨Nat.le_of_ble_eq_true rfl, Nat.le_of_ble_eq_true rfl⟩ rfl hl.1 rfl (Nat.le_of_ble_eq_true rfl) dX3_ask_480 ⟨Nat.le_of_ble_eq_true rfl, Nat.le_of_ble_eq_true rfl⟩ (kk_v fun H locs hW hS => ?_)
      refine lv_goto (tgt := 557) S.1 S.2.1 dX3_ask_483 (by decide) ?_
      exact r_vret S hr hlk hW hS ⟨rfl, congrArg (fun z => mw Z ws q z) (show (fX3_say M ((M 9 g) - (M 9 g) / 256 * 256)) = (fX3_ask M g a2) from Eq.symm (by unfold fX3_ask; rw [if_pos c1, if_neg c2, if_neg c9, if_neg c10, if_neg c12, if_neg c14, if_neg c15, if_neg c16, if_neg c17, if_neg c18, if_neg c19, if_neg c20, if_pos c21]))⟩ dX3_ask_557
    by_cases c22 : a2 = 193
    · refine lv_tableIn (off := 452) (tgt := 486) S.1 S.2.1 dX3_ask_34 (by rw [c22]; decide) (by rw [c22]; decide) (by rw [c22]; rfl) (by decide) ?_
      refine lv_aload_n S.1 S.2.1 dX3_ask_486 rfl (lv_at hl 0 rfl) ?_
      refine lv_aload_n S.1 S.2.1 dX3_ask_487 rfl (lv_at hl 0 rfl) ?_
      refine m_getA S hA hF hW 8 (by decide) (by decide) tf_X3_31 dX3_ask_488 ?_
      refine lv_iload_n S.1 S.2.1 dX3_ask_491 rfl (lv_at hl 1 rfl) ?_
      refine m_ald (x := (M 9 g)) S hA hF hW 8 (by decide) (by decide) rfl hg rfl dX3_ask_492 ?_
      refine lv_sipush (v := 256) S.1 S.2.1 dX3_ask_493 (by decide) ?_
      refine lv_idiv S.1 S.2.1 dX3_ask_496 (by decide) ?_
      refine c_V S hA hW hS (kX3_say l Z ws q M hF ((M 9 g) / 256) ) ok_X3_say tm_X3_129 tn_X3_say tl_X3_say (fo_mem hF 0 (by decide)) rfl rfl ⟨Nat.le_of_ble_eq_true rfl, Nat.le_of_ble_eq_true rfl⟩ rfl hl.1 rfl (Nat.le_of_ble_eq_true rfl) dX3_ask_497 ⟨Nat.le_of_ble_eq_true rfl, Nat.le_of_ble_eq_true rfl⟩ (kk_v fun H locs hW hS => ?_)
      refine lv_goto (tgt := 557) S.1 S.2.1 dX3_ask_500 (by decide) ?_
      exact r_vret S hr hlk hW hS ⟨rfl, congrArg (fun z => mw Z ws q z) (show (fX3_say M ((M 9 g) / 256)) = (fX3_ask M g a2) from Eq.symm (by unfold fX3_ask; rw [if_pos c1, if_neg c2, if_neg c9, if_neg c10, if_neg c12, if_neg c14, if_neg c15, if_neg c16, if_neg c17, if_neg c18, if_neg c19, if_neg c20, if_neg c21, if_pos c22]))⟩ dX3_ask_557
    by_cases c23 : a2 = 194
    · refine lv_tableIn (off := 469) (tgt := 503) S.1 S.2.1 dX3_ask_34 (by rw [c23]; decide) (by rw [c23]; decide) (by rw [c23]; rfl) (by decide) ?_
      refine lv_aload_n S.1 S.2.1 dX3_ask_503 rfl (lv_at hl 0 rfl) ?_
      refine lv_aload_n S.1 S.2.1 dX3_ask_504 rfl (lv_at hl 0 rfl) ?_
      refine m_getA S hA hF hW 11 (by decide) (by decide) tf_X3_40 dX3_ask_505 ?_
      refine lv_iload_n S.1 S.2.1 dX3_ask_508 rfl (lv_at hl 1 rfl) ?_
      refine m_ald (x := (M 12 g)) S hA hF hW 11 (by decide) (by decide) rfl hg rfl dX3_ask_509 ?_
      refine r_ldc S tk_X3_132 dX3_ask_510 ?_
      refine lv_idiv S.1 S.2.1 dX3_ask_512 (by decide) ?_
      refine c_V S hA hW hS (kX3_say l Z ws q M hF ((M 12 g) / 65536) ) ok_X3_say tm_X3_129 tn_X3_say tl_X3_say (fo_mem hF 0 (by decide)) rfl rfl ⟨Nat.le_of_ble_eq_true rfl, Nat.le_of_ble_eq_true rfl⟩ rfl hl.1 rfl (Nat.le_of_ble_eq_true rfl) dX3_ask_513 ⟨Nat.le_of_ble_eq_true rfl, Nat.le_of_ble_eq_true rfl⟩ (kk_v fun H locs hW hS => ?_)
      refine lv_goto (tgt := 557) S.1 S.2.1 dX3_ask_516 (by decide) ?_
      exact r_vret S hr hlk hW hS ⟨rfl, congrArg (fun z => mw Z ws q z) (show (fX3_say M ((M 12 g) / 65536)) = (fX3_ask M g a2) from Eq.symm (by unfold fX3_ask; rw [if_pos c1, if_neg c2, if_neg c9, if_neg c10, if_neg c12, if_neg c14, if_neg c15, if_neg c16, if_neg c17, if_neg c18, if_neg c19, if_neg c20, if_neg c21, if_neg c22, if_pos c23]))⟩ dX3_ask_557
    by_cases c24 : a2 = 195
    · refine lv_tableIn (off := 485) (tgt := 519) S.1 S.2.1 dX3_ask_34 (by rw [c24]; decide) (by rw [c24]; decide) (by rw [c24]; rfl) (by decide) ?_
      refine lv_aload_n S.1 S.2.1 dX3_ask_519 rfl (lv_at hl 0 rfl) ?_
      refine lv_aload_n S.1 S.2.1 dX3_ask_520 rfl (lv_at hl 0 rfl) ?_
      refine m_getA S hA hF hW 11 (by decide) (by decide) tf_X3_40 dX3_ask_521 ?_
      refine lv_iload_n S.1 S.2.1 dX3_ask_524 rfl (lv_at hl 1 rfl) ?_
      refine m_ald (x := (M 12 g)) S hA hF hW 11 (by decide) (by decide) rfl hg rfl dX3_ask_525 ?_
      refine lv_sipush (v := 256) S.1 S.2.1 dX3_ask_526 (by decide) ?_
      refine lv_idiv S.1 S.2.1 dX3_ask_529 (by decide) ?_
      refine lv_sipush (v := 256) S.1 S.2.1 dX3_ask_530 (by decide) ?_
      refine lv_irem S.1 S.2.1 dX3_ask_533 (by decide) ?_
      refine c_V S hA hW hS (kX3_say l Z ws q M hF (((M 12 g) / 256) - ((M 12 g) / 256) / 256 * 256) ) ok_X3_say tm_X3_129 tn_X3_say tl_X3_say (fo_mem hF 0 (by decide)) rfl rfl ⟨Nat.le_of_ble_eq_true rfl, Nat.le_of_ble_eq_true rfl⟩ rfl hl.1 rfl (Nat.le_of_ble_eq_true rfl) dX3_ask_534 ⟨Nat.le_of_ble_eq_true rfl, Nat.le_of_ble_eq_true rfl⟩ (kk_v fun H locs hW hS => ?_)
      refine lv_goto (tgt := 557) S.1 S.2.1 dX3_ask_537 (by decide) ?_
      exact r_vret S hr hlk hW hS ⟨rfl, congrArg (fun z => mw Z ws q z) (show (fX3_say M (((M 12 g) / 256) - ((M 12 g) / 256) / 256 * 256)) = (fX3_ask M g a2) from Eq.symm (by unfold fX3_ask; rw [if_pos c1, if_neg c2, if_neg c9, if_neg c10, if_neg c12, if_neg c14, if_neg c15, if_neg c16, if_neg c17, if_neg c18, if_neg c19, if_neg c20, if_neg c21, if_neg c22, if_neg c23, if_pos c24]))⟩ dX3_ask_557
    by_cases c25 : a2 = 196
    · refine lv_tableIn (off := 506) (tgt := 540) S.1 S.2.1 dX3_ask_34 (by rw [c25]; decide) (by rw [c25]; decide) (by rw [c25]; rfl) (by decide) ?_
      refine lv_aload_n S.1 S.2.1 dX3_ask_540 rfl (lv_at hl 0 rfl) ?_
      refine lv_aload_n S.1 S.2.1 dX3_ask_541 rfl (lv_at hl 0 rfl) ?_
      refine m_getA S hA hF hW 11 (by decide) (by decide) tf_X3_40 dX3_ask_542 ?_
      refine lv_iload_n S.1 S.2.1 dX3_ask_545 rfl (lv_at hl 1 rfl) ?_
      refine m_ald (x := (M 12 g)) S hA hF hW 11 (by decide) (by decide) rfl hg rfl dX3_ask_546 ?_
      refine lv_sipush (v := 256) S.1 S.2.1 dX3_ask_547 (by decide) ?_
      refine lv_irem S.1 S.2.1 dX3_ask_550 (by decide) ?_
      refine c_V S hA hW hS (kX3_say l Z ws q M hF ((M 12 g) - (M 12 g) / 256 * 256) ) ok_X3_say tm_X3_129 tn_X3_say tl_X3_say (fo_mem hF 0 (by decide)) rfl rfl ⟨Nat.le_of_ble_eq_true rfl, Nat.le_of_ble_eq_true rfl⟩ rfl hl.1 rfl (Nat.le_of_ble_eq_true rfl) dX3_ask_551 ⟨Nat.le_of_ble_eq_true rfl, Nat.le_of_ble_eq_true rfl⟩ (kk_v fun H locs hW hS => ?_)
      refine lv_goto (tgt := 557) S.1 S.2.1 dX3_ask_554 (by decide) ?_
      exact r_vret S hr hlk hW hS ⟨rfl, congrArg (fun z => mw Z ws q z) (show (fX3_say M ((M 12 g) - (M 12 g) / 256 * 256)) = (fX3_ask M g a2) from Eq.symm (by unfold fX3_ask; rw [if_pos c1, if_neg c2, if_neg c9, if_neg c10, if_neg c12, if_neg c14, if_neg c15, if_neg c16, if_neg c17, if_neg c18, if_neg c19, if_neg c20, if_neg c21, if_neg c22, if_neg c23, if_neg c24, if_pos c25]))⟩ dX3_ask_557
    refine sw_tab (tgt := 557) [144, 145, 147, 150, 152, 160, 161, 162, 163, 164, 165, 192, 193, 194, 195, 196] S.1 S.2.1 dX3_ask_34 (by decide) (List.forall_mem_cons.mpr ⟨c2, List.forall_mem_cons.mpr ⟨c9, List.forall_mem_cons.mpr ⟨c10, List.forall_mem_cons.mpr ⟨c12, List.forall_mem_cons.mpr ⟨c14, List.forall_mem_cons.mpr ⟨c15, List.forall_mem_cons.mpr ⟨c16, List.forall_mem_cons.mpr ⟨c17, List.forall_mem_cons.mpr ⟨c18, List.forall_mem_cons.mpr ⟨c19, List.forall_mem_cons.mpr ⟨c20, List.forall_mem_cons.mpr ⟨c21, List.forall_mem_cons.mpr ⟨c22, List.forall_mem_cons.mpr ⟨c23, List.forall_mem_cons.mpr ⟨c24, List.forall_mem_cons.mpr ⟨c25, fun _ h => absurd h List.not_mem_nil⟩⟩⟩⟩⟩⟩⟩⟩⟩⟩⟩⟩⟩⟩⟩⟩) (by decide +kernel) ?_
    exact r_vret S hr hlk hW hS ⟨rfl, congrArg (fun z => mw Z ws q z) (show M = (fX3_ask M g a2) from Eq.symm (by unfold fX3_ask; rw [if_pos c1, if_neg c2, if_neg c9, if_neg c10, if_neg c12, if_neg c14, if_neg c15, if_neg c16, if_neg c17, if_neg c18, if_neg c19, if_neg c20, if_neg c21, if_neg c22, if_neg c23, if_neg c24, if_neg c25]))⟩ dX3_ask_557
  · skip
    refine lv_aload_n S.1 S.2.1 dX3_ask_13 rfl (lv_at hl 0 rfl) ?_
    refine lv_aload_n S.1 S.2.1 dX3_ask_14 rfl (lv_at hl 0 rfl) ?_
    refine m_getA S hA hF hW 9 (by decide) (by decide) tf_X3_34 dX3_ask_15 ?_
    refine lv_bipush (v := 16) S.1 S.2.1 dX3_ask_18 (by decide) ?_
    refine lv_iload_n S.1 S.2.1 dX3_ask_20 rfl (lv_at hl 1 rfl) ?_
    refine lv_imul S.1 S.2.1 dX3_ask_21 ?_
    refine lv_iload_n S.1 S.2.1 dX3_ask_22 rfl (lv_at hl 2 rfl) ?_
    refine lv_iadd S.1 S.2.1 dX3_ask_23 ?_
    refine lv_sipush (v := 176) S.1 S.2.1 dX3_ask_24 (by decide) ?_
    refine lv_isub S.1 S.2.1 dX3_ask_27 ?_
    refine m_aldX (x := (M 10 (((16 * (nI g)) + a2) - 176).toNatClampNeg)) S hA hF hW 9 (by decide) (by decide) rfl (sc_in (lo := 176) hg (by decide) (isIn_of (by assumption)).1 (isIn_of (by assumption)).2) rfl dX3_ask_28 ?_
    refine c_V S hA hW hS (kX3_say l Z ws q M hF (M 10 (((16 * (nI g)) + a2) - 176).toNatClampNeg) ) ok_X3_say tm_X3_129 tn_X3_say tl_X3_say (fo_mem hF 0 (by decide)) rfl rfl ⟨Nat.le_of_ble_eq_true rfl, Nat.le_of_ble_eq_true rfl⟩ rfl hl.1 rfl (Nat.le_of_ble_eq_true rfl) dX3_ask_29 ⟨Nat.le_of_ble_eq_true rfl, Nat.le_of_ble_eq_true rfl⟩ (kk_v fun H locs hW hS => ?_)
    exact r_vret S hr hlk hW hS ⟨rfl, congrArg (fun z => mw Z ws q z) (show (fX3_say M (M 10 (((16 * (nI g)) + a2) - 176).toNatClampNeg)) = (fX3_ask M g a2) from Eq.symm (by unfold fX3_ask; rw [if_neg c1]))⟩ dX3_ask_32
def fX3_special_j15 (M : Nat → Nat → Int32) (g : Nat) (a2 : Int32) (a3 : Int32) (a4 : Int32) (x1 : Int32) (x2 : Int32) (x15 : Int32) : (Nat → Nat → Int32) :=
  (up2 M 12 g x15)
def fX3_special_j23 (M : Nat → Nat → Int32) (g : Nat) (a2 : Int32) (a3 : Int32) (a4 : Int32) (x1 : Int32) (x2 : Int32) (x23 : Int32) : (Nat → Nat → Int32) :=
  (up2 M 17 g x23)
def fX3_special_j37 (M : Nat → Nat → Int32) (g : Nat) (a2 : Int32) (a3 : Int32) (a4 : Int32) (x1 : Int32) (x2 : Int32) (x37 : Int32) : (Nat → Nat → Int32) :=
  (fX3_say M x37)
def fX3_special_j2 (M : Nat → Nat → Int32) (g : Nat) (a2 : Int32) (a3 : Int32) (a4 : Int32) (x1 : Int32) (x2 : Int32) : (Nat → Nat → Int32) :=
  (if a2 = 161 then (up2 M 16 g 0) else (if a2 = 163 then (up2 M 13 g a3) else (if a2 = 165 then (if a4 = 0 then M else (if a3 = 0 then (up2 (up2 M 16 g 1) 17 g 0) else (if a3 = 255 then (if (M 11 g) = 255 then (up2 (up2 M 16 g 1) 17 g 0) else (if x1 = 0 then M else (if (M 11 g) = ((a3 - 1) / 2) then (up2 (up2 M 16 g 1) 17 g 0) else M))) else (if x1 = 0 then M else (if (M 11 g) = ((a3 - 1) / 2) then (up2 (up2 M 16 g 1) 17 g 0) else M))))) else (if a2 = 167 then (fX3_special_j15 M g a2 a3 a4 x1 x2 (if a4 = 0 then (M 12 g) else (if (M 16 g) = 0 then (M 12 g) else (M 15 g)))) else (if a2 = 169 then (if (M 16 g) = 0 then M else (if (M 17 g) = 0 then (if (M 14 g) < (M 12 g) then M else (fX3_say M 255)) else M)) else (if a2 = 171 then (fX3_special_j23 M g a2 a3 a4 x1 x2 (if (M 17 g) = 0 then (if x2 = 0 then 0 else 1) else 1)) else (if a2 = 177 then (up2 M 14 g (((M 14 g) - (M 14 g) / 65536 * 65536) + (65536 * a3))) else (if a2 = 179 then (up2 M 14 g (((((M 14 g) / 65536) * 65536) + ((M 14 g) - (M 14 g) / 256 * 256)) + (256 * a3))) else (if a2 = 181 then (up2 M 14 g ((((M 14 g) / 256) * 256) + a3)) else (if a2 = 183 then (if x2 = 0 then M else (fX3_setShort M g a3)) else (if a2 = 185 then (if x2 = 0 then M else (if x1 = 0 then M else (if (M 11 g) = ((a3 - 1) / 2) then (fX3_say M 255) else M))) else (if a2 = 187 then (if x2 = 0 then M else (fX3_special_j37 M g a2 a3 a4 x1 x2 (if (M 11 g) = 255 then 255 else ((2 * (M 11 g)) + 1)))) else M))))))))))))
def fX3_special_j1 (M : Nat → Nat → Int32) (g : Nat) (a2 : Int32) (a3 : Int32) (a4 : Int32) (x1 : Int32) : (Nat → Nat → Int32) :=
  (fX3_special_j2 M g a2 a3 a4 x1 (if (M 16 g) = 0 then 0 else (if (M 17 g) = 0 then (if (M 12 g) = (M 14 g) then 1 else 0) else 0)))
def fX3_special (M : Nat → Nat → Int32) (g : Nat) (a2 : Int32) (a3 : Int32) (a4 : Int32) : (Nat → Nat → Int32) :=
  (fX3_special_j1 M g a2 a3 a4 (if (a3 - a3 / 2 * 2) = 1 then (if 128 ≤ a3 then 0 else 1) else 0))
set_option maxRecDepth 100000 in
set_option maxHeartbeats 4000000 in
theorem kX3_special (l : Launch) (Z : Zt) (ws : va_W) (q : Nat → Nat) (M : Nat → Nat → Int32) (hF : FI ws 23 q) (g : Nat) (hg : g < 16) (a2 : Int32) (a3 : Int32) (a4 : Int32)  : Ct l Z yX3_special cX3_special 7 none 1 22 0 0 (mw Z ws q M) [.ref (q 0), .int (nI g), .int a2, .int a3, .int a4] (fun r w => r = none ∧ w = mw Z ws q (fX3_special M g a2 a3 a4)) := by
  refine Ct.start (by decide) (Nat.le_of_ble_eq_true rfl) ?_
  intro p e s m below meth c S hr hlk hnm hA hW hS ls hl
  replace S : CallFix p m c cX3_special 7 s _ TB RX3 := S
  replace hl : lv_has ls 7 [(0, .ref (q 0)), (1, .int (nI g)), (2, .int a2), (3, .int a3), (4, .int a4)] := hl
  refine lv_iload_n S.1 S.2.1 dX3_special_0 rfl (lv_at hl 3 rfl) ?_
  refine lv_iconst (v := 2) S.1 S.2.1 dX3_special_1 (by decide) ?_
  refine lv_irem S.1 S.2.1 dX3_special_2 (by decide) ?_
  refine lv_iconst (v := 1) S.1 S.2.1 dX3_special_3 (by decide) ?_
  refine jn (Z := Z) (tree := (if (a3 - a3 / 2 * 2) = 1 then (if 128 ≤ a3 then 0 else 1) else 0)) 19 [] (mw Z ws q M) (fun x1 H locs e1 hW hS => ?_) (fun K1 => ?_)
  · skip
    refine lv_istore (lv' := [(5, .int x1), (0, .ref (q 0)), (1, .int (nI g)), (2, .int a2), (3, .int a3), (4, .int a4)]) S.1 S.2.1 dX3_special_19 hl (by decide) rfl (fun ls hl => ?_)
    refine lv_aload_n S.1 S.2.1 dX3_special_21 rfl (lv_at hl 1 rfl) ?_
    refine m_getA S hA hF hW 15 (by decide) (by decide) tf_X3_52 dX3_special_22 ?_
    refine lv_iload_n S.1 S.2.1 dX3_special_25 rfl (lv_at hl 2 rfl) ?_
    refine m_zald (x := (M 16 g)) S hA hF hW 15 (by decide) (by decide) rfl rfl hg rfl dX3_special_26 ?_
    refine jn (Z := Z) (tree := (if (M 16 g) = 0 then 0 else (if (M 17 g) = 0 then (if (M 12 g) = (M 14 g) then 1 else 0) else 0))) 59 [] (mw Z ws q M) (fun x2 H locs e2 hW hS => ?_) (fun K2 => ?_)
    · skip
      refine lv_istore (lv' := [(6, .int x2), (5, .int x1), (0, .ref (q 0)), (1, .int (nI g)), (2, .int a2), (3, .int a3), (4, .int a4)]) S.1 S.2.1 dX3_special_59 hl (by decide) rfl (fun ls hl => ?_)
      refine lv_iload_n S.1 S.2.1 dX3_special_61 rfl (lv_at hl 4 rfl) ?_
      by_cases c3 : a2 = 161
      · refine lv_tableIn (off := 122) (tgt := 184) S.1 S.2.1 dX3_special_62 (by rw [c3]; decide) (by rw [c3]; decide) (by rw [c3]; rfl) (by decide) ?_
        refine lv_aload_n S.1 S.2.1 dX3_special_184 rfl (lv_at hl 2 rfl) ?_
        refine m_getA S hA hF hW 15 (by decide) (by decide) tf_X3_52 dX3_special_185 ?_
        refine lv_iload_n S.1 S.2.1 dX3_special_188 rfl (lv_at hl 3 rfl) ?_
        refine lv_iconst (v := 0) S.1 S.2.1 dX3_special_189 (by decide) ?_
        refine m_zast (x := 0) S hA hF hW hS 15 (by decide) (by decide) rfl rfl hg rfl dX3_special_190 (fun H locs hW hS => ?_)
        refine lv_goto (tgt := 551) S.1 S.2.1 dX3_special_191 (by decide) ?_
        exact r_vret S hr hlk hW hS ⟨rfl, congrArg (fun z => mw Z ws q z) (show (up2 M 16 g 0) = (fX3_special M g a2 a3 a4) from Eq.symm (by unfold fX3_special; rw [← e1]; unfold fX3_special_j1; rw [← e2]; unfold fX3_special_j2; rw [if_pos c3]))⟩ dX3_special_551
      by_cases c4 : a2 = 163
      · refine lv_tableIn (off := 132) (tgt := 194) S.1 S.2.1 dX3_special_62 (by rw [c4]; decide) (by rw [c4]; decide) (by rw [c4]; rfl) (by decide) ?_
        refine lv_aload_n S.1 S.2.1 dX3_special_194 rfl (lv_at hl 2 rfl) ?_
        refine m_getA S hA hF hW 12 (by decide) (by decide) tf_X3_43 dX3_special_195 ?_
        refine lv_iload_n S.1 S.2.1 dX3_special_198 rfl (lv_at hl 3 rfl) ?_
        refine lv_iload_n S.1 S.2.1 dX3_special_199 rfl (lv_at hl 5 rfl) ?_
        refine m_ast (x := a3) S hA hF hW hS 12 (by decide) (by decide) rfl hg dX3_special_200 (fun H locs hW hS => ?_)
        refine lv_goto (tgt := 551) S.1 S.2.1 dX3_special_201 (by decide) ?_
        exact r_vret S hr hlk hW hS ⟨rfl, congrArg (fun z => mw Z ws q z) (show (up2 M 13 g a3) = (fX3_special M g a2 a3 a4) from Eq.symm (by unfold fX3_special; rw [← e1]; unfold fX3_special_j1; rw [← e2]; unfold fX3_special_j2; rw [if_neg c3, if_pos c4]))⟩ dX3_special_551
      by_cases c5 : a2 = 165
      · refine lv_tableIn (off := 142) (tgt := 204) S.1 S.2.1 dX3_special_62 (by rw [c5]; decide) (by rw [c5]; decide) (by rw [c5]; rfl) (by decide) ?_
        refine lv_iload S.1 S.2.1 dX3_special_204 (lv_at hl 6 rfl) ?_
        refine lv_if_eq (tgt := 551) S.1 S.2.1 dX3_special_206 (by decide) (fun c6 => ?_) (fun c6 => ?_)
        · skip
          exact r_vret S hr hlk hW hS ⟨rfl, congrArg (fun z => mw Z ws q z) (show M = (fX3_special M g a2 a3 a4) from Eq.symm (by unfold fX3_special; rw [← e1]; unfold fX3_special_j1; rw [← e2]; unfold fX3_special_j2; rw [if_neg c3, if_neg c4, if_pos c5, if_pos c6]))⟩ dX3_special_551
        · skip
          refine lv_iload_n S.1 S.2.1 dX3_special_209 rfl (lv_at hl 5 rfl) ?_
          refine lv_if_eq (tgt := 251) S.1 S.2.1 dX3_special_210 (by decide) (fun c7 => ?_) (fun c7 => ?_)
          · skip
            refine lv_aload_n S.1 S.2.1 dX3_special_251 rfl (lv_at hl 2 rfl) ?_
            refine m_getA S hA hF hW 15 (by decide) (by decide) tf_X3_52 dX3_special_252 ?_
            refine lv_iload_n S.1 S.2.1 dX3_special_255 rfl (lv_at hl 3 rfl) ?_
            refine lv_iconst (v := 1) S.1 S.2.1 dX3_special_256 (by decide) ?_
            refine m_zast (x := 1) S hA hF hW hS 15 (by decide) (by decide) rfl rfl hg rfl dX3_special_257 (fun H locs hW hS => ?_)
            refine lv_aload_n S.1 S.2.1 dX3_special_258 rfl (lv_at hl 2 rfl) ?_
            refine m_getA S hA hF hW 16 (by decide) (by decide) tf_X3_56 dX3_special_259 ?_
            refine lv_iload_n S.1 S.2.1 dX3_special_262 rfl (lv_at hl 3 rfl) ?_
            refine lv_iconst (v := 0) S.1 S.2.1 dX3_special_263 (by decide) ?_
            refine m_zast (x := 0) S hA hF hW hS 16 (by decide) (by decide) rfl rfl hg rfl dX3_special_264 (fun H locs hW hS => ?_)
            refine lv_goto (tgt := 551) S.1 S.2.1 dX3_special_265 (by decide) ?_
            exact r_vret S hr hlk hW hS ⟨rfl, congrArg (fun z => mw Z ws q z) (show (up2 (up2 M 16 g 1) 17 g 0) = (fX3_special M g a2 a3 a4) from Eq.symm (by unfold fX3_special; rw [← e1]; unfold fX3_special_j1; rw [← e2]; unfold fX3_special_j2; rw [if_neg c3, if_neg c4, if_pos c5, if_neg c6, if_pos c7]))⟩ dX3_special_551
          · skip
            refine lv_iload_n S.1 S.2.1 dX3_special_213 rfl (lv_at hl 5 rfl) ?_
            refine lv_sipush (v := 255) S.1 S.2.1 dX3_special_214 (by decide) ?_
            refine lv_icmp_ne (tgt := 232) S.1 S.2.1 dX3_special_217 (by decide) (fun c8 => ?_) (fun c8 => ?_)
            · skip
              refine lv_iload S.1 S.2.1 dX3_special_232 (lv_at hl 1 rfl) ?_
              refine lv_if_eq (tgt := 551) S.1 S.2.1 dX3_special_234 (by decide) (fun c9 => ?_) (fun c9 => ?_)
              · skip
                exact r_vret S hr hlk hW hS ⟨rfl, congrArg (fun z => mw Z ws q z) (show M = (fX3_special M g a2 a3 a4) from Eq.symm (by unfold fX3_special; rw [← e1]; unfold fX3_special_j1; rw [← e2]; unfold fX3_special_j2; rw [if_neg c3, if_neg c4, if_pos c5, if_neg c6, if_neg c7, if_neg c8, if_pos c9]))⟩ dX3_special_551
              · skip
                refine lv_aload_n S.1 S.2.1 dX3_special_237 rfl (lv_at hl 2 rfl) ?_
                refine m_getA S hA hF hW 10 (by decide) (by decide) tf_X3_37 dX3_special_238 ?_
                refine lv_iload_n S.1 S.2.1 dX3_special_241 rfl (lv_at hl 3 rfl) ?_
                refine m_ald (x := (M 11 g)) S hA hF hW 10 (by decide) (by decide) rfl hg rfl dX3_special_242 ?_
                refine lv_iload_n S.1 S.2.1 dX3_special_243 rfl (lv_at hl 5 rfl) ?_
                refine lv_iconst (v := 1) S.1 S.2.1 dX3_special_244 (by decide) ?_
                refine lv_isub S.1 S.2.1 dX3_special_245 ?_
                refine lv_iconst (v := 2) S.1 S.2.1 dX3_special_246 (by decide) ?_
                refine lv_idiv S.1 S.2.1 dX3_special_247 (by decide) ?_
                refine lv_icmp_ne (tgt := 551) S.1 S.2.1 dX3_special_248 (by decide) (fun c10 => ?_) (fun c10 => ?_)
                · skip
                  exact r_vret S hr hlk hW hS ⟨rfl, congrArg (fun z => mw Z ws q z) (show M = (fX3_special M g a2 a3 a4) from Eq.symm (by unfold fX3_special; rw [← e1]; unfold fX3_special_j1; rw [← e2]; unfold fX3_special_j2; rw [if_neg c3, if_neg c4, if_pos c5, if_neg c6, if_neg c7, if_neg c8, if_neg c9, if_neg c10]))⟩ dX3_special_551
                · skip
                  refine lv_aload_n S.1 S.2.1 dX3_special_251 rfl (lv_at hl 2 rfl) ?_
                  refine m_getA S hA hF hW 15 (by decide) (by decide) tf_X3_52 dX3_special_252 ?_
                  refine lv_iload_n S.1 S.2.1 dX3_special_255 rfl (lv_at hl 3 rfl) ?_
                  refine lv_iconst (v := 1) S.1 S.2.1 dX3_special_256 (by decide) ?_
                  refine m_zast (x := 1) S hA hF hW hS 15 (by decide) (by decide) rfl rfl hg rfl dX3_special_257 (fun H locs hW hS => ?_)
                  refine lv_aload_n S.1 S.2.1 dX3_special_258 rfl (lv_at hl 2 rfl) ?_
                  refine m_getA S hA hF hW 16 (by decide) (by decide) tf_X3_56 dX3_special_259 ?_
                  refine lv_iload_n S.1 S.2.1 dX3_special_262 rfl (lv_at hl 3 rfl) ?_
                  refine lv_iconst (v := 0) S.1 S.2.1 dX3_special_263 (by decide) ?_
                  refine m_zast (x := 0) S hA hF hW hS 16 (by decide) (by decide) rfl rfl hg rfl dX3_special_264 (fun H locs hW hS => ?_)
                  refine lv_goto (tgt := 551) S.1 S.2.1 dX3_special_265 (by decide) ?_
                  exact r_vret S hr hlk hW hS ⟨rfl, congrArg (fun z => mw Z ws q z) (show (up2 (up2 M 16 g 1) 17 g 0) = (fX3_special M g a2 a3 a4) from Eq.symm (by unfold fX3_special; rw [← e1]; unfold fX3_special_j1; rw [← e2]; unfold fX3_special_j2; rw [if_neg c3, if_neg c4, if_pos c5, if_neg c6, if_neg c7, if_neg c8, if_neg c9, if_pos c10]))⟩ dX3_special_551
            · skip
              refine lv_aload_n S.1 S.2.1 dX3_special_220 rfl (lv_at hl 2 rfl) ?_
              refine m_getA S hA hF hW 10 (by decide) (by decide) tf_X3_37 dX3_special_221 ?_
              refine lv_iload_n S.1 S.2.1 dX3_special_224 rfl (lv_at hl 3 rfl) ?_
              refine m_ald (x := (M 11 g)) S hA hF hW 10 (by decide) (by decide) rfl hg rfl dX3_special_225 ?_
              refine lv_sipush (v := 255) S.1 S.2.1 dX3_special_226 (by decide) ?_
              refine lv_icmp_eq (tgt := 251) S.1 S.2.1 dX3_special_229 (by decide) (fun c11 => ?_) (fun c11 => ?_)
              · skip
                refine lv_aload_n S.1 S.2.1 dX3_special_251 rfl (lv_at hl 2 rfl) ?_
                refine m_getA S hA hF hW 15 (by decide) (by decide) tf_X3_52 dX3_special_252 ?_
                refine lv_iload_n S.1 S.2.1 dX3_special_255 rfl (lv_at hl 3 rfl) ?_
                refine lv_iconst (v := 1) S.1 S.2.1 dX3_special_256 (by decide) ?_
                refine m_zast (x := 1) S hA hF hW hS 15 (by decide) (by decide) rfl rfl hg rfl dX3_special_257 (fun H locs hW hS => ?_)
                refine lv_aload_n S.1 S.2.1 dX3_special_258 rfl (lv_at hl 2 rfl) ?_
                refine m_getA S hA hF hW 16 (by decide) (by decide) tf_X3_56 dX3_special_259 ?_
                refine lv_iload_n S.1 S.2.1 dX3_special_262 rfl (lv_at hl 3 rfl) ?_
                refine lv_iconst (v := 0) S.1 S.2.1 dX3_special_263 (by decide) ?_
                refine m_zast (x := 0) S hA hF hW hS 16 (by decide) (by decide) rfl rfl hg rfl dX3_special_264 (fun H locs hW hS => ?_)
                refine lv_goto (tgt := 551) S.1 S.2.1 dX3_special_265 (by decide) ?_
                exact r_vret S hr hlk hW hS ⟨rfl, congrArg (fun z => mw Z ws q z) (show (up2 (up2 M 16 g 1) 17 g 0) = (fX3_special M g a2 a3 a4) from Eq.symm (by unfold fX3_special; rw [← e1]; unfold fX3_special_j1; rw [← e2]; unfold fX3_special_j2; rw [if_neg c3, if_neg c4, if_pos c5, if_neg c6, if_neg c7, if_pos c8, if_pos c11]))⟩ dX3_special_551
              · skip
                refine lv_iload S.1 S.2.1 dX3_special_232 (lv_at hl 1 rfl) ?_
                refine lv_if_eq (tgt := 551) S.1 S.2.1 dX3_special_234 (by decide) (fun c12 => ?_) (fun c12 => ?_)
                · skip
                  exact r_vret S hr hlk hW hS ⟨rfl, congrArg (fun z => mw Z ws q z) (show M = (fX3_special M g a2 a3 a4) from Eq.symm (by unfold fX3_special; rw [← e1]; unfold fX3_special_j1; rw [← e2]; unfold fX3_special_j2; rw [if_neg c3, if_neg c4, if_pos c5, if_neg c6, if_neg c7, if_pos c8, if_neg c11, if_pos c12]))⟩ dX3_special_551
                · skip
                  refine lv_aload_n S.1 S.2.1 dX3_special_237 rfl (lv_at hl 2 rfl) ?_
                  refine m_getA S hA hF hW 10 (by decide) (by decide) tf_X3_37 dX3_special_238 ?_
                  refine lv_iload_n S.1 S.2.1 dX3_special_241 rfl (lv_at hl 3 rfl) ?_
                  refine m_ald (x := (M 11 g)) S hA hF hW 10 (by decide) (by decide) rfl hg rfl dX3_special_242 ?_
                  refine lv_iload_n S.1 S.2.1 dX3_special_243 rfl (lv_at hl 5 rfl) ?_
                  refine lv_iconst (v := 1) S.1 S.2.1 dX3_special_244 (by decide) ?_
                  refine lv_isub S.1 S.2.1 dX3_special_245 ?_
                  refine lv_iconst (v := 2) S.1 S.2.1 dX3_special_246 (by decide) ?_
                  refine lv_idiv S.1 S.2.1 dX3_special_247 (by decide) ?_
                  refine lv_icmp_ne (tgt := 551) S.1 S.2.1 dX3_special_248 (by decide) (fun c13 => ?_) (fun c13 => ?_)
                  · skip
                    exact r_vret S hr hlk hW hS ⟨rfl, congrArg (fun z => mw Z ws q z) (show M = (fX3_special M g a2 a3 a4) from Eq.symm (by unfold fX3_special; rw [← e1]; unfold fX3_special_j1; rw [← e2]; unfold fX3_special_j2; rw [if_neg c3, if_neg c4, if_pos c5, if_neg c6, if_neg c7, if_pos c8, if_neg c11, if_neg c12, if_neg c13]))⟩ dX3_special_551
                  · skip
                    refine lv_aload_n S.1 S.2.1 dX3_special_251 rfl (lv_at hl 2 rfl) ?_
                    refine m_getA S hA hF hW 15 (by decide) (by decide) tf_X3_52 dX3_special_252 ?_
                    refine lv_iload_n S.1 S.2.1 dX3_special_255 rfl (lv_at hl 3 rfl) ?_
                    refine lv_iconst (v := 1) S.1 S.2.1 dX3_special_256 (by decide) ?_
                    refine m_zast (x := 1) S hA hF hW hS 15 (by decide) (by decide) rfl rfl hg rfl dX3_special_257 (fun H locs hW hS => ?_)
                    refine lv_aload_n S.1 S.2.1 dX3_special_258 rfl (lv_at hl 2 rfl) ?_
                    refine m_getA S hA hF hW 16 (by decide) (by decide) tf_X3_56 dX3_special_259 ?_
                    refine lv_iload_n S.1 S.2.1 dX3_special_262 rfl (lv_at hl 3 rfl) ?_
                    refine lv_iconst (v := 0) S.1 S.2.1 dX3_special_263 (by decide) ?_
                    refine m_zast (x := 0) S hA hF hW hS 16 (by decide) (by decide) rfl rfl hg rfl dX3_special_264 (fun H locs hW hS => ?_)
                    refine lv_goto (tgt := 551) S.1 S.2.1 dX3_special_265 (by decide) ?_
                    exact r_vret S hr hlk hW hS ⟨rfl, congrArg (fun z => mw Z ws q z) (show (up2 (up2 M 16 g 1) 17 g 0) = (fX3_special M g a2 a3 a4) from Eq.symm (by unfold fX3_special; rw [← e1]; unfold fX3_special_j1; rw [← e2]; unfold fX3_special_j2; rw [if_neg c3, if_neg c4, if_pos c5, if_neg c6, if_neg c7, if_pos c8, if_neg c11, if_neg c12, if_pos c13]))⟩ dX3_special_551
      by_cases c14 : a2 = 167
      · refine lv_tableIn (off := 206) (tgt := 268) S.1 S.2.1 dX3_special_62 (by rw [c14]; decide) (by rw [c14]; decide) (by rw [c14]; rfl) (by decide) ?_
        refine lv_aload_n S.1 S.2.1 dX3_special_268 rfl (lv_at hl 2 rfl) ?_
        refine m_getA S hA hF hW 11 (by decide) (by decide) tf_X3_40 dX3_special_269 ?_
        refine lv_iload_n S.1 S.2.1 dX3_special_272 rfl (lv_at hl 3 rfl) ?_
        refine lv_iload S.1 S.2.1 dX3_special_273 (lv_at hl 6 rfl) ?_
        refine jn (Z := Z) (tree := (if a4 = 0 then (M 12 g) else (if (M 16 g) = 0 then (M 12 g) else (M 15 g)))) 302 [.int (nI g), .ref (q 11)] (mw Z ws q M) (fun x15 H locs e15 hW hS => ?_) (fun K15 => ?_)
        · skip
          refine m_ast (x := x15) S hA hF hW hS 11 (by decide) (by decide) rfl hg dX3_special_302 (fun H locs hW hS => ?_)
          refine lv_goto (tgt := 551) S.1 S.2.1 dX3_special_303 (by decide) ?_
          exact r_vret S hr hlk hW hS ⟨rfl, congrArg (fun z => mw Z ws q z) (show (up2 M 12 g x15) = (fX3_special M g a2 a3 a4) from Eq.symm (by first | rfl | (unfold fX3_special; rw [← e1]; unfold fX3_special_j1; rw [← e2]; unfold fX3_special_j2; rw [if_neg c3, if_neg c4, if_neg c5, if_pos c14, ← e15]; unfold fX3_special_j15; done) | (unfold fX3_special; rw [← e1]; unfold fX3_special_j1; rw [← e2]; unfold fX3_special_j2; rw [if_neg c3, if_neg c4, if_neg c5, if_pos c14, ← e15]; unfold fX3_special_j15; rfl)))⟩ dX3_special_551
        · skip
          refine lv_if_eq (tgt := 296) S.1 S.2.1 dX3_special_275 (by decide) (fun c16 => ?_) (fun c16 => ?_)
          · skip
            refine lv_aload_n S.1 S.2.1 dX3_special_296 rfl (lv_at hl 2 rfl) ?_
            refine m_getA S hA hF hW 11 (by decide) (by decide) tf_X3_40 dX3_special_297 ?_
            refine lv_iload_n S.1 S.2.1 dX3_special_300 rfl (lv_at hl 3 rfl) ?_
            refine m_ald (x := (M 12 g)) S hA hF hW 11 (by decide) (by decide) rfl hg rfl dX3_special_301 ?_
            exact K15 _ _ _ (by rw [if_pos c16]) hW hS
          · skip
            refine lv_aload_n S.1 S.2.1 dX3_special_278 rfl (lv_at hl 2 rfl) ?_
            refine m_getA S hA hF hW 15 (by decide) (by decide) tf_X3_52 dX3_special_279 ?_
            refine lv_iload_n S.1 S.2.1 dX3_special_282 rfl (lv_at hl 3 rfl) ?_
            refine m_zald (x := (M 16 g)) S hA hF hW 15 (by decide) (by decide) rfl rfl hg rfl dX3_special_283 ?_
            refine lv_if_eq (tgt := 296) S.1 S.2.1 dX3_special_284 (by decide) (fun c17 => ?_) (fun c17 => ?_)
            · skip
              refine lv_aload_n S.1 S.2.1 dX3_special_296 rfl (lv_at hl 2 rfl) ?_
              refine m_getA S hA hF hW 11 (by decide) (by decide) tf_X3_40 dX3_special_297 ?_
              refine lv_iload_n S.1 S.2.1 dX3_special_300 rfl (lv_at hl 3 rfl) ?_
              refine m_ald (x := (M 12 g)) S hA hF hW 11 (by decide) (by decide) rfl hg rfl dX3_special_301 ?_
              exact K15 _ _ _ (by rw [if_neg c16, if_pos c17]) hW hS
            · skip
              refine lv_aload_n S.1 S.2.1 dX3_special_287 rfl (lv_at hl 2 rfl) ?_
              refine m_getA S hA hF hW 14 (by decide) (by decide) tf_X3_49 dX3_special_288 ?_
              refine lv_iload_n S.1 S.2.1 dX3_special_291 rfl (lv_at hl 3 rfl) ?_
              refine m_ald (x := (M 15 g)) S hA hF hW 14 (by decide) (by decide) rfl hg rfl dX3_special_292 ?_
              refine lv_goto (tgt := 302) S.1 S.2.1 dX3_special_293 (by decide) ?_
              exact K15 _ _ _ (by rw [if_neg c16, if_neg c17]) hW hS
      by_cases c18 : a2 = 169
      · refine lv_tableIn (off := 244) (tgt := 306) S.1 S.2.1 dX3_special_62 (by rw [c18]; decide) (by rw [c18]; decide) (by rw [c18]; rfl) (by decide) ?_
        refine lv_aload_n S.1 S.2.1 dX3_special_306 rfl (lv_at hl 2 rfl) ?_
        refine m_getA S hA hF hW 15 (by decide) (by decide) tf_X3_52 dX3_special_307 ?_
        refine lv_iload_n S.1 S.2.1 dX3_special_310 rfl (lv_at hl 3 rfl) ?_
        refine m_zald (x := (M 16 g)) S hA hF hW 15 (by decide) (by decide) rfl rfl hg rfl dX3_special_311 ?_
        refine lv_if_eq (tgt := 551) S.1 S.2.1 dX3_special_312 (by decide) (fun c19 => ?_) (fun c19 => ?_)
        · skip
          exact r_vret S hr hlk hW hS ⟨rfl, congrArg (fun z => mw Z ws q z) (show M = (fX3_special M g a2 a3 a4) from Eq.symm (by unfold fX3_special; rw [← e1]; unfold fX3_special_j1; rw [← e2]; unfold fX3_special_j2; rw [if_neg c3, if_neg c4, if_neg c5, if_neg c14, if_pos c18, if_pos c19]))⟩ dX3_special_551
        · skip
          refine lv_aload_n S.1 S.2.1 dX3_special_315 rfl (lv_at hl 2 rfl) ?_
          refine m_getA S hA hF hW 16 (by decide) (by decide) tf_X3_56 dX3_special_316 ?_
          refine lv_iload_n S.1 S.2.1 dX3_special_319 rfl (lv_at hl 3 rfl) ?_
          refine m_zald (x := (M 17 g)) S hA hF hW 16 (by decide) (by decide) rfl rfl hg rfl dX3_special_320 ?_
          refine lv_if_ne (tgt := 551) S.1 S.2.1 dX3_special_321 (by decide) (fun c20 => ?_) (fun c20 => ?_)
          · skip
            exact r_vret S hr hlk hW hS ⟨rfl, congrArg (fun z => mw Z ws q z) (show M = (fX3_special M g a2 a3 a4) from Eq.symm (by unfold fX3_special; rw [← e1]; unfold fX3_special_j1; rw [← e2]; unfold fX3_special_j2; rw [if_neg c3, if_neg c4, if_neg c5, if_neg c14, if_pos c18, if_neg c19, if_neg c20]))⟩ dX3_special_551
          · skip
            refine lv_aload_n S.1 S.2.1 dX3_special_324 rfl (lv_at hl 2 rfl) ?_
            refine m_getA S hA hF hW 11 (by decide) (by decide) tf_X3_40 dX3_special_325 ?_
            refine lv_iload_n S.1 S.2.1 dX3_special_328 rfl (lv_at hl 3 rfl) ?_
            refine m_ald (x := (M 12 g)) S hA hF hW 11 (by decide) (by decide) rfl hg rfl dX3_special_329 ?_
            refine lv_aload_n S.1 S.2.1 dX3_special_330 rfl (lv_at hl 2 rfl) ?_
            refine m_getA S hA hF hW 13 (by decide) (by decide) tf_X3_46 dX3_special_331 ?_
            refine lv_iload_n S.1 S.2.1 dX3_special_334 rfl (lv_at hl 3 rfl) ?_
            refine m_ald (x := (M 14 g)) S hA hF hW 13 (by decide) (by decide) rfl hg rfl dX3_special_335 ?_
            refine lv_icmp_gt (tgt := 551) S.1 S.2.1 dX3_special_336 (by decide) (fun c21 => ?_) (fun c21 => ?_)
            · skip
              exact r_vret S hr hlk hW hS ⟨rfl, congrArg (fun z => mw Z ws q z) (show M = (fX3_special M g a2 a3 a4) from Eq.symm (by unfold fX3_special; rw [← e1]; unfold fX3_special_j1; rw [← e2]; unfold fX3_special_j2; rw [if_neg c3, if_neg c4, if_neg c5, if_neg c14, if_pos c18, if_neg c19, if_pos c20, if_pos c21]))⟩ dX3_special_551
            · skip
              refine lv_aload_n S.1 S.2.1 dX3_special_339 rfl (lv_at hl 2 rfl) ?_
              refine lv_sipush (v := 255) S.1 S.2.1 dX3_special_340 (by decide) ?_
              refine c_V S hA hW hS (kX3_say l Z ws q M hF 255 ) ok_X3_say tm_X3_129 tn_X3_say tl_X3_say (fo_mem hF 0 (by decide)) rfl rfl ⟨Nat.le_of_ble_eq_true rfl, Nat.le_of_ble_eq_true rfl⟩ rfl hl.1 rfl (Nat.le_of_ble_eq_true rfl) dX3_special_343 ⟨Nat.le_of_ble_eq_true rfl, Nat.le_of_ble_eq_true rfl⟩ (kk_v fun H locs hW hS => ?_)
              refine lv_goto (tgt := 551) S.1 S.2.1 dX3_special_346 (by decide) ?_
              exact r_vret S hr hlk hW hS ⟨rfl, congrArg (fun z => mw Z ws q z) (show (fX3_say M 255) = (fX3_special M g a2 a3 a4) from Eq.symm (by unfold fX3_special; rw [← e1]; unfold fX3_special_j1; rw [← e2]; unfold fX3_special_j2; rw [if_neg c3, if_neg c4, if_neg c5, if_neg c14, if_pos c18, if_neg c19, if_pos c20, if_neg c21]))⟩ dX3_special_551
      by_cases c22 : a2 = 171
      · refine lv_tableIn (off := 287) (tgt := 349) S.1 S.2.1 dX3_special_62 (by rw [c22]; decide) (by rw [c22]; decide) (by rw [c22]; rfl) (by decide) ?_
        refine lv_aload_n S.1 S.2.1 dX3_special_349 rfl (lv_at hl 2 rfl) ?_
        refine m_getA S hA hF hW 16 (by decide) (by decide) tf_X3_56 dX3_special_350 ?_
        refine lv_iload_n S.1 S.2.1 dX3_special_353 rfl (lv_at hl 3 rfl) ?_
        refine lv_aload_n S.1 S.2.1 dX3_special_354 rfl (lv_at hl 2 rfl) ?_
        refine m_getA S hA hF hW 16 (by decide) (by decide) tf_X3_56 dX3_special_355 ?_
        refine lv_iload_n S.1 S.2.1 dX3_special_358 rfl (lv_at hl 3 rfl) ?_
        refine m_zald (x := (M 17 g)) S hA hF hW 16 (by decide) (by decide) rfl rfl hg rfl dX3_special_359 ?_
        refine jn (Z := Z) (tree := (if (M 17 g) = 0 then (if x2 = 0 then 0 else 1) else 1)) 373 [.int (nI g), .ref (q 16)] (mw Z ws q M) (fun x23 H locs e23 hW hS => ?_) (fun K23 => ?_)
        · skip
          refine m_zast (x := x23) S hA hF hW hS 16 (by decide) (by decide) rfl rfl hg (by rw [e23]; (repeat' split) <;> rfl) dX3_special_373 (fun H locs hW hS => ?_)
          refine lv_goto (tgt := 551) S.1 S.2.1 dX3_special_374 (by decide) ?_
          exact r_vret S hr hlk hW hS ⟨rfl, congrArg (fun z => mw Z ws q z) (show (up2 M 17 g x23) = (fX3_special M g a2 a3 a4) from Eq.symm (by first | rfl | (unfold fX3_special; rw [← e1]; unfold fX3_special_j1; rw [← e2]; unfold fX3_special_j2; rw [if_neg c3, if_neg c4, if_neg c5, if_neg c14, if_neg c18, if_pos c22, ← e23]; unfold fX3_special_j23; done) | (unfold fX3_special; rw [← e1]; unfold fX3_special_j1; rw [← e2]; unfold fX3_special_j2; rw [if_neg c3, if_neg c4, if_neg c5, if_neg c14, if_neg c18, if_pos c22, ← e23]; unfold fX3_special_j23; rfl)))⟩ dX3_special_551
        · skip
          refine lv_if_ne (tgt := 368) S.1 S.2.1 dX3_special_360 (by decide) (fun c24 => ?_) (fun c24 => ?_)
          · skip
            refine lv_iconst (v := 1) S.1 S.2.1 dX3_special_368 (by decide) ?_
            refine lv_goto (tgt := 373) S.1 S.2.1 dX3_special_369 (by decide) ?_
            exact K23 _ _ _ (by rw [if_neg c24]) hW hS
          · skip
            refine lv_iload S.1 S.2.1 dX3_special_363 (lv_at hl 0 rfl) ?_
            refine lv_if_eq (tgt := 372) S.1 S.2.1 dX3_special_365 (by decide) (fun c25 => ?_) (fun c25 => ?_)
            · skip
              refine lv_iconst (v := 0) S.1 S.2.1 dX3_special_372 (by decide) ?_
              exact K23 _ _ _ (by rw [if_pos c24, if_pos c25]) hW hS
            · skip
              refine lv_iconst (v := 1) S.1 S.2.1 dX3_special_368 (by decide) ?_
              refine lv_goto (tgt := 373) S.1 S.2.1 dX3_special_369 (by decide) ?_
              exact K23 _ _ _ (by rw [if_pos c24, if_neg c25]) hW hS
      by_cases c26 : a2 = 177
      · refine lv_tableIn (off := 315) (tgt := 377) S.1 S.2.1 dX3_special_62 (by rw [c26]; decide) (by rw [c26]; decide) (by rw [c26]; rfl) (by decide) ?_
        refine lv_aload_n S.1 S.2.1 dX3_special_377 rfl (lv_at hl 2 rfl) ?_
        refine m_getA S hA hF hW 13 (by decide) (by decide) tf_X3_46 dX3_special_378 ?_
        refine lv_iload_n S.1 S.2.1 dX3_special_381 rfl (lv_at hl 3 rfl) ?_
        refine lv_aload_n S.1 S.2.1 dX3_special_382 rfl (lv_at hl 2 rfl) ?_
        refine m_getA S hA hF hW 13 (by decide) (by decide) tf_X3_46 dX3_special_383 ?_
        refine lv_iload_n S.1 S.2.1 dX3_special_386 rfl (lv_at hl 3 rfl) ?_
        refine m_ald (x := (M 14 g)) S hA hF hW 13 (by decide) (by decide) rfl hg rfl dX3_special_387 ?_
        refine r_ldc S tk_X3_132 dX3_special_388 ?_
        refine lv_irem S.1 S.2.1 dX3_special_390 (by decide) ?_
        refine r_ldc S tk_X3_132 dX3_special_391 ?_
        refine lv_iload_n S.1 S.2.1 dX3_special_393 rfl (lv_at hl 5 rfl) ?_
        refine lv_imul S.1 S.2.1 dX3_special_394 ?_
        refine lv_iadd S.1 S.2.1 dX3_special_395 ?_
        refine m_ast (x := (((M 14 g) - (M 14 g) / 65536 * 65536) + (65536 * a3))) S hA hF hW hS 13 (by decide) (by decide) rfl hg dX3_special_396 (fun H locs hW hS => ?_)
        refine lv_goto (tgt := 551) S.1 S.2.1 dX3_special_397 (by decide) ?_
        exact r_vret S hr hlk hW hS ⟨rfl, congrArg (fun z => mw Z ws q z) (show (up2 M 14 g (((M 14 g) - (M 14 g) / 65536 * 65536) + (65536 * a3))) = (fX3_special M g a2 a3 a4) from Eq.symm (by unfold fX3_special; rw [← e1]; unfold fX3_special_j1; rw [← e2]; unfold fX3_special_j2; rw [if_neg c3, if_neg c4, if_neg c5, if_neg c14, if_neg c18, if_neg c22, if_pos c26]))⟩ dX3_special_551
      by_cases c27 : a2 = 179
      · refine lv_tableIn (off := 338) (tgt := 400) S.1 S.2.1 dX3_special_62 (by rw [c27]; decide) (by rw [c27]; decide) (by rw [c27]; rfl) (by decide) ?_
        refine lv_aload_n S.1 S.2.1 dX3_special_400 rfl (lv_at hl 2 rfl) ?_
        refine m_getA S hA hF hW 13 (by decide) (by decide) tf_X3_46 dX3_special_401 ?_
        refine lv_iload_n S.1 S.2.1 dX3_special_404 rfl (lv_at hl 3 rfl) ?_
        refine lv_aload_n S.1 S.2.1 dX3_special_405 rfl (lv_at hl 2 rfl) ?_
        refine m_getA S hA hF hW 13 (by decide) (by decide) tf_X3_46 dX3_special_406 ?_
        refine lv_iload_n S.1 S.2.1 dX3_special_409 rfl (lv_at hl 3 rfl) ?_
        refine m_ald (x := (M 14 g)) S hA hF hW 13 (by decide) (by decide) rfl hg rfl dX3_special_410 ?_
        refine r_ldc S tk_X3_132 dX3_special_411 ?_
        refine lv_idiv S.1 S.2.1 dX3_special_413 (by decide) ?_
        refine r_ldc S tk_X3_132 dX3_special_414 ?_
        refine lv_imul S.1 S.2.1 dX3_special_416 ?_
        refine lv_aload_n S.1 S.2.1 dX3_special_417 rfl (lv_at hl 2 rfl) ?_
        refine m_getA S hA hF hW 13 (by decide) (by decide) tf_X3_46 dX3_special_418 ?_
        refine lv_iload_n S.1 S.2.1 dX3_special_421 rfl (lv_at hl 3 rfl) ?_
        refine m_ald (x := (M 14 g)) S hA hF hW 13 (by decide) (by decide) rfl hg rfl dX3_special_422 ?_
        refine lv_sipush (v := 256) S.1 S.2.1 dX3_special_423 (by decide) ?_
        refine lv_irem S.1 S.2.1 dX3_special_426 (by decide) ?_
        refine lv_iadd S.1 S.2.1 dX3_special_427 ?_
        refine lv_sipush (v := 256) S.1 S.2.1 dX3_special_428 (by decide) ?_
        refine lv_iload_n S.1 S.2.1 dX3_special_431 rfl (lv_at hl 5 rfl) ?_
        refine lv_imul S.1 S.2.1 dX3_special_432 ?_
        refine lv_iadd S.1 S.2.1 dX3_special_433 ?_
        refine m_ast (x := (((((M 14 g) / 65536) * 65536) + ((M 14 g) - (M 14 g) / 256 * 256)) + (256 * a3))) S hA hF hW hS 13 (by decide) (by decide) rfl hg dX3_special_434 (fun H locs hW hS => ?_)
        refine lv_goto (tgt := 551) S.1 S.2.1 dX3_special_435 (by decide) ?_
        exact r_vret S hr hlk hW hS ⟨rfl, congrArg (fun z => mw Z ws q z) (show (up2 M 14 g (((((M 14 g) / 65536) * 65536) + ((M 14 g) - (M 14 g) / 256 * 256)) + (256 * a3))) = (fX3_special M g a2 a3 a4) from Eq.symm (by unfold fX3_special; rw [← e1]; unfold fX3_special_j1; rw [← e2]; unfold fX3_special_j2; rw [if_neg c3, if_neg c4, if_neg c5, if_neg c14, if_neg c18, if_neg c22, if_neg c26, if_pos c27]))⟩ dX3_special_551
      by_cases c28 : a2 = 181
      · refine lv_tableIn (off := 376) (tgt := 438) S.1 S.2.1 dX3_special_62 (by rw [c28]; decide) (by rw [c28]; decide) (by rw [c28]; rfl) (by decide) ?_
        refine lv_aload_n S.1 S.2.1 dX3_special_438 rfl (lv_at hl 2 rfl) ?_
        refine m_getA S hA hF hW 13 (by decide) (by decide) tf_X3_46 dX3_special_439 ?_
        refine lv_iload_n S.1 S.2.1 dX3_special_442 rfl (lv_at hl 3 rfl) ?_
        refine lv_aload_n S.1 S.2.1 dX3_special_443 rfl (lv_at hl 2 rfl) ?_
        refine m_getA S hA hF hW 13 (by decide) (by decide) tf_X3_46 dX3_special_444 ?_
        refine lv_iload_n S.1 S.2.1 dX3_special_447 rfl (lv_at hl 3 rfl) ?_
        refine m_ald (x := (M 14 g)) S hA hF hW 13 (by decide) (by decide) rfl hg rfl dX3_special_448 ?_
        refine lv_sipush (v := 256) S.1 S.2.1 dX3_special_449 (by decide) ?_
        refine lv_idiv S.1 S.2.1 dX3_special_452 (by decide) ?_
        refine lv_sipush (v := 256) S.1 S.2.1 dX3_special_453 (by decide) ?_
        refine lv_imul S.1 S.2.1 dX3_special_456 ?_
        refine lv_iload_n S.1 S.2.1 dX3_special_457 rfl (lv_at hl 5 rfl) ?_
        refine lv_iadd S.1 S.2.1 dX3_special_458 ?_
        refine m_ast (x := ((((M 14 g) / 256) * 256) + a3)) S hA hF hW hS 13 (by decide) (by decide) rfl hg dX3_special_459 (fun H locs hW hS => ?_)
        refine lv_goto (tgt := 551) S.1 S.2.1 dX3_special_460 (by decide) ?_
        exact r_vret S hr hlk hW hS ⟨rfl, congrArg (fun z => mw Z ws q z) (show (up2 M 14 g ((((M 14 g) / 256) * 256) + a3)) = (fX3_special M g a2 a3 a4) from Eq.symm (by unfold fX3_special; rw [← e1]; unfold fX3_special_j1; rw [← e2]; unfold fX3_special_j2; rw [if_neg c3, if_neg c4, if_neg c5, if_neg c14, if_neg c18, if_neg c22, if_neg c26, if_neg c27, if_pos c28]))⟩ dX3_special_551
      by_cases c29 : a2 = 183
      · refine lv_tableIn (off := 401) (tgt := 463) S.1 S.2.1 dX3_special_62 (by rw [c29]; decide) (by rw [c29]; decide) (by rw [c29]; rfl) (by decide) ?_
        refine lv_iload S.1 S.2.1 dX3_special_463 (lv_at hl 0 rfl) ?_
        refine lv_if_eq (tgt := 551) S.1 S.2.1 dX3_special_465 (by decide) (fun c30 => ?_) (fun c30 => ?_)
        · skip
          exact r_vret S hr hlk hW hS ⟨rfl, congrArg (fun z => mw Z ws q z) (show M = (fX3_special M g a2 a3 a4) from Eq.symm (by unfold fX3_special; rw [← e1]; unfold fX3_special_j1; rw [← e2]; unfold fX3_special_j2; rw [if_neg c3, if_neg c4, if_neg c5, if_neg c14, if_neg c18, if_neg c22, if_neg c26, if_neg c27, if_neg c28, if_pos c29, if_pos c30]))⟩ dX3_special_551
        · skip
          refine lv_aload_n S.1 S.2.1 dX3_special_468 rfl (lv_at hl 2 rfl) ?_
          refine lv_iload_n S.1 S.2.1 dX3_special_469 rfl (lv_at hl 3 rfl) ?_
          refine lv_iload_n S.1 S.2.1 dX3_special_470 rfl (lv_at hl 5 rfl) ?_
          refine c_V S hA hW hS (kX3_setShort l Z ws q M hF g hg a3 ) ok_X3_setShort tm_X3_126 tn_X3_setShort tl_X3_setShort (fo_mem hF 0 (by decide)) rfl rfl ⟨Nat.le_of_ble_eq_true rfl, Nat.le_of_ble_eq_true rfl⟩ rfl hl.1 rfl (Nat.le_of_ble_eq_true rfl) dX3_special_471 ⟨Nat.le_of_ble_eq_true rfl, Nat.le_of_ble_eq_true rfl⟩ (kk_v fun H locs hW hS => ?_)
          refine lv_goto (tgt := 551) S.1 S.2.1 dX3_special_474 (by decide) ?_
          exact r_vret S hr hlk hW hS ⟨rfl, congrArg (fun z => mw Z ws q z) (show (fX3_setShort M g a3) = (fX3_special M g a2 a3 a4) from Eq.symm (by unfold fX3_special; rw [← e1]; unfold fX3_special_j1; rw [← e2]; unfold fX3_special_j2; rw [if_neg c3, if_neg c4, if_neg c5, if_neg c14, if_neg c18, if_neg c22, if_neg c26, if_neg c27, if_neg c28, if_pos c29, if_neg c30]))⟩ dX3_special_551
      by_cases c31 : a2 = 185
      · refine lv_tableIn (off := 415) (tgt := 477) S.1 S.2.1 dX3_special_62 (by rw [c31]; decide) (by rw [c31]; decide) (by rw [c31]; rfl) (by decide) ?_
        refine lv_iload S.1 S.2.1 dX3_special_477 (lv_at hl 0 rfl) ?_
        refine lv_if_eq (tgt := 551) S.1 S.2.1 dX3_special_479 (by decide) (fun c32 => ?_) (fun c32 => ?_)
        · skip
          exact r_vret S hr hlk hW hS ⟨rfl, congrArg (fun z => mw Z ws q z) (show M = (fX3_special M g a2 a3 a4) from Eq.symm (by unfold fX3_special; rw [← e1]; unfold fX3_special_j1; rw [← e2]; unfold fX3_special_j2; rw [if_neg c3, if_neg c4, if_neg c5, if_neg c14, if_neg c18, if_neg c22, if_neg c26, if_neg c27, if_neg c28, if_neg c29, if_pos c31, if_pos c32]))⟩ dX3_special_551
        · skip
          refine lv_iload S.1 S.2.1 dX3_special_482 (lv_at hl 1 rfl) ?_
          refine lv_if_eq (tgt := 551) S.1 S.2.1 dX3_special_484 (by decide) (fun c33 => ?_) (fun c33 => ?_)
          · skip
            exact r_vret S hr hlk hW hS ⟨rfl, congrArg (fun z => mw Z ws q z) (show M = (fX3_special M g a2 a3 a4) from Eq.symm (by unfold fX3_special; rw [← e1]; unfold fX3_special_j1; rw [← e2]; unfold fX3_special_j2; rw [if_neg c3, if_neg c4, if_neg c5, if_neg c14, if_neg c18, if_neg c22, if_neg c26, if_neg c27, if_neg c28, if_neg c29, if_pos c31, if_neg c32, if_pos c33]))⟩ dX3_special_551
          · skip
            refine lv_aload_n S.1 S.2.1 dX3_special_487 rfl (lv_at hl 2 rfl) ?_
            refine m_getA S hA hF hW 10 (by decide) (by decide) tf_X3_37 dX3_special_488 ?_
            refine lv_iload_n S.1 S.2.1 dX3_special_491 rfl (lv_at hl 3 rfl) ?_
            refine m_ald (x := (M 11 g)) S hA hF hW 10 (by decide) (by decide) rfl hg rfl dX3_special_492 ?_
            refine lv_iload_n S.1 S.2.1 dX3_special_493 rfl (lv_at hl 5 rfl) ?_
            refine lv_iconst (v := 1) S.1 S.2.1 dX3_special_494 (by decide) ?_
            refine lv_isub S.1 S.2.1 dX3_special_495 ?_
            refine lv_iconst (v := 2) S.1 S.2.1 dX3_special_496 (by decide) ?_
            refine lv_idiv S.1 S.2.1 dX3_special_497 (by decide) ?_
            refine lv_icmp_ne (tgt := 551) S.1 S.2.1 dX3_special_498 (by decide) (fun c34 => ?_) (fun c34 => ?_)
            · skip
              exact r_vret S hr hlk hW hS ⟨rfl, congrArg (fun z => mw Z ws q z) (show M = (fX3_special M g a2 a3 a4) from Eq.symm (by unfold fX3_special; rw [← e1]; unfold fX3_special_j1; rw [← e2]; unfold fX3_special_j2; rw [if_neg c3, if_neg c4, if_neg c5, if_neg c14, if_neg c18, if_neg c22, if_neg c26, if_neg c27, if_neg c28, if_neg c29, if_pos c31, if_neg c32, if_neg c33, if_neg c34]))⟩ dX3_special_551
            · skip
              refine lv_aload_n S.1 S.2.1 dX3_special_501 rfl (lv_at hl 2 rfl) ?_
              refine lv_sipush (v := 255) S.1 S.2.1 dX3_special_502 (by decide) ?_
              refine c_V S hA hW hS (kX3_say l Z ws q M hF 255 ) ok_X3_say tm_X3_129 tn_X3_say tl_X3_say (fo_mem hF 0 (by decide)) rfl rfl ⟨Nat.le_of_ble_eq_true rfl, Nat.le_of_ble_eq_true rfl⟩ rfl hl.1 rfl (Nat.le_of_ble_eq_true rfl) dX3_special_505 ⟨Nat.le_of_ble_eq_true rfl, Nat.le_of_ble_eq_true rfl⟩ (kk_v fun H locs hW hS => ?_)
              refine lv_goto (tgt := 551) S.1 S.2.1 dX3_special_508 (by decide) ?_
              exact r_vret S hr hlk hW hS ⟨rfl, congrArg (fun z => mw Z ws q z) (show (fX3_say M 255) = (fX3_special M g a2 a3 a4) from Eq.symm (by unfold fX3_special; rw [← e1]; unfold fX3_special_j1; rw [← e2]; unfold fX3_special_j2; rw [if_neg c3, if_neg c4, if_neg c5, if_neg c14, if_neg c18, if_neg c22, if_neg c26, if_neg c27, if_neg c28, if_neg c29, if_pos c31, if_neg c32, if_neg c33, if_pos c34]))⟩ dX3_special_551
      by_cases c35 : a2 = 187
      · refine lv_tableIn (off := 449) (tgt := 511) S.1 S.2.1 dX3_special_62 (by rw [c35]; decide) (by rw [c35]; decide) (by rw [c35]; rfl) (by decide) ?_
        refine lv_iload S.1 S.2.1 dX3_special_511 (lv_at hl 0 rfl) ?_
        refine lv_if_eq (tgt := 551) S.1 S.2.1 dX3_special_513 (by decide) (fun c36 => ?_) (fun c36 => ?_)
        · skip
          exact r_vret S hr hlk hW hS ⟨rfl, congrArg (fun z => mw Z ws q z) (show M = (fX3_special M g a2 a3 a4) from Eq.symm (by unfold fX3_special; rw [← e1]; unfold fX3_special_j1; rw [← e2]; unfold fX3_special_j2; rw [if_neg c3, if_neg c4, if_neg c5, if_neg c14, if_neg c18, if_neg c22, if_neg c26, if_neg c27, if_neg c28, if_neg c29, if_neg c31, if_pos c35, if_pos c36]))⟩ dX3_special_551
        · skip
          refine lv_aload_n S.1 S.2.1 dX3_special_516 rfl (lv_at hl 2 rfl) ?_
          refine lv_aload_n S.1 S.2.1 dX3_special_517 rfl (lv_at hl 2 rfl) ?_
          refine m_getA S hA hF hW 10 (by decide) (by decide) tf_X3_37 dX3_special_518 ?_
          refine lv_iload_n S.1 S.2.1 dX3_special_521 rfl (lv_at hl 3 rfl) ?_
          refine m_ald (x := (M 11 g)) S hA hF hW 10 (by decide) (by decide) rfl hg rfl dX3_special_522 ?_
          refine lv_sipush (v := 255) S.1 S.2.1 dX3_special_523 (by decide) ?_
          refine jn (Z := Z) (tree := (if (M 11 g) = 255 then 255 else ((2 * (M 11 g)) + 1))) 545 [.ref (q 0)] (mw Z ws q M) (fun x37 H locs e37 hW hS => ?_) (fun K37 => ?_)
          · skip
            refine c_V S hA hW hS (kX3_say l Z ws q M hF x37 ) ok_X3_say tm_X3_129 tn_X3_say tl_X3_say (fo_mem hF 0 (by decide)) rfl rfl ⟨Nat.le_of_ble_eq_true rfl, Nat.le_of_ble_eq_true rfl⟩ rfl hl.1 rfl (Nat.le_of_ble_eq_true rfl) dX3_special_545 ⟨Nat.le_of_ble_eq_true rfl, Nat.le_of_ble_eq_true rfl⟩ (kk_v fun H locs hW hS => ?_)
            refine lv_goto (tgt := 551) S.1 S.2.1 dX3_special_548 (by decide) ?_
            exact r_vret S hr hlk hW hS ⟨rfl, congrArg (fun z => mw Z ws q z) (show (fX3_say M x37) = (fX3_special M g a2 a3 a4) from Eq.symm (by first | rfl | (unfold fX3_special; rw [← e1]; unfold fX3_special_j1; rw [← e2]; unfold fX3_special_j2; rw [if_neg c3, if_neg c4, if_neg c5, if_neg c14, if_neg c18, if_neg c22, if_neg c26, if_neg c27, if_neg c28, if_neg c29, if_neg c31, if_pos c35, if_neg c36, ← e37]; unfold fX3_special_j37; done) | (unfold fX3_special; rw [← e1]; unfold fX3_special_j1; rw [← e2]; unfold fX3_special_j2; rw [if_neg c3, if_neg c4, if_neg c5, if_neg c14, if_neg c18, if_neg c22, if_neg c26, if_neg c27, if_neg c28, if_neg c29, if_neg c31, if_pos c35, if_neg c36, ← e37]; unfold fX3_special_j37; rfl)))⟩ dX3_special_551
          · skip
            refine lv_icmp_ne (tgt := 535) S.1 S.2.1 dX3_special_526 (by decide) (fun c38 => ?_) (fun c38 => ?_)
            · skip
              refine lv_iconst (v := 2) S.1 S.2.1 dX3_special_535 (by decide) ?_
              refine lv_aload_n S.1 S.2.1 dX3_special_536 rfl (lv_at hl 2 rfl) ?_
              refine m_getA S hA hF hW 10 (by decide) (by decide) tf_X3_37 dX3_special_537 ?_
              refine lv_iload_n S.1 S.2.1 dX3_special_540 rfl (lv_at hl 3 rfl) ?_
              refine m_ald (x := (M 11 g)) S hA hF hW 10 (by decide) (by decide) rfl hg rfl dX3_special_541 ?_
              refine lv_imul S.1 S.2.1 dX3_special_542 ?_
              refine lv_iconst (v := 1) S.1 S.2.1 dX3_special_543 (by decide) ?_
              refine lv_iadd S.1 S.2.1 dX3_special_544 ?_
              exact K37 _ _ _ (by rw [if_neg c38]) hW hS
            · skip
              refine lv_sipush (v := 255) S.1 S.2.1 dX3_special_529 (by decide) ?_
              refine lv_goto (tgt := 545) S.1 S.2.1 dX3_special_532 (by decide) ?_
              exact K37 _ _ _ (by rw [if_pos c38]) hW hS
      refine sw_tab (tgt := 551) [161, 163, 165, 167, 169, 171, 177, 179, 181, 183, 185, 187] S.1 S.2.1 dX3_special_62 (by decide) (List.forall_mem_cons.mpr ⟨c3, List.forall_mem_cons.mpr ⟨c4, List.forall_mem_cons.mpr ⟨c5, List.forall_mem_cons.mpr ⟨c14, List.forall_mem_cons.mpr ⟨c18, List.forall_mem_cons.mpr ⟨c22, List.forall_mem_cons.mpr ⟨c26, List.forall_mem_cons.mpr ⟨c27, List.forall_mem_cons.mpr ⟨c28, List.forall_mem_cons.mpr ⟨c29, List.forall_mem_cons.mpr ⟨c31, List.forall_mem_cons.mpr ⟨c35, fun _ h => absurd h List.not_mem_nil⟩⟩⟩⟩⟩⟩⟩⟩⟩⟩⟩⟩) (by decide +kernel) ?_
      exact r_vret S hr hlk hW hS ⟨rfl, congrArg (fun z => mw Z ws q z) (show M = (fX3_special M g a2 a3 a4) from Eq.symm (by unfold fX3_special; rw [← e1]; unfold fX3_special_j1; rw [← e2]; unfold fX3_special_j2; rw [if_neg c3, if_neg c4, if_neg c5, if_neg c14, if_neg c18, if_neg c22, if_neg c26, if_neg c27, if_neg c28, if_neg c29, if_neg c31, if_neg c35]))⟩ dX3_special_551
    · skip
      refine lv_if_eq (tgt := 58) S.1 S.2.1 dX3_special_27 (by decide) (fun c39 => ?_) (fun c39 => ?_)
      · skip
        refine lv_iconst (v := 0) S.1 S.2.1 dX3_special_58 (by decide) ?_
        exact K2 _ _ _ (by rw [if_pos c39]) hW hS
      · skip
        refine lv_aload_n S.1 S.2.1 dX3_special_30 rfl (lv_at hl 1 rfl) ?_
        refine m_getA S hA hF hW 16 (by decide) (by decide) tf_X3_56 dX3_special_31 ?_
        refine lv_iload_n S.1 S.2.1 dX3_special_34 rfl (lv_at hl 2 rfl) ?_
        refine m_zald (x := (M 17 g)) S hA hF hW 16 (by decide) (by decide) rfl rfl hg rfl dX3_special_35 ?_
        refine lv_if_ne (tgt := 58) S.1 S.2.1 dX3_special_36 (by decide) (fun c40 => ?_) (fun c40 => ?_)
        · skip
          refine lv_iconst (v := 0) S.1 S.2.1 dX3_special_58 (by decide) ?_
          exact K2 _ _ _ (by rw [if_neg c39, if_neg c40]) hW hS
        · skip
          refine lv_aload_n S.1 S.2.1 dX3_special_39 rfl (lv_at hl 1 rfl) ?_
          refine m_getA S hA hF hW 11 (by decide) (by decide) tf_X3_40 dX3_special_40 ?_
          refine lv_iload_n S.1 S.2.1 dX3_special_43 rfl (lv_at hl 2 rfl) ?_
          refine m_ald (x := (M 12 g)) S hA hF hW 11 (by decide) (by decide) rfl hg rfl dX3_special_44 ?_
          refine lv_aload_n S.1 S.2.1 dX3_special_45 rfl (lv_at hl 1 rfl) ?_
          refine m_getA S hA hF hW 13 (by decide) (by decide) tf_X3_46 dX3_special_46 ?_
          refine lv_iload_n S.1 S.2.1 dX3_special_49 rfl (lv_at hl 2 rfl) ?_
          refine m_ald (x := (M 14 g)) S hA hF hW 13 (by decide) (by decide) rfl hg rfl dX3_special_50 ?_
          refine lv_icmp_ne (tgt := 58) S.1 S.2.1 dX3_special_51 (by decide) (fun c41 => ?_) (fun c41 => ?_)
          · skip
            refine lv_iconst (v := 0) S.1 S.2.1 dX3_special_58 (by decide) ?_
            exact K2 _ _ _ (by rw [if_neg c39, if_pos c40, if_neg c41]) hW hS
          · skip
            refine lv_iconst (v := 1) S.1 S.2.1 dX3_special_54 (by decide) ?_
            refine lv_goto (tgt := 59) S.1 S.2.1 dX3_special_55 (by decide) ?_
            exact K2 _ _ _ (by rw [if_neg c39, if_pos c40, if_pos c41]) hW hS
  · skip
    refine lv_icmp_ne (tgt := 18) S.1 S.2.1 dX3_special_4 (by decide) (fun c42 => ?_) (fun c42 => ?_)
    · skip
      refine lv_iconst (v := 0) S.1 S.2.1 dX3_special_18 (by decide) ?_
      exact K1 _ _ _ (by rw [if_neg c42]) hW hS
    · skip
      refine lv_iload_n S.1 S.2.1 dX3_special_7 rfl (lv_at hl 3 rfl) ?_
      refine lv_sipush (v := 128) S.1 S.2.1 dX3_special_8 (by decide) ?_
      refine lv_icmp_ge (tgt := 18) S.1 S.2.1 dX3_special_11 (by decide) (fun c43 => ?_) (fun c43 => ?_)
      · skip
        refine lv_iconst (v := 0) S.1 S.2.1 dX3_special_18 (by decide) ?_
        exact K1 _ _ _ (by rw [if_pos c42, if_pos c43]) hW hS
      · skip
        refine lv_iconst (v := 1) S.1 S.2.1 dX3_special_14 (by decide) ?_
        refine lv_goto (tgt := 19) S.1 S.2.1 dX3_special_15 (by decide) ?_
        exact K1 _ _ _ (by rw [if_pos c42, if_neg c43]) hW hS
def fX3_no (M : Nat → Nat → Int32) (a1 : Int32) : Int32 :=
  (if a1 < 0 then 1 else (if a1 < (M 1 0) then 0 else 1))
theorem bfX3_no (M : Nat → Nat → Int32) (a1 : Int32) : narrow .boolean (.int (fX3_no M a1)) = .int (fX3_no M a1) := by
  unfold fX3_no
  repeat' split
  all_goals first | rfl | exact bfX0_yesIf .. | exact bfX2_isByte .. | exact bfX2_joined .. | exact bfX3_isIn .. | exact bfX1_endFade .. | exact bfX1_isFading .. | exact bfX1_setLevel .. | exact bfX1_reset .. | exact bfX1_clamped .. | exact bfX1_offOrClamped .. | exact bfX1_goTo .. | exact bfX1_passTicks .. | exact bfX1_moveBy .. | exact bfX1_rateStep .. | exact bfX1_stepDownOrOff .. | exact bfX1_onOrStepUp .. | exact bfX1_setMost .. | exact bfX1_setLeast .. | exact bfX1_setFade .. | exact bfX1_setRate .. | exact bfX0_forgetSearch .. | exact bfX0_reset .. | exact bfX0_isMeantBy .. | exact bfX0_hearLevel .. | exact bfX0_goToUnlessUnset .. | exact bfX0_isShortOf .. | exact bfX0_takeShort .. | exact bfX0_isToInitialise .. | exact bfX0_status .. | exact bfX0_configureNumbered .. | exact bfX0_light .. | exact bfX0_configure .. | exact bfX0_answerTo .. | exact bfX0_startAgain .. | exact bfX0_hearInSearch .. | exact bfX0_hearSpecial .. | exact bfX0_hearCommand .. | exact bfX0_valueOf .. | exact bfX3_set .. | exact bfX3_within .. | exact bfX3_goTo .. | exact bfX3_step .. | exact bfX3_bring .. | exact bfX3_say .. | exact bfX3_level .. | exact bfX3_setShort .. | exact bfX3_isMeant .. | exact bfX3_ask .. | exact bfX3_special ..
set_option maxRecDepth 100000 in
set_option maxHeartbeats 4000000 in
theorem kX3_no (l : Launch) (Z : Zt) (ws : va_W) (q : Nat → Nat) (M : Nat → Nat → Int32) (hF : FI ws 23 q) (a1 : Int32)  : Ct l Z yX3_no cX3_no 2 (some .boolean) 0 0 0 0 (mw Z ws q M) [.ref (q 0), .int a1] (fun r w => r = some (.int (fX3_no M a1)) ∧ w = (mw Z ws q M)) := by
  refine Ct.start (by decide) (Nat.le_of_ble_eq_true rfl) ?_
  intro p e s m below meth c S hr hlk hnm hA hW hS ls hl
  replace S : CallFix p m c cX3_no 2 s _ TB RX3 := S
  replace hl : lv_has ls 2 [(0, .ref (q 0)), (1, .int a1)] := hl
  refine lv_iload_n S.1 S.2.1 dX3_no_0 rfl (lv_at hl 1 rfl) ?_
  refine lv_if_lt (tgt := 12) S.1 S.2.1 dX3_no_1 (by decide) (fun c1 => ?_) (fun c1 => ?_)
  · skip
    refine lv_iconst (v := 1) S.1 S.2.1 dX3_no_12 (by decide) ?_
    refine lv_goto (tgt := 17) S.1 S.2.1 dX3_no_13 (by decide) ?_
    exact r_zret S hr hlk hW hS rfl ⟨congrArg (fun z => some (Value.int z)) (show 1 = (fX3_no M a1) from Eq.symm (by unfold fX3_no; rw [if_pos c1])), rfl⟩ dX3_no_17
  · skip
    refine lv_iload_n S.1 S.2.1 dX3_no_4 rfl (lv_at hl 1 rfl) ?_
    refine lv_aload_n S.1 S.2.1 dX3_no_5 rfl (lv_at hl 0 rfl) ?_
    refine m_get (x := (M 1 0)) S hA hF hW 1 (by decide) (by decide) tf_X3_82 rfl dX3_no_6 ?_
    refine lv_icmp_lt (tgt := 16) S.1 S.2.1 dX3_no_9 (by decide) (fun c2 => ?_) (fun c2 => ?_)
    · skip
      refine lv_iconst (v := 0) S.1 S.2.1 dX3_no_16 (by decide) ?_
      exact r_zret S hr hlk hW hS rfl ⟨congrArg (fun z => some (Value.int z)) (show 0 = (fX3_no M a1) from Eq.symm (by unfold fX3_no; rw [if_neg c1, if_pos c2])), rfl⟩ dX3_no_17
    · skip
      refine lv_iconst (v := 1) S.1 S.2.1 dX3_no_12 (by decide) ?_
      refine lv_goto (tgt := 17) S.1 S.2.1 dX3_no_13 (by decide) ?_
      exact r_zret S hr hlk hW hS rfl ⟨congrArg (fun z => some (Value.int z)) (show 1 = (fX3_no M a1) from Eq.symm (by unfold fX3_no; rw [if_neg c1, if_neg c2])), rfl⟩ dX3_no_17
def fX3_compares (M : Nat → Nat → Int32) : Int32 :=
  (M 25 0)
set_option maxRecDepth 100000 in
set_option maxHeartbeats 4000000 in
theorem kX3_compares (l : Launch) (Z : Zt) (ws : va_W) (q : Nat → Nat) (M : Nat → Nat → Int32) (hF : FI ws 23 q)   : Ct l Z yX3_compares cX3_compares 1 (some .int) 0 0 0 0 (mw Z ws q M) [.ref (q 0)] (fun r w => r = some (.int (fX3_compares M)) ∧ w = (mw Z ws q M)) := by
  refine Ct.start (by decide) (Nat.le_of_ble_eq_true rfl) ?_
  intro p e s m below meth c S hr hlk hnm hA hW hS ls hl
  replace S : CallFix p m c cX3_compares 1 s _ TB RX3 := S
  replace hl : lv_has ls 1 [(0, .ref (q 0))] := hl
  refine lv_aload_n S.1 S.2.1 dX3_compares_0 rfl (lv_at hl 0 rfl) ?_
  refine m_get (x := (M 25 0)) S hA hF hW 25 (by decide) (by decide) tf_X3_161 rfl dX3_compares_1 ?_
  exact r_iret S hr hlk hW hS ⟨congrArg (fun z => some (Value.int z)) (show (M 25 0) = (fX3_compares M) from Eq.symm rfl), rfl⟩ dX3_compares_4
def fX3_frames (M : Nat → Nat → Int32) : Int32 :=
  (M 24 0)
set_option maxRecDepth 100000 in
set_option maxHeartbeats 4000000 in
theorem kX3_frames (l : Launch) (Z : Zt) (ws : va_W) (q : Nat → Nat) (M : Nat → Nat → Int32) (hF : FI ws 23 q)   : Ct l Z yX3_frames cX3_frames 1 (some .int) 0 0 0 0 (mw Z ws q M) [.ref (q 0)] (fun r w => r = some (.int (fX3_frames M)) ∧ w = (mw Z ws q M)) := by
  refine Ct.start (by decide) (Nat.le_of_ble_eq_true rfl) ?_
  intro p e s m below meth c S hr hlk hnm hA hW hS ls hl
  replace S : CallFix p m c cX3_frames 1 s _ TB RX3 := S
  replace hl : lv_has ls 1 [(0, .ref (q 0))] := hl
  refine lv_aload_n S.1 S.2.1 dX3_frames_0 rfl (lv_at hl 0 rfl) ?_
  refine m_get (x := (M 24 0)) S hA hF hW 24 (by decide) (by decide) tf_X3_143 rfl dX3_frames_1 ?_
  exact r_iret S hr hlk hW hS ⟨congrArg (fun z => some (Value.int z)) (show (M 24 0) = (fX3_frames M) from Eq.symm rfl), rfl⟩ dX3_frames_4
