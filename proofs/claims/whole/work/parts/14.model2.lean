def fillM (M : Nat → Nat → Int32) (g n : Nat) : Nat → Nat → Int32 := fun k i => if k = 10 ∧ 16 * g ≤ i ∧ i < 16 * g + n then 255 else M k i
theorem fillM_0 {M : Nat → Nat → Int32} {g : Nat} : fillM M g 0 = M := by
  funext k i
  unfold fillM
  rw [if_neg (by omega)]
theorem fillM_s {M : Nat → Nat → Int32} {g n : Nat} : up2 (fillM M g n) (9 + 1) (16 * g + n) 255 = fillM M g (n + 1) := by
  funext k i
  unfold fillM up2 upd
  by_cases c : k = 9 + 1
  · rw [if_pos c]
    by_cases d : i = 16 * g + n
    · rw [if_pos d, if_pos (by omega)]
    · rw [if_neg d]
      show (if 9 + 1 = 10 ∧ 16 * g ≤ i ∧ i < 16 * g + n then 255 else M (9 + 1) i) = _
      by_cases f : 16 * g ≤ i ∧ i < 16 * g + n
      · rw [if_pos (by omega), if_pos (by omega)]
      · rw [if_neg (by omega), if_neg (by omega), c]
  · rw [if_neg c]
    show (if k = 10 ∧ 16 * g ≤ i ∧ i < 16 * g + n then 255 else M k i) = _
    rw [if_neg (by omega), if_neg (by omega)]
def fX3_begin (M : Nat → Nat → Int32) (g : Nat) : (Nat → Nat → Int32) :=
  (up2 (up2 (fillM (up2 (up2 (up2 (up2 (up2 (up2 (up2 (up2 M 2 g 254) 3 g 1) 4 g 254) 5 g 254) 6 g 254) 7 g 0) 8 g 7) 9 g 0) g 16) 12 g 16777215) 18 g (-1))
set_option maxRecDepth 100000 in
set_option maxHeartbeats 4000000 in
theorem kX3_begin (l : Launch) (Z : Zt) (ws : va_W) (q : Nat → Nat) (M : Nat → Nat → Int32) (hF : FI ws 23 q) (g : Nat) (hg : g < 16)   : Ct l Z yX3_begin cX3_begin 3 none 0 0 0 0 (mw Z ws q M) [.ref (q 0), .int (nI g)] (fun r w => r = none ∧ w = mw Z ws q (fX3_begin M g)) := by
  refine Ct.start (by decide) (Nat.le_of_ble_eq_true rfl) ?_
  intro p e s m below meth c S hr hlk hnm hA hW hS ls hl
  replace S : CallFix p m c cX3_begin 3 s _ TB RX3 := S
  replace hl : lv_has ls 3 [(0, .ref (q 0)), (1, .int (nI g))] := hl
  refine lv_aload_n S.1 S.2.1 dX3_begin_0 rfl (lv_at hl 0 rfl) ?_
  refine m_getA S hA hF hW 1 (by decide) (by decide) tf_X3_7 dX3_begin_1 ?_
  refine lv_iload_n S.1 S.2.1 dX3_begin_4 rfl (lv_at hl 1 rfl) ?_
  refine lv_sipush (v := 254) S.1 S.2.1 dX3_begin_5 (by decide) ?_
  refine m_ast (x := 254) S hA hF hW hS 1 (by decide) (by decide) rfl hg dX3_begin_8 (fun H locs hW hS => ?_)
  refine lv_aload_n S.1 S.2.1 dX3_begin_9 rfl (lv_at hl 0 rfl) ?_
  refine m_getA S hA hF hW 2 (by decide) (by decide) tf_X3_13 dX3_begin_10 ?_
  refine lv_iload_n S.1 S.2.1 dX3_begin_13 rfl (lv_at hl 1 rfl) ?_
  refine lv_iconst (v := 1) S.1 S.2.1 dX3_begin_14 (by decide) ?_
  refine m_ast (x := 1) S hA hF hW hS 2 (by decide) (by decide) rfl hg dX3_begin_15 (fun H locs hW hS => ?_)
  refine lv_aload_n S.1 S.2.1 dX3_begin_16 rfl (lv_at hl 0 rfl) ?_
  refine m_getA S hA hF hW 3 (by decide) (by decide) tf_X3_16 dX3_begin_17 ?_
  refine lv_iload_n S.1 S.2.1 dX3_begin_20 rfl (lv_at hl 1 rfl) ?_
  refine lv_sipush (v := 254) S.1 S.2.1 dX3_begin_21 (by decide) ?_
  refine m_ast (x := 254) S hA hF hW hS 3 (by decide) (by decide) rfl hg dX3_begin_24 (fun H locs hW hS => ?_)
  refine lv_aload_n S.1 S.2.1 dX3_begin_25 rfl (lv_at hl 0 rfl) ?_
  refine m_getA S hA hF hW 4 (by decide) (by decide) tf_X3_19 dX3_begin_26 ?_
  refine lv_iload_n S.1 S.2.1 dX3_begin_29 rfl (lv_at hl 1 rfl) ?_
  refine lv_sipush (v := 254) S.1 S.2.1 dX3_begin_30 (by decide) ?_
  refine m_ast (x := 254) S hA hF hW hS 4 (by decide) (by decide) rfl hg dX3_begin_33 (fun H locs hW hS => ?_)
  refine lv_aload_n S.1 S.2.1 dX3_begin_34 rfl (lv_at hl 0 rfl) ?_
  refine m_getA S hA hF hW 5 (by decide) (by decide) tf_X3_22 dX3_begin_35 ?_
  refine lv_iload_n S.1 S.2.1 dX3_begin_38 rfl (lv_at hl 1 rfl) ?_
  refine lv_sipush (v := 254) S.1 S.2.1 dX3_begin_39 (by decide) ?_
  refine m_ast (x := 254) S hA hF hW hS 5 (by decide) (by decide) rfl hg dX3_begin_42 (fun H locs hW hS => ?_)
  refine lv_aload_n S.1 S.2.1 dX3_begin_43 rfl (lv_at hl 0 rfl) ?_
  refine m_getA S hA hF hW 6 (by decide) (by decide) tf_X3_25 dX3_begin_44 ?_
  refine lv_iload_n S.1 S.2.1 dX3_begin_47 rfl (lv_at hl 1 rfl) ?_
  refine lv_iconst (v := 0) S.1 S.2.1 dX3_begin_48 (by decide) ?_
  refine m_ast (x := 0) S hA hF hW hS 6 (by decide) (by decide) rfl hg dX3_begin_49 (fun H locs hW hS => ?_)
  refine lv_aload_n S.1 S.2.1 dX3_begin_50 rfl (lv_at hl 0 rfl) ?_
  refine m_getA S hA hF hW 7 (by decide) (by decide) tf_X3_28 dX3_begin_51 ?_
  refine lv_iload_n S.1 S.2.1 dX3_begin_54 rfl (lv_at hl 1 rfl) ?_
  refine lv_bipush (v := 7) S.1 S.2.1 dX3_begin_55 (by decide) ?_
  refine m_ast (x := 7) S hA hF hW hS 7 (by decide) (by decide) rfl hg dX3_begin_57 (fun H locs hW hS => ?_)
  refine lv_aload_n S.1 S.2.1 dX3_begin_58 rfl (lv_at hl 0 rfl) ?_
  refine m_getA S hA hF hW 8 (by decide) (by decide) tf_X3_31 dX3_begin_59 ?_
  refine lv_iload_n S.1 S.2.1 dX3_begin_62 rfl (lv_at hl 1 rfl) ?_
  refine lv_iconst (v := 0) S.1 S.2.1 dX3_begin_63 (by decide) ?_
  refine m_ast (x := 0) S hA hF hW hS 8 (by decide) (by decide) rfl hg dX3_begin_64 (fun H locs hW hS => ?_)
  refine lv_iconst (v := 0) S.1 S.2.1 dX3_begin_65 (by decide) ?_
  refine lv_istore_n (lv' := [(2, .int 0), (0, .ref (q 0)), (1, .int (nI g))]) S.1 S.2.1 dX3_begin_66 rfl hl (by decide) rfl (fun ls hl => ?_)
  refine w_loop (fun d H1 locs1 ls1 => ∃ i, i + d = 16 ∧ Wd Z (mw Z ws q (fillM (up2 (up2 (up2 (up2 (up2 (up2 (up2 (up2 M 2 g 254) 3 g 1) 4 g 254) 5 g 254) 6 g 254) 7 g 0) 8 g 7) 9 g 0) g i)) H1 ∧ va_S (zA Z) s.heap H1 locs1 ∧ lv_has ls1 3 [(2, .int (nI i)), (0, .ref (q 0)), (1, .int (nI g))]) ?_ 16 ⟨0, rfl, by rw [fillM_0]; exact hW, hS, hl⟩
  clear hW hS hl
  rintro d H locs ls ⟨i, hd, hW, hS, hl⟩ ih
  refine lv_iload_n S.1 S.2.1 dX3_begin_67 rfl (lv_at hl 0 rfl) ?_
  refine lv_bipush (v := 16) S.1 S.2.1 dX3_begin_68 (by decide) ?_
  refine lv_icmp_ge (tgt := 93) S.1 S.2.1 dX3_begin_70 (by decide) (fun c1 => ?_) (fun c1 => ?_)
  · have e : i = 16 := by
      rcases Nat.lt_or_ge i 16 with h | h
      · exact absurd c1 (nI_ge h (by decide))
      · omega
    subst e
    refine lv_aload_n S.1 S.2.1 dX3_begin_93 rfl (lv_at hl 1 rfl) ?_
    refine m_getA S hA hF hW 11 (by decide) (by decide) tf_X3_40 dX3_begin_94 ?_
    refine lv_iload_n S.1 S.2.1 dX3_begin_97 rfl (lv_at hl 2 rfl) ?_
    refine r_ldc S tk_X3_81 dX3_begin_98 ?_
    refine m_ast (x := 16777215) S hA hF hW hS 11 (by decide) (by decide) rfl hg dX3_begin_100 (fun H locs hW hS => ?_)
    refine lv_aload_n S.1 S.2.1 dX3_begin_101 rfl (lv_at hl 1 rfl) ?_
    refine m_getA S hA hF hW 17 (by decide) (by decide) tf_X3_59 dX3_begin_102 ?_
    refine lv_iload_n S.1 S.2.1 dX3_begin_105 rfl (lv_at hl 2 rfl) ?_
    refine lv_iconst (v := (-1)) S.1 S.2.1 dX3_begin_106 (by decide) ?_
    refine m_ast (x := (-1)) S hA hF hW hS 17 (by decide) (by decide) rfl hg dX3_begin_107 (fun H locs hW hS => ?_)
    exact r_vret S hr hlk hW hS ⟨rfl, congrArg (fun z => mw Z ws q z) (show (up2 (up2 (fillM (up2 (up2 (up2 (up2 (up2 (up2 (up2 (up2 M 2 g 254) 3 g 1) 4 g 254) 5 g 254) 6 g 254) 7 g 0) 8 g 7) 9 g 0) g 16) 12 g 16777215) 18 g (-1)) = (fX3_begin M g) from Eq.symm rfl)⟩ dX3_begin_108
  · have hi : i < 16 := by
      rcases Nat.lt_or_ge i 16 with h | h
      · exact h
      · exact absurd (nI_le h (by omega)) c1
    refine lv_aload_n S.1 S.2.1 dX3_begin_73 rfl (lv_at hl 1 rfl) ?_
    refine m_getA S hA hF hW 9 (by decide) (by decide) tf_X3_34 dX3_begin_74 ?_
    refine lv_bipush (v := 16) S.1 S.2.1 dX3_begin_77 (by decide) ?_
    refine lv_iload_n S.1 S.2.1 dX3_begin_79 rfl (lv_at hl 2 rfl) ?_
    refine lv_imul S.1 S.2.1 dX3_begin_80 ?_
    refine lv_iload_n S.1 S.2.1 dX3_begin_81 rfl (lv_at hl 0 rfl) ?_
    refine lv_iadd S.1 S.2.1 dX3_begin_82 ?_
    refine lv_sipush (v := 255) S.1 S.2.1 dX3_begin_83 (by decide) ?_
    refine m_astX (x := 255) S hA hF hW hS 9 (by decide) (by decide) rfl (by rw [show (16 : Int32) = nI 16 from rfl, pk_mul, nI_add]; exact vp_in_nI (by show _ < 256; omega) (by decide)) dX3_begin_86 (fun H locs hW hS => ?_)
    refine lv_iinc (v := nI (i + 1)) (lv' := [(2, .int (nI (i + 1))), (0, .ref (q 0)), (1, .int (nI g))]) S.1 S.2.1 dX3_begin_87 hl (k := 0) rfl (nI_1 i) (by decide) rfl (fun ls hl => ?_)
    refine lv_goto (tgt := 67) S.1 S.2.1 dX3_begin_90 (by decide) ?_
    rw [show (16 : Int32) = nI 16 from rfl, pk_mul, nI_add, nI_clamp (by omega), fillM_s] at hW
    exact ih (d - 1) H locs ls (by omega) ⟨i + 1, by omega, hW, hS, hl⟩
def fX3_change_j12 (M : Nat → Nat → Int32) (g : Nat) (a2 : Int32) (x12 : Int32) : (Nat → Nat → Int32) :=
  (up2 M 9 g x12)
def fX3_change_j14 (M : Nat → Nat → Int32) (g : Nat) (a2 : Int32) (x14 : Int32) : (Nat → Nat → Int32) :=
  (up2 M 10 ((16 * (nI g)) + (a2 - a2 / 16 * 16)).toNatClampNeg x14)
def fX3_change_j16 (M : Nat → Nat → Int32) (g : Nat) (a2 : Int32) (x16 : Int32) : (Nat → Nat → Int32) :=
  (up2 M 8 g x16)
def fX3_change_j19 (M : Nat → Nat → Int32) (g : Nat) (a2 : Int32) (x19 : Int32) : (Nat → Nat → Int32) :=
  (up2 M 7 g x19)
def fX3_change_j21 (M : Nat → Nat → Int32) (g : Nat) (a2 : Int32) (x21 : Int32) : (Nat → Nat → Int32) :=
  (fX3_bring (up2 M 3 g x21) g)
def fX3_change_j24 (M : Nat → Nat → Int32) (g : Nat) (a2 : Int32) (x24 : Int32) : (Nat → Nat → Int32) :=
  (fX3_bring (up2 M 4 g x24) g)
def fX3_change (M : Nat → Nat → Int32) (g : Nat) (a2 : Int32) : (Nat → Nat → Int32) :=
  (if a2 = 32 then (fX3_begin M g) else (if a2 = 33 then (up2 M 13 g (M 2 g)) else (if a2 = 42 then (fX3_change_j24 M g a2 (if (M 3 g) ≤ (M 13 g) then (if (M 13 g) ≤ 254 then (M 13 g) else 254) else (M 3 g))) else (if a2 = 43 then (fX3_change_j21 M g a2 (if 1 ≤ (M 13 g) then (if (M 13 g) ≤ (M 4 g) then (M 13 g) else (M 4 g)) else 1)) else (if a2 = 44 then (up2 M 6 g (M 13 g)) else (if a2 = 45 then (up2 M 5 g (M 13 g)) else (if a2 = 46 then (fX3_change_j19 M g a2 (if (M 13 g) ≤ 15 then (M 13 g) else 15)) else (if a2 = 47 then (fX3_change_j16 M g a2 (if 1 ≤ (M 13 g) then (if (M 13 g) ≤ 15 then (M 13 g) else 15) else 1)) else (if (fX3_isIn a2 64 95) = 0 then (if (fX3_isIn a2 96 127) = 0 then (if a2 = 128 then (fX3_setShort M g (M 13 g)) else M) else (fX3_change_j12 M g a2 (if 112 ≤ a2 then ((M 9 g) &&& (((1 : Int32) <<< ((a2 - a2 / 16 * 16) &&& 31)) ^^^ (-1))) else ((M 9 g) ||| ((1 : Int32) <<< ((a2 - a2 / 16 * 16) &&& 31)))))) else (fX3_change_j14 M g a2 (if 80 ≤ a2 then 255 else (M 13 g))))))))))))
set_option maxRecDepth 100000 in
set_option maxHeartbeats 4000000 in
theorem kX3_change (l : Launch) (Z : Zt) (ws : va_W) (q : Nat → Nat) (M : Nat → Nat → Int32) (hF : FI ws 23 q) (g : Nat) (hg : g < 16) (a2 : Int32) (hby : ∃ n, n < 256 ∧ a2 = nI n) : Ct l Z yX3_change cX3_change 6 none 2 43 0 0 (mw Z ws q M) [.ref (q 0), .int (nI g), .int a2] (fun r w => r = none ∧ w = mw Z ws q (fX3_change M g a2)) := by
  refine Ct.start (by decide) (Nat.le_of_ble_eq_true rfl) ?_
  intro p e s m below meth c S hr hlk hnm hA hW hS ls hl
  replace S : CallFix p m c cX3_change 6 s _ TB RX3 := S
  replace hl : lv_has ls 6 [(0, .ref (q 0)), (1, .int (nI g)), (2, .int a2)] := hl
  refine lv_aload_n S.1 S.2.1 dX3_change_0 rfl (lv_at hl 0 rfl) ?_
  refine m_getA S hA hF hW 12 (by decide) (by decide) tf_X3_43 dX3_change_1 ?_
  refine lv_iload_n S.1 S.2.1 dX3_change_4 rfl (lv_at hl 1 rfl) ?_
  refine m_ald (x := (M 13 g)) S hA hF hW 12 (by decide) (by decide) rfl hg rfl dX3_change_5 ?_
  refine lv_istore_n (lv' := [(3, .int (M 13 g)), (0, .ref (q 0)), (1, .int (nI g)), (2, .int a2)]) S.1 S.2.1 dX3_change_6 rfl hl (by decide) rfl (fun ls hl => ?_)
  refine lv_iload_n S.1 S.2.1 dX3_change_7 rfl (lv_at hl 3 rfl) ?_
  refine lv_bipush (v := 16) S.1 S.2.1 dX3_change_8 (by decide) ?_
  refine lv_irem S.1 S.2.1 dX3_change_10 (by decide) ?_
  refine lv_istore (lv' := [(4, .int (a2 - a2 / 16 * 16)), (3, .int (M 13 g)), (0, .ref (q 0)), (1, .int (nI g)), (2, .int a2)]) S.1 S.2.1 dX3_change_11 hl (by decide) rfl (fun ls hl => ?_)
  refine lv_iload_n S.1 S.2.1 dX3_change_13 rfl (lv_at hl 4 rfl) ?_
  refine lv_bipush (v := 32) S.1 S.2.1 dX3_change_14 (by decide) ?_
  refine lv_icmp_ne (tgt := 27) S.1 S.2.1 dX3_change_16 (by decide) (fun c1 => ?_) (fun c1 => ?_)
  · skip
    refine lv_iload_n S.1 S.2.1 dX3_change_27 rfl (lv_at hl 4 rfl) ?_
    refine lv_bipush (v := 33) S.1 S.2.1 dX3_change_28 (by decide) ?_
    refine lv_icmp_ne (tgt := 48) S.1 S.2.1 dX3_change_30 (by decide) (fun c2 => ?_) (fun c2 => ?_)
    · skip
      refine lv_iload_n S.1 S.2.1 dX3_change_48 rfl (lv_at hl 4 rfl) ?_
      refine lv_bipush (v := 42) S.1 S.2.1 dX3_change_49 (by decide) ?_
      refine lv_icmp_ne (tgt := 101) S.1 S.2.1 dX3_change_51 (by decide) (fun c3 => ?_) (fun c3 => ?_)
      · skip
        refine lv_iload_n S.1 S.2.1 dX3_change_101 rfl (lv_at hl 4 rfl) ?_
        refine lv_bipush (v := 43) S.1 S.2.1 dX3_change_102 (by decide) ?_
        refine lv_icmp_ne (tgt := 150) S.1 S.2.1 dX3_change_104 (by decide) (fun c4 => ?_) (fun c4 => ?_)
        · skip
          refine lv_iload_n S.1 S.2.1 dX3_change_150 rfl (lv_at hl 4 rfl) ?_
          refine lv_bipush (v := 44) S.1 S.2.1 dX3_change_151 (by decide) ?_
          refine lv_icmp_ne (tgt := 166) S.1 S.2.1 dX3_change_153 (by decide) (fun c5 => ?_) (fun c5 => ?_)
          · skip
            refine lv_iload_n S.1 S.2.1 dX3_change_166 rfl (lv_at hl 4 rfl) ?_
            refine lv_bipush (v := 45) S.1 S.2.1 dX3_change_167 (by decide) ?_
            refine lv_icmp_ne (tgt := 182) S.1 S.2.1 dX3_change_169 (by decide) (fun c6 => ?_) (fun c6 => ?_)
            · skip
              refine lv_iload_n S.1 S.2.1 dX3_change_182 rfl (lv_at hl 4 rfl) ?_
              refine lv_bipush (v := 46) S.1 S.2.1 dX3_change_183 (by decide) ?_
              refine lv_icmp_ne (tgt := 209) S.1 S.2.1 dX3_change_185 (by decide) (fun c7 => ?_) (fun c7 => ?_)
              · skip
                refine lv_iload_n S.1 S.2.1 dX3_change_209 rfl (lv_at hl 4 rfl) ?_
                refine lv_bipush (v := 47) S.1 S.2.1 dX3_change_210 (by decide) ?_
                refine lv_icmp_ne (tgt := 245) S.1 S.2.1 dX3_change_212 (by decide) (fun c8 => ?_) (fun c8 => ?_)
                · skip
                  refine lv_iload_n S.1 S.2.1 dX3_change_245 rfl (lv_at hl 4 rfl) ?_
                  refine lv_bipush (v := 64) S.1 S.2.1 dX3_change_246 (by decide) ?_
                  refine lv_bipush (v := 95) S.1 S.2.1 dX3_change_248 (by decide) ?_
                  refine c_S S hA hW hS (kX3_isIn l Z (mw Z ws q M) a2 64 95) ok_X3_isIn tm_X3_93 ts_X3_isIn ⟨Nat.le_of_ble_eq_true rfl, Nat.le_of_ble_eq_true rfl⟩ rfl hl.1 rfl (Nat.le_of_ble_eq_true rfl) dX3_change_250 ⟨Nat.le_of_ble_eq_true rfl, Nat.le_of_ble_eq_true rfl⟩ (kk_i fun H locs hW hS => ?_)
                  refine lv_if_eq (tgt := 284) S.1 S.2.1 dX3_change_253 (by decide) (fun c9 => ?_) (fun c9 => ?_)
                  · skip
                    refine lv_iload_n S.1 S.2.1 dX3_change_284 rfl (lv_at hl 4 rfl) ?_
                    refine lv_bipush (v := 96) S.1 S.2.1 dX3_change_285 (by decide) ?_
                    refine lv_bipush (v := 127) S.1 S.2.1 dX3_change_287 (by decide) ?_
                    refine c_S S hA hW hS (kX3_isIn l Z (mw Z ws q M) a2 96 127) ok_X3_isIn tm_X3_93 ts_X3_isIn ⟨Nat.le_of_ble_eq_true rfl, Nat.le_of_ble_eq_true rfl⟩ rfl hl.1 rfl (Nat.le_of_ble_eq_true rfl) dX3_change_289 ⟨Nat.le_of_ble_eq_true rfl, Nat.le_of_ble_eq_true rfl⟩ (kk_i fun H locs hW hS => ?_)
                    refine lv_if_eq (tgt := 339) S.1 S.2.1 dX3_change_292 (by decide) (fun c10 => ?_) (fun c10 => ?_)
                    · skip
                      refine lv_iload_n S.1 S.2.1 dX3_change_339 rfl (lv_at hl 4 rfl) ?_
                      refine lv_sipush (v := 128) S.1 S.2.1 dX3_change_340 (by decide) ?_
                      refine lv_icmp_ne (tgt := 352) S.1 S.2.1 dX3_change_343 (by decide) (fun c11 => ?_) (fun c11 => ?_)
                      · skip
                        exact r_vret S hr hlk hW hS ⟨rfl, congrArg (fun z => mw Z ws q z) (show M = (fX3_change M g a2) from Eq.symm (by unfold fX3_change; rw [if_neg c1, if_neg c2, if_neg c3, if_neg c4, if_neg c5, if_neg c6, if_neg c7, if_neg c8, if_pos c9, if_pos c10, if_neg c11]))⟩ dX3_change_352
                      · skip
                        refine lv_aload_n S.1 S.2.1 dX3_change_346 rfl (lv_at hl 2 rfl) ?_
                        refine lv_iload_n S.1 S.2.1 dX3_change_347 rfl (lv_at hl 3 rfl) ?_
                        refine lv_iload_n S.1 S.2.1 dX3_change_348 rfl (lv_at hl 1 rfl) ?_
                        refine c_V S hA hW hS (kX3_setShort l Z ws q M hF g hg (M 13 g) ) ok_X3_setShort tm_X3_126 tn_X3_setShort tl_X3_setShort (fo_mem hF 0 (by decide)) rfl rfl ⟨Nat.le_of_ble_eq_true rfl, Nat.le_of_ble_eq_true rfl⟩ rfl hl.1 rfl (Nat.le_of_ble_eq_true rfl) dX3_change_349 ⟨Nat.le_of_ble_eq_true rfl, Nat.le_of_ble_eq_true rfl⟩ (kk_v fun H locs hW hS => ?_)
                        exact r_vret S hr hlk hW hS ⟨rfl, congrArg (fun z => mw Z ws q z) (show (fX3_setShort M g (M 13 g)) = (fX3_change M g a2) from Eq.symm (by unfold fX3_change; rw [if_neg c1, if_neg c2, if_neg c3, if_neg c4, if_neg c5, if_neg c6, if_neg c7, if_neg c8, if_pos c9, if_pos c10, if_pos c11]))⟩ dX3_change_352
                    · skip
                      refine lv_iconst (v := 1) S.1 S.2.1 dX3_change_295 (by decide) ?_
                      refine lv_iload S.1 S.2.1 dX3_change_296 (lv_at hl 0 rfl) ?_
                      refine lv_ishl S.1 S.2.1 dX3_change_298 ?_
                      refine lv_istore (lv' := [(5, .int ((1 : Int32) <<< ((a2 - a2 / 16 * 16) &&& 31))), (4, .int (a2 - a2 / 16 * 16)), (3, .int (M 13 g)), (0, .ref (q 0)), (1, .int (nI g)), (2, .int a2)]) S.1 S.2.1 dX3_change_299 hl (by decide) rfl (fun ls hl => ?_)
                      refine lv_aload_n S.1 S.2.1 dX3_change_301 rfl (lv_at hl 3 rfl) ?_
                      refine m_getA S hA hF hW 8 (by decide) (by decide) tf_X3_31 dX3_change_302 ?_
                      refine lv_iload_n S.1 S.2.1 dX3_change_305 rfl (lv_at hl 4 rfl) ?_
                      refine lv_iload_n S.1 S.2.1 dX3_change_306 rfl (lv_at hl 5 rfl) ?_
                      refine lv_bipush (v := 112) S.1 S.2.1 dX3_change_307 (by decide) ?_
                      refine jn (Z := Z) (tree := (if 112 ≤ a2 then ((M 9 g) &&& (((1 : Int32) <<< ((a2 - a2 / 16 * 16) &&& 31)) ^^^ (-1))) else ((M 9 g) ||| ((1 : Int32) <<< ((a2 - a2 / 16 * 16) &&& 31))))) 335 [.int (nI g), .ref (q 8)] (mw Z ws q M) (fun x12 H locs e12 hW hS => ?_) (fun K12 => ?_)
                      · skip
                        refine m_ast (x := x12) S hA hF hW hS 8 (by decide) (by decide) rfl hg dX3_change_335 (fun H locs hW hS => ?_)
                        refine lv_goto (tgt := 352) S.1 S.2.1 dX3_change_336 (by decide) ?_
                        exact r_vret S hr hlk hW hS ⟨rfl, congrArg (fun z => mw Z ws q z) (show (up2 M 9 g x12) = (fX3_change M g a2) from Eq.symm (by first | rfl | (unfold fX3_change; rw [if_neg c1, if_neg c2, if_neg c3, if_neg c4, if_neg c5, if_neg c6, if_neg c7, if_neg c8, if_pos c9, if_neg c10, ← e12]; unfold fX3_change_j12; done) | (unfold fX3_change; rw [if_neg c1, if_neg c2, if_neg c3, if_neg c4, if_neg c5, if_neg c6, if_neg c7, if_neg c8, if_pos c9, if_neg c10, ← e12]; unfold fX3_change_j12; rfl)))⟩ dX3_change_352
                      · skip
                        refine lv_icmp_ge (tgt := 324) S.1 S.2.1 dX3_change_309 (by decide) (fun c13 => ?_) (fun c13 => ?_)
                        · skip
                          refine lv_aload_n S.1 S.2.1 dX3_change_324 rfl (lv_at hl 3 rfl) ?_
                          refine m_getA S hA hF hW 8 (by decide) (by decide) tf_X3_31 dX3_change_325 ?_
                          refine lv_iload_n S.1 S.2.1 dX3_change_328 rfl (lv_at hl 4 rfl) ?_
                          refine m_ald (x := (M 9 g)) S hA hF hW 8 (by decide) (by decide) rfl hg rfl dX3_change_329 ?_
                          refine lv_iload S.1 S.2.1 dX3_change_330 (lv_at hl 0 rfl) ?_
                          refine lv_iconst (v := (-1)) S.1 S.2.1 dX3_change_332 (by decide) ?_
                          refine lv_ixor S.1 S.2.1 dX3_change_333 ?_
                          refine lv_iand S.1 S.2.1 dX3_change_334 ?_
                          exact K12 _ _ _ (by rw [if_pos c13]) hW hS
                        · skip
                          refine lv_aload_n S.1 S.2.1 dX3_change_312 rfl (lv_at hl 3 rfl) ?_
                          refine m_getA S hA hF hW 8 (by decide) (by decide) tf_X3_31 dX3_change_313 ?_
                          refine lv_iload_n S.1 S.2.1 dX3_change_316 rfl (lv_at hl 4 rfl) ?_
                          refine m_ald (x := (M 9 g)) S hA hF hW 8 (by decide) (by decide) rfl hg rfl dX3_change_317 ?_
                          refine lv_iload S.1 S.2.1 dX3_change_318 (lv_at hl 0 rfl) ?_
                          refine lv_ior S.1 S.2.1 dX3_change_320 ?_
                          refine lv_goto (tgt := 335) S.1 S.2.1 dX3_change_321 (by decide) ?_
                          exact K12 _ _ _ (by rw [if_neg c13]) hW hS
                  · skip
                    refine lv_aload_n S.1 S.2.1 dX3_change_256 rfl (lv_at hl 2 rfl) ?_
                    refine m_getA S hA hF hW 9 (by decide) (by decide) tf_X3_34 dX3_change_257 ?_
                    refine lv_bipush (v := 16) S.1 S.2.1 dX3_change_260 (by decide) ?_
                    refine lv_iload_n S.1 S.2.1 dX3_change_262 rfl (lv_at hl 3 rfl) ?_
                    refine lv_imul S.1 S.2.1 dX3_change_263 ?_
                    refine lv_iload S.1 S.2.1 dX3_change_264 (lv_at hl 0 rfl) ?_
                    refine lv_iadd S.1 S.2.1 dX3_change_266 ?_
                    refine lv_iload_n S.1 S.2.1 dX3_change_267 rfl (lv_at hl 4 rfl) ?_
                    refine lv_bipush (v := 80) S.1 S.2.1 dX3_change_268 (by decide) ?_
                    refine jn (Z := Z) (tree := (if 80 ≤ a2 then 255 else (M 13 g))) 280 [.int ((16 * (nI g)) + (a2 - a2 / 16 * 16)), .ref (q 9)] (mw Z ws q M) (fun x14 H locs e14 hW hS => ?_) (fun K14 => ?_)
                    · skip
                      refine m_astX (x := x14) S hA hF hW hS 9 (by decide) (by decide) rfl (sc_low hg hby) dX3_change_280 (fun H locs hW hS => ?_)
                      refine lv_goto (tgt := 352) S.1 S.2.1 dX3_change_281 (by decide) ?_
                      exact r_vret S hr hlk hW hS ⟨rfl, congrArg (fun z => mw Z ws q z) (show (up2 M 10 ((16 * (nI g)) + (a2 - a2 / 16 * 16)).toNatClampNeg x14) = (fX3_change M g a2) from Eq.symm (by first | rfl | (unfold fX3_change; rw [if_neg c1, if_neg c2, if_neg c3, if_neg c4, if_neg c5, if_neg c6, if_neg c7, if_neg c8, if_neg c9, ← e14]; unfold fX3_change_j14; done) | (unfold fX3_change; rw [if_neg c1, if_neg c2, if_neg c3, if_neg c4, if_neg c5, if_neg c6, if_neg c7, if_neg c8, if_neg c9, ← e14]; unfold fX3_change_j14; rfl)))⟩ dX3_change_352
                    · skip
                      refine lv_icmp_ge (tgt := 277) S.1 S.2.1 dX3_change_270 (by decide) (fun c15 => ?_) (fun c15 => ?_)
                      · skip
                        refine lv_sipush (v := 255) S.1 S.2.1 dX3_change_277 (by decide) ?_
                        exact K14 _ _ _ (by rw [if_pos c15]) hW hS
                      · skip
                        refine lv_iload_n S.1 S.2.1 dX3_change_273 rfl (lv_at hl 1 rfl) ?_
                        refine lv_goto (tgt := 280) S.1 S.2.1 dX3_change_274 (by decide) ?_
                        exact K14 _ _ _ (by rw [if_neg c15]) hW hS
                · skip
                  refine lv_aload_n S.1 S.2.1 dX3_change_215 rfl (lv_at hl 2 rfl) ?_
                  refine m_getA S hA hF hW 7 (by decide) (by decide) tf_X3_28 dX3_change_216 ?_
                  refine lv_iload_n S.1 S.2.1 dX3_change_219 rfl (lv_at hl 3 rfl) ?_
                  refine lv_iload_n S.1 S.2.1 dX3_change_220 rfl (lv_at hl 1 rfl) ?_
                  refine lv_iconst (v := 1) S.1 S.2.1 dX3_change_221 (by decide) ?_
                  refine jn (Z := Z) (tree := (if 1 ≤ (M 13 g) then (if (M 13 g) ≤ 15 then (M 13 g) else 15) else 1)) 241 [.int (nI g), .ref (q 7)] (mw Z ws q M) (fun x16 H locs e16 hW hS => ?_) (fun K16 => ?_)
                  · skip
                    refine m_ast (x := x16) S hA hF hW hS 7 (by decide) (by decide) rfl hg dX3_change_241 (fun H locs hW hS => ?_)
                    refine lv_goto (tgt := 352) S.1 S.2.1 dX3_change_242 (by decide) ?_
                    exact r_vret S hr hlk hW hS ⟨rfl, congrArg (fun z => mw Z ws q z) (show (up2 M 8 g x16) = (fX3_change M g a2) from Eq.symm (by first | rfl | (unfold fX3_change; rw [if_neg c1, if_neg c2, if_neg c3, if_neg c4, if_neg c5, if_neg c6, if_neg c7, if_pos c8, ← e16]; unfold fX3_change_j16; done) | (unfold fX3_change; rw [if_neg c1, if_neg c2, if_neg c3, if_neg c4, if_neg c5, if_neg c6, if_neg c7, if_pos c8, ← e16]; unfold fX3_change_j16; rfl)))⟩ dX3_change_352
                  · skip
                    refine lv_icmp_ge (tgt := 229) S.1 S.2.1 dX3_change_222 (by decide) (fun c17 => ?_) (fun c17 => ?_)
                    · skip
                      refine lv_iload_n S.1 S.2.1 dX3_change_229 rfl (lv_at hl 1 rfl) ?_
                      refine lv_bipush (v := 15) S.1 S.2.1 dX3_change_230 (by decide) ?_
                      refine lv_icmp_le (tgt := 240) S.1 S.2.1 dX3_change_232 (by decide) (fun c18 => ?_) (fun c18 => ?_)
                      · skip
                        refine lv_iload_n S.1 S.2.1 dX3_change_240 rfl (lv_at hl 1 rfl) ?_
                        exact K16 _ _ _ (by rw [if_pos c17, if_pos c18]) hW hS
                      · skip
                        refine lv_bipush (v := 15) S.1 S.2.1 dX3_change_235 (by decide) ?_
                        refine lv_goto (tgt := 241) S.1 S.2.1 dX3_change_237 (by decide) ?_
                        exact K16 _ _ _ (by rw [if_pos c17, if_neg c18]) hW hS
                    · skip
                      refine lv_iconst (v := 1) S.1 S.2.1 dX3_change_225 (by decide) ?_
                      refine lv_goto (tgt := 241) S.1 S.2.1 dX3_change_226 (by decide) ?_
                      exact K16 _ _ _ (by rw [if_neg c17]) hW hS
              · skip
                refine lv_aload_n S.1 S.2.1 dX3_change_188 rfl (lv_at hl 2 rfl) ?_
                refine m_getA S hA hF hW 6 (by decide) (by decide) tf_X3_25 dX3_change_189 ?_
                refine lv_iload_n S.1 S.2.1 dX3_change_192 rfl (lv_at hl 3 rfl) ?_
                refine lv_iload_n S.1 S.2.1 dX3_change_193 rfl (lv_at hl 1 rfl) ?_
                refine lv_bipush (v := 15) S.1 S.2.1 dX3_change_194 (by decide) ?_
                refine jn (Z := Z) (tree := (if (M 13 g) ≤ 15 then (M 13 g) else 15)) 205 [.int (nI g), .ref (q 6)] (mw Z ws q M) (fun x19 H locs e19 hW hS => ?_) (fun K19 => ?_)
                · skip
                  refine m_ast (x := x19) S hA hF hW hS 6 (by decide) (by decide) rfl hg dX3_change_205 (fun H locs hW hS => ?_)
                  refine lv_goto (tgt := 352) S.1 S.2.1 dX3_change_206 (by decide) ?_
                  exact r_vret S hr hlk hW hS ⟨rfl, congrArg (fun z => mw Z ws q z) (show (up2 M 7 g x19) = (fX3_change M g a2) from Eq.symm (by first | rfl | (unfold fX3_change; rw [if_neg c1, if_neg c2, if_neg c3, if_neg c4, if_neg c5, if_neg c6, if_pos c7, ← e19]; unfold fX3_change_j19; done) | (unfold fX3_change; rw [if_neg c1, if_neg c2, if_neg c3, if_neg c4, if_neg c5, if_neg c6, if_pos c7, ← e19]; unfold fX3_change_j19; rfl)))⟩ dX3_change_352
                · skip
                  refine lv_icmp_le (tgt := 204) S.1 S.2.1 dX3_change_196 (by decide) (fun c20 => ?_) (fun c20 => ?_)
                  · skip
                    refine lv_iload_n S.1 S.2.1 dX3_change_204 rfl (lv_at hl 1 rfl) ?_
                    exact K19 _ _ _ (by rw [if_pos c20]) hW hS
                  · skip
                    refine lv_bipush (v := 15) S.1 S.2.1 dX3_change_199 (by decide) ?_
                    refine lv_goto (tgt := 205) S.1 S.2.1 dX3_change_201 (by decide) ?_
                    exact K19 _ _ _ (by rw [if_neg c20]) hW hS
            · skip
              refine lv_aload_n S.1 S.2.1 dX3_change_172 rfl (lv_at hl 2 rfl) ?_
              refine m_getA S hA hF hW 4 (by decide) (by decide) tf_X3_19 dX3_change_173 ?_
              refine lv_iload_n S.1 S.2.1 dX3_change_176 rfl (lv_at hl 3 rfl) ?_
              refine lv_iload_n S.1 S.2.1 dX3_change_177 rfl (lv_at hl 1 rfl) ?_
              refine m_ast (x := (M 13 g)) S hA hF hW hS 4 (by decide) (by decide) rfl hg dX3_change_178 (fun H locs hW hS => ?_)
              refine lv_goto (tgt := 352) S.1 S.2.1 dX3_change_179 (by decide) ?_
              exact r_vret S hr hlk hW hS ⟨rfl, congrArg (fun z => mw Z ws q z) (show (up2 M 5 g (M 13 g)) = (fX3_change M g a2) from Eq.symm (by unfold fX3_change; rw [if_neg c1, if_neg c2, if_neg c3, if_neg c4, if_neg c5, if_pos c6]))⟩ dX3_change_352
          · skip
            refine lv_aload_n S.1 S.2.1 dX3_change_156 rfl (lv_at hl 2 rfl) ?_
            refine m_getA S hA hF hW 5 (by decide) (by decide) tf_X3_22 dX3_change_157 ?_
            refine lv_iload_n S.1 S.2.1 dX3_change_160 rfl (lv_at hl 3 rfl) ?_
            refine lv_iload_n S.1 S.2.1 dX3_change_161 rfl (lv_at hl 1 rfl) ?_
            refine m_ast (x := (M 13 g)) S hA hF hW hS 5 (by decide) (by decide) rfl hg dX3_change_162 (fun H locs hW hS => ?_)
            refine lv_goto (tgt := 352) S.1 S.2.1 dX3_change_163 (by decide) ?_
            exact r_vret S hr hlk hW hS ⟨rfl, congrArg (fun z => mw Z ws q z) (show (up2 M 6 g (M 13 g)) = (fX3_change M g a2) from Eq.symm (by unfold fX3_change; rw [if_neg c1, if_neg c2, if_neg c3, if_neg c4, if_pos c5]))⟩ dX3_change_352
        · skip
          refine lv_aload_n S.1 S.2.1 dX3_change_107 rfl (lv_at hl 2 rfl) ?_
          refine m_getA S hA hF hW 2 (by decide) (by decide) tf_X3_13 dX3_change_108 ?_
          refine lv_iload_n S.1 S.2.1 dX3_change_111 rfl (lv_at hl 3 rfl) ?_
          refine lv_iload_n S.1 S.2.1 dX3_change_112 rfl (lv_at hl 1 rfl) ?_
          refine lv_iconst (v := 1) S.1 S.2.1 dX3_change_113 (by decide) ?_
          refine jn (Z := Z) (tree := (if 1 ≤ (M 13 g) then (if (M 13 g) ≤ (M 4 g) then (M 13 g) else (M 4 g)) else 1)) 141 [.int (nI g), .ref (q 2)] (mw Z ws q M) (fun x21 H locs e21 hW hS => ?_) (fun K21 => ?_)
          · skip
            refine m_ast (x := x21) S hA hF hW hS 2 (by decide) (by decide) rfl hg dX3_change_141 (fun H locs hW hS => ?_)
            refine lv_aload_n S.1 S.2.1 dX3_change_142 rfl (lv_at hl 2 rfl) ?_
            refine lv_iload_n S.1 S.2.1 dX3_change_143 rfl (lv_at hl 3 rfl) ?_
            refine c_V S hA hW hS (kX3_bring l Z ws q (up2 M 3 g x21) hF g hg  ) ok_X3_bring tm_X3_123 tn_X3_bring tl_X3_bring (fo_mem hF 0 (by decide)) rfl rfl ⟨Nat.le_of_ble_eq_true rfl, Nat.le_of_ble_eq_true rfl⟩ rfl hl.1 rfl (Nat.le_of_ble_eq_true rfl) dX3_change_144 ⟨Nat.le_of_ble_eq_true rfl, Nat.le_of_ble_eq_true rfl⟩ (kk_v fun H locs hW hS => ?_)
            refine lv_goto (tgt := 352) S.1 S.2.1 dX3_change_147 (by decide) ?_
            exact r_vret S hr hlk hW hS ⟨rfl, congrArg (fun z => mw Z ws q z) (show (fX3_bring (up2 M 3 g x21) g) = (fX3_change M g a2) from Eq.symm (by first | rfl | (unfold fX3_change; rw [if_neg c1, if_neg c2, if_neg c3, if_pos c4, ← e21]; unfold fX3_change_j21; done) | (unfold fX3_change; rw [if_neg c1, if_neg c2, if_neg c3, if_pos c4, ← e21]; unfold fX3_change_j21; rfl)))⟩ dX3_change_352
          · skip
            refine lv_icmp_ge (tgt := 121) S.1 S.2.1 dX3_change_114 (by decide) (fun c22 => ?_) (fun c22 => ?_)
            · skip
              refine lv_iload_n S.1 S.2.1 dX3_change_121 rfl (lv_at hl 1 rfl) ?_
              refine lv_aload_n S.1 S.2.1 dX3_change_122 rfl (lv_at hl 2 rfl) ?_
              refine m_getA S hA hF hW 3 (by decide) (by decide) tf_X3_16 dX3_change_123 ?_
              refine lv_iload_n S.1 S.2.1 dX3_change_126 rfl (lv_at hl 3 rfl) ?_
              refine m_ald (x := (M 4 g)) S hA hF hW 3 (by decide) (by decide) rfl hg rfl dX3_change_127 ?_
              refine lv_icmp_le (tgt := 140) S.1 S.2.1 dX3_change_128 (by decide) (fun c23 => ?_) (fun c23 => ?_)
              · skip
                refine lv_iload_n S.1 S.2.1 dX3_change_140 rfl (lv_at hl 1 rfl) ?_
                exact K21 _ _ _ (by rw [if_pos c22, if_pos c23]) hW hS
              · skip
                refine lv_aload_n S.1 S.2.1 dX3_change_131 rfl (lv_at hl 2 rfl) ?_
                refine m_getA S hA hF hW 3 (by decide) (by decide) tf_X3_16 dX3_change_132 ?_
                refine lv_iload_n S.1 S.2.1 dX3_change_135 rfl (lv_at hl 3 rfl) ?_
                refine m_ald (x := (M 4 g)) S hA hF hW 3 (by decide) (by decide) rfl hg rfl dX3_change_136 ?_
                refine lv_goto (tgt := 141) S.1 S.2.1 dX3_change_137 (by decide) ?_
                exact K21 _ _ _ (by rw [if_pos c22, if_neg c23]) hW hS
            · skip
              refine lv_iconst (v := 1) S.1 S.2.1 dX3_change_117 (by decide) ?_
              refine lv_goto (tgt := 141) S.1 S.2.1 dX3_change_118 (by decide) ?_
              exact K21 _ _ _ (by rw [if_neg c22]) hW hS
      · skip
        refine lv_aload_n S.1 S.2.1 dX3_change_54 rfl (lv_at hl 2 rfl) ?_
        refine m_getA S hA hF hW 3 (by decide) (by decide) tf_X3_16 dX3_change_55 ?_
        refine lv_iload_n S.1 S.2.1 dX3_change_58 rfl (lv_at hl 3 rfl) ?_
        refine lv_iload_n S.1 S.2.1 dX3_change_59 rfl (lv_at hl 1 rfl) ?_
        refine lv_aload_n S.1 S.2.1 dX3_change_60 rfl (lv_at hl 2 rfl) ?_
        refine m_getA S hA hF hW 2 (by decide) (by decide) tf_X3_13 dX3_change_61 ?_
        refine lv_iload_n S.1 S.2.1 dX3_change_64 rfl (lv_at hl 3 rfl) ?_
        refine m_ald (x := (M 3 g)) S hA hF hW 2 (by decide) (by decide) rfl hg rfl dX3_change_65 ?_
        refine jn (Z := Z) (tree := (if (M 3 g) ≤ (M 13 g) then (if (M 13 g) ≤ 254 then (M 13 g) else 254) else (M 3 g))) 92 [.int (nI g), .ref (q 3)] (mw Z ws q M) (fun x24 H locs e24 hW hS => ?_) (fun K24 => ?_)
        · skip
          refine m_ast (x := x24) S hA hF hW hS 3 (by decide) (by decide) rfl hg dX3_change_92 (fun H locs hW hS => ?_)
          refine lv_aload_n S.1 S.2.1 dX3_change_93 rfl (lv_at hl 2 rfl) ?_
          refine lv_iload_n S.1 S.2.1 dX3_change_94 rfl (lv_at hl 3 rfl) ?_
          refine c_V S hA hW hS (kX3_bring l Z ws q (up2 M 4 g x24) hF g hg  ) ok_X3_bring tm_X3_123 tn_X3_bring tl_X3_bring (fo_mem hF 0 (by decide)) rfl rfl ⟨Nat.le_of_ble_eq_true rfl, Nat.le_of_ble_eq_true rfl⟩ rfl hl.1 rfl (Nat.le_of_ble_eq_true rfl) dX3_change_95 ⟨Nat.le_of_ble_eq_true rfl, Nat.le_of_ble_eq_true rfl⟩ (kk_v fun H locs hW hS => ?_)
          refine lv_goto (tgt := 352) S.1 S.2.1 dX3_change_98 (by decide) ?_
          exact r_vret S hr hlk hW hS ⟨rfl, congrArg (fun z => mw Z ws q z) (show (fX3_bring (up2 M 4 g x24) g) = (fX3_change M g a2) from Eq.symm (by first | rfl | (unfold fX3_change; rw [if_neg c1, if_neg c2, if_pos c3, ← e24]; unfold fX3_change_j24; done) | (unfold fX3_change; rw [if_neg c1, if_neg c2, if_pos c3, ← e24]; unfold fX3_change_j24; rfl)))⟩ dX3_change_352
        · skip
          refine lv_icmp_ge (tgt := 78) S.1 S.2.1 dX3_change_66 (by decide) (fun c25 => ?_) (fun c25 => ?_)
          · skip
            refine lv_iload_n S.1 S.2.1 dX3_change_78 rfl (lv_at hl 1 rfl) ?_
            refine lv_sipush (v := 254) S.1 S.2.1 dX3_change_79 (by decide) ?_
            refine lv_icmp_le (tgt := 91) S.1 S.2.1 dX3_change_82 (by decide) (fun c26 => ?_) (fun c26 => ?_)
            · skip
              refine lv_iload_n S.1 S.2.1 dX3_change_91 rfl (lv_at hl 1 rfl) ?_
              exact K24 _ _ _ (by rw [if_pos c25, if_pos c26]) hW hS
            · skip
              refine lv_sipush (v := 254) S.1 S.2.1 dX3_change_85 (by decide) ?_
              refine lv_goto (tgt := 92) S.1 S.2.1 dX3_change_88 (by decide) ?_
              exact K24 _ _ _ (by rw [if_pos c25, if_neg c26]) hW hS
          · skip
            refine lv_aload_n S.1 S.2.1 dX3_change_69 rfl (lv_at hl 2 rfl) ?_
            refine m_getA S hA hF hW 2 (by decide) (by decide) tf_X3_13 dX3_change_70 ?_
            refine lv_iload_n S.1 S.2.1 dX3_change_73 rfl (lv_at hl 3 rfl) ?_
            refine m_ald (x := (M 3 g)) S hA hF hW 2 (by decide) (by decide) rfl hg rfl dX3_change_74 ?_
            refine lv_goto (tgt := 92) S.1 S.2.1 dX3_change_75 (by decide) ?_
            exact K24 _ _ _ (by rw [if_neg c25]) hW hS
    · skip
      refine lv_aload_n S.1 S.2.1 dX3_change_33 rfl (lv_at hl 2 rfl) ?_
      refine m_getA S hA hF hW 12 (by decide) (by decide) tf_X3_43 dX3_change_34 ?_
      refine lv_iload_n S.1 S.2.1 dX3_change_37 rfl (lv_at hl 3 rfl) ?_
      refine lv_aload_n S.1 S.2.1 dX3_change_38 rfl (lv_at hl 2 rfl) ?_
      refine m_getA S hA hF hW 1 (by decide) (by decide) tf_X3_7 dX3_change_39 ?_
      refine lv_iload_n S.1 S.2.1 dX3_change_42 rfl (lv_at hl 3 rfl) ?_
      refine m_ald (x := (M 2 g)) S hA hF hW 1 (by decide) (by decide) rfl hg rfl dX3_change_43 ?_
      refine m_ast (x := (M 2 g)) S hA hF hW hS 12 (by decide) (by decide) rfl hg dX3_change_44 (fun H locs hW hS => ?_)
      refine lv_goto (tgt := 352) S.1 S.2.1 dX3_change_45 (by decide) ?_
      exact r_vret S hr hlk hW hS ⟨rfl, congrArg (fun z => mw Z ws q z) (show (up2 M 13 g (M 2 g)) = (fX3_change M g a2) from Eq.symm (by unfold fX3_change; rw [if_neg c1, if_pos c2]))⟩ dX3_change_352
  · skip
    refine lv_aload_n S.1 S.2.1 dX3_change_19 rfl (lv_at hl 2 rfl) ?_
    refine lv_iload_n S.1 S.2.1 dX3_change_20 rfl (lv_at hl 3 rfl) ?_
    refine c_V S hA hW hS (kX3_begin l Z ws q M hF g hg  ) ok_X3_begin tm_X3_85 tn_X3_begin tl_X3_begin (fo_mem hF 0 (by decide)) rfl rfl ⟨Nat.le_of_ble_eq_true rfl, Nat.le_of_ble_eq_true rfl⟩ rfl hl.1 rfl (Nat.le_of_ble_eq_true rfl) dX3_change_21 ⟨Nat.le_of_ble_eq_true rfl, Nat.le_of_ble_eq_true rfl⟩ (kk_v fun H locs hW hS => ?_)
    refine lv_goto (tgt := 352) S.1 S.2.1 dX3_change_24 (by decide) ?_
    exact r_vret S hr hlk hW hS ⟨rfl, congrArg (fun z => mw Z ws q z) (show (fX3_begin M g) = (fX3_change M g a2) from Eq.symm (by unfold fX3_change; rw [if_pos c1]))⟩ dX3_change_352
def fX3_command (M : Nat → Nat → Int32) (g : Nat) (a2 : Int32) (a3 : Int32) : (Nat → Nat → Int32) :=
  (if 9 ≤ a2 then (if (fX3_isIn a2 16 31) = 0 then (if (fX3_isIn a2 32 128) = 0 then (fX3_ask M g a2) else (if a3 = 0 then M else (fX3_change M g a2))) else (if (M 10 (((16 * (nI g)) + a2) - 16).toNatClampNeg) = 255 then M else (fX3_goTo M g (M 10 (((16 * (nI g)) + a2) - 16).toNatClampNeg)))) else (fX3_level M g a2))
set_option maxRecDepth 100000 in
set_option maxHeartbeats 4000000 in
theorem kX3_command (l : Launch) (Z : Zt) (ws : va_W) (q : Nat → Nat) (M : Nat → Nat → Int32) (hF : FI ws 23 q) (g : Nat) (hg : g < 16) (a2 : Int32) (a3 : Int32) (hfa : vp_in (M 7 g) 16) (hra : vp_in (M 8 g) 16) (hby : ∃ n, n < 256 ∧ a2 = nI n) : Ct l Z yX3_command cX3_command 5 none 3 68 0 0 (mw Z ws q M) [.ref (q 0), .int (nI g), .int a2, .int a3] (fun r w => r = none ∧ w = mw Z ws q (fX3_command M g a2 a3)) := by
  refine Ct.start (by decide) (Nat.le_of_ble_eq_true rfl) ?_
  intro p e s m below meth c S hr hlk hnm hA hW hS ls hl
  replace S : CallFix p m c cX3_command 5 s _ TB RX3 := S
  replace hl : lv_has ls 5 [(0, .ref (q 0)), (1, .int (nI g)), (2, .int a2), (3, .int a3)] := hl
  refine lv_iload_n S.1 S.2.1 dX3_command_0 rfl (lv_at hl 2 rfl) ?_
  refine lv_bipush (v := 9) S.1 S.2.1 dX3_command_1 (by decide) ?_
  refine lv_icmp_ge (tgt := 15) S.1 S.2.1 dX3_command_3 (by decide) (fun c1 => ?_) (fun c1 => ?_)
  · skip
    refine lv_iload_n S.1 S.2.1 dX3_command_15 rfl (lv_at hl 2 rfl) ?_
    refine lv_bipush (v := 16) S.1 S.2.1 dX3_command_16 (by decide) ?_
    refine lv_bipush (v := 31) S.1 S.2.1 dX3_command_18 (by decide) ?_
    refine c_S S hA hW hS (kX3_isIn l Z (mw Z ws q M) a2 16 31) ok_X3_isIn tm_X3_93 ts_X3_isIn ⟨Nat.le_of_ble_eq_true rfl, Nat.le_of_ble_eq_true rfl⟩ rfl hl.1 rfl (Nat.le_of_ble_eq_true rfl) dX3_command_20 ⟨Nat.le_of_ble_eq_true rfl, Nat.le_of_ble_eq_true rfl⟩ (kk_i fun H locs hW hS => ?_)
    refine lv_if_eq (tgt := 60) S.1 S.2.1 dX3_command_23 (by decide) (fun c2 => ?_) (fun c2 => ?_)
    · skip
      refine lv_iload_n S.1 S.2.1 dX3_command_60 rfl (lv_at hl 2 rfl) ?_
      refine lv_bipush (v := 32) S.1 S.2.1 dX3_command_61 (by decide) ?_
      refine lv_sipush (v := 128) S.1 S.2.1 dX3_command_63 (by decide) ?_
      refine c_S S hA hW hS (kX3_isIn l Z (mw Z ws q M) a2 32 128) ok_X3_isIn tm_X3_93 ts_X3_isIn ⟨Nat.le_of_ble_eq_true rfl, Nat.le_of_ble_eq_true rfl⟩ rfl hl.1 rfl (Nat.le_of_ble_eq_true rfl) dX3_command_66 ⟨Nat.le_of_ble_eq_true rfl, Nat.le_of_ble_eq_true rfl⟩ (kk_i fun H locs hW hS => ?_)
      refine lv_if_eq (tgt := 85) S.1 S.2.1 dX3_command_69 (by decide) (fun c3 => ?_) (fun c3 => ?_)
      · skip
        refine lv_aload_n S.1 S.2.1 dX3_command_85 rfl (lv_at hl 0 rfl) ?_
        refine lv_iload_n S.1 S.2.1 dX3_command_86 rfl (lv_at hl 1 rfl) ?_
        refine lv_iload_n S.1 S.2.1 dX3_command_87 rfl (lv_at hl 2 rfl) ?_
        refine c_V S hA hW hS (kX3_ask l Z ws q M hF g hg a2 ) ok_X3_ask tm_X3_117 tn_X3_ask tl_X3_ask (fo_mem hF 0 (by decide)) rfl rfl ⟨Nat.le_of_ble_eq_true rfl, Nat.le_of_ble_eq_true rfl⟩ rfl hl.1 rfl (Nat.le_of_ble_eq_true rfl) dX3_command_88 ⟨Nat.le_of_ble_eq_true rfl, Nat.le_of_ble_eq_true rfl⟩ (kk_v fun H locs hW hS => ?_)
        exact r_vret S hr hlk hW hS ⟨rfl, congrArg (fun z => mw Z ws q z) (show (fX3_ask M g a2) = (fX3_command M g a2 a3) from Eq.symm (by unfold fX3_command; rw [if_pos c1, if_pos c2, if_pos c3]))⟩ dX3_command_91
      · skip
        refine lv_iload_n S.1 S.2.1 dX3_command_72 rfl (lv_at hl 3 rfl) ?_
        refine lv_if_eq (tgt := 91) S.1 S.2.1 dX3_command_73 (by decide) (fun c4 => ?_) (fun c4 => ?_)
        · skip
          exact r_vret S hr hlk hW hS ⟨rfl, congrArg (fun z => mw Z ws q z) (show M = (fX3_command M g a2 a3) from Eq.symm (by unfold fX3_command; rw [if_pos c1, if_pos c2, if_neg c3, if_pos c4]))⟩ dX3_command_91
        · skip
          refine lv_aload_n S.1 S.2.1 dX3_command_76 rfl (lv_at hl 0 rfl) ?_
          refine lv_iload_n S.1 S.2.1 dX3_command_77 rfl (lv_at hl 1 rfl) ?_
          refine lv_iload_n S.1 S.2.1 dX3_command_78 rfl (lv_at hl 2 rfl) ?_
          refine c_V S hA hW hS (kX3_change l Z ws q M hF g hg a2 hby) ok_X3_change tm_X3_114 tn_X3_change tl_X3_change (fo_mem hF 0 (by decide)) rfl rfl ⟨Nat.le_of_ble_eq_true rfl, Nat.le_of_ble_eq_true rfl⟩ rfl hl.1 rfl (Nat.le_of_ble_eq_true rfl) dX3_command_79 ⟨Nat.le_of_ble_eq_true rfl, Nat.le_of_ble_eq_true rfl⟩ (kk_v fun H locs hW hS => ?_)
          refine lv_goto (tgt := 91) S.1 S.2.1 dX3_command_82 (by decide) ?_
          exact r_vret S hr hlk hW hS ⟨rfl, congrArg (fun z => mw Z ws q z) (show (fX3_change M g a2) = (fX3_command M g a2 a3) from Eq.symm (by unfold fX3_command; rw [if_pos c1, if_pos c2, if_neg c3, if_neg c4]))⟩ dX3_command_91
    · skip
      refine lv_aload_n S.1 S.2.1 dX3_command_26 rfl (lv_at hl 0 rfl) ?_
      refine m_getA S hA hF hW 9 (by decide) (by decide) tf_X3_34 dX3_command_27 ?_
      refine lv_bipush (v := 16) S.1 S.2.1 dX3_command_30 (by decide) ?_
      refine lv_iload_n S.1 S.2.1 dX3_command_32 rfl (lv_at hl 1 rfl) ?_
      refine lv_imul S.1 S.2.1 dX3_command_33 ?_
      refine lv_iload_n S.1 S.2.1 dX3_command_34 rfl (lv_at hl 2 rfl) ?_
      refine lv_iadd S.1 S.2.1 dX3_command_35 ?_
      refine lv_bipush (v := 16) S.1 S.2.1 dX3_command_36 (by decide) ?_
      refine lv_isub S.1 S.2.1 dX3_command_38 ?_
      refine m_aldX (x := (M 10 (((16 * (nI g)) + a2) - 16).toNatClampNeg)) S hA hF hW 9 (by decide) (by decide) rfl (sc_in (lo := 16) hg (by decide) (isIn_of (by assumption)).1 (isIn_of (by assumption)).2) rfl dX3_command_39 ?_
      refine lv_istore (lv' := [(4, .int (M 10 (((16 * (nI g)) + a2) - 16).toNatClampNeg)), (0, .ref (q 0)), (1, .int (nI g)), (2, .int a2), (3, .int a3)]) S.1 S.2.1 dX3_command_40 hl (by decide) rfl (fun ls hl => ?_)
      refine lv_iload S.1 S.2.1 dX3_command_42 (lv_at hl 0 rfl) ?_
      refine lv_sipush (v := 255) S.1 S.2.1 dX3_command_44 (by decide) ?_
      refine lv_icmp_eq (tgt := 57) S.1 S.2.1 dX3_command_47 (by decide) (fun c5 => ?_) (fun c5 => ?_)
      · skip
        refine lv_goto (tgt := 91) S.1 S.2.1 dX3_command_57 (by decide) ?_
        exact r_vret S hr hlk hW hS ⟨rfl, congrArg (fun z => mw Z ws q z) (show M = (fX3_command M g a2 a3) from Eq.symm (by unfold fX3_command; rw [if_pos c1, if_neg c2, if_pos c5]))⟩ dX3_command_91
      · skip
        refine lv_aload_n S.1 S.2.1 dX3_command_50 rfl (lv_at hl 1 rfl) ?_
        refine lv_iload_n S.1 S.2.1 dX3_command_51 rfl (lv_at hl 2 rfl) ?_
        refine lv_iload S.1 S.2.1 dX3_command_52 (lv_at hl 0 rfl) ?_
        refine c_V S hA hW hS (kX3_goTo l Z ws q M hF g hg (M 10 (((16 * (nI g)) + a2) - 16).toNatClampNeg) hfa) ok_X3_goTo tm_X3_111 tn_X3_goTo tl_X3_goTo (fo_mem hF 0 (by decide)) rfl rfl ⟨Nat.le_of_ble_eq_true rfl, Nat.le_of_ble_eq_true rfl⟩ rfl hl.1 rfl (Nat.le_of_ble_eq_true rfl) dX3_command_54 ⟨Nat.le_of_ble_eq_true rfl, Nat.le_of_ble_eq_true rfl⟩ (kk_v fun H locs hW hS => ?_)
        refine lv_goto (tgt := 91) S.1 S.2.1 dX3_command_57 (by decide) ?_
        exact r_vret S hr hlk hW hS ⟨rfl, congrArg (fun z => mw Z ws q z) (show (fX3_goTo M g (M 10 (((16 * (nI g)) + a2) - 16).toNatClampNeg)) = (fX3_command M g a2 a3) from Eq.symm (by unfold fX3_command; rw [if_pos c1, if_neg c2, if_neg c5]))⟩ dX3_command_91
  · skip
    refine lv_aload_n S.1 S.2.1 dX3_command_6 rfl (lv_at hl 0 rfl) ?_
    refine lv_iload_n S.1 S.2.1 dX3_command_7 rfl (lv_at hl 1 rfl) ?_
    refine lv_iload_n S.1 S.2.1 dX3_command_8 rfl (lv_at hl 2 rfl) ?_
    refine c_V S hA hW hS (kX3_level l Z ws q M hF g hg a2 hra) ok_X3_level tm_X3_108 tn_X3_level tl_X3_level (fo_mem hF 0 (by decide)) rfl rfl ⟨Nat.le_of_ble_eq_true rfl, Nat.le_of_ble_eq_true rfl⟩ rfl hl.1 rfl (Nat.le_of_ble_eq_true rfl) dX3_command_9 ⟨Nat.le_of_ble_eq_true rfl, Nat.le_of_ble_eq_true rfl⟩ (kk_v fun H locs hW hS => ?_)
    refine lv_goto (tgt := 91) S.1 S.2.1 dX3_command_12 (by decide) ?_
    exact r_vret S hr hlk hW hS ⟨rfl, congrArg (fun z => mw Z ws q z) (show (fX3_level M g a2) = (fX3_command M g a2 a3) from Eq.symm (by unfold fX3_command; rw [if_neg c1]))⟩ dX3_command_91
