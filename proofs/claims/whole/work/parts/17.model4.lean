def tickN (k : Int32) (M : Nat → Nat → Int32) : Nat → Int32
  | 0 => 0
  | i + 1 => bodyTn k (itM (bodyT k) i M) i (tickN k M i)
def fX3_tick (M : Nat → Nat → Int32) (k : Int32) : Int32 × (Nat → Nat → Int32) := if (fX3_isIn k 1 2000) = 0 then ((-2), M) else (tickN k (up2 M 26 0 0) (nOf M), itM (bodyT k) (nOf M) (up2 M 26 0 0))
set_option maxRecDepth 100000 in
set_option maxHeartbeats 4000000 in
theorem kX3_tick (l : Launch) (Z : Zt) (ws : va_W) (q : Nat → Nat) (M : Nat → Nat → Int32) (hF : FI ws 23 q) (a1 : Int32) {n : Nat} (hI : MInv n M) : Ct l Z yX3_tick cX3_tick 5 (some .int) 1 22 0 0 (mw Z ws q M) [.ref (q 0), .int a1] (fun r w => r = some (.int (fX3_tick M a1).1) ∧ w = mw Z ws q (fX3_tick M a1).2) := by
  refine Ct.start (by decide) (Nat.le_of_ble_eq_true rfl) ?_
  intro p e s m below meth c S hr hlk hnm hA hW hS ls hl
  replace S : CallFix p m c cX3_tick 5 s _ TB RX3 := S
  replace hl : lv_has ls 5 [(0, .ref (q 0)), (1, .int a1)] := hl
  have hn16 := hI.2.1
  refine lv_iload_n S.1 S.2.1 dX3_tick_0 rfl (lv_at hl 1 rfl) ?_
  refine lv_iconst (v := 1) S.1 S.2.1 dX3_tick_1 (by decide) ?_
  refine lv_sipush (v := 2000) S.1 S.2.1 dX3_tick_2 (by decide) ?_
  refine c_S S hA hW hS (kX3_isIn l Z (mw Z ws q M) a1 1 2000) ok_X3_isIn tm_X3_93 ts_X3_isIn ⟨Nat.le_of_ble_eq_true rfl, Nat.le_of_ble_eq_true rfl⟩ rfl hl.1 rfl (Nat.le_of_ble_eq_true rfl) dX3_tick_5 ⟨Nat.le_of_ble_eq_true rfl, Nat.le_of_ble_eq_true rfl⟩ (kk_i fun H locs hW hS => ?_)
  refine lv_if_ne (tgt := 14) S.1 S.2.1 dX3_tick_8 (by decide) (fun c1 => ?_) (fun c1 => ?_)
  · skip
    refine lv_aload_n S.1 S.2.1 dX3_tick_14 rfl (lv_at hl 0 rfl) ?_
    refine lv_iconst (v := 0) S.1 S.2.1 dX3_tick_15 (by decide) ?_
    refine m_put (x := 0) S hA hF hW hS 26 (by decide) (by decide) tf_X3_133 rfl rfl rfl dX3_tick_16 (fun H locs hW hS => ?_)
    refine lv_iconst (v := 0) S.1 S.2.1 dX3_tick_19 (by decide) ?_
    refine lv_istore_n (lv' := [(2, .int 0), (0, .ref (q 0)), (1, .int a1)]) S.1 S.2.1 dX3_tick_20 rfl hl (by decide) rfl (fun ls hl => ?_)
    refine lv_iconst (v := 0) S.1 S.2.1 dX3_tick_21 (by decide) ?_
    refine lv_istore_n (lv' := [(3, .int 0), (2, .int 0), (0, .ref (q 0)), (1, .int a1)]) S.1 S.2.1 dX3_tick_22 rfl hl (by decide) rfl (fun ls hl => ?_)
    have cA := c1
    have hMI : MInv n (up2 M 26 0 0) := mi_may hI (Or.inl rfl)
    have hIt : ∀ i, i ≤ n → MInv n (itM (bodyT a1) i (up2 M 26 0 0)) := mi_it (fun M g h hg => mi_T (isIn_inB cA) h hg) hMI
    refine w_loop (fun d H1 locs1 ls1 => ∃ i, i + d = n ∧ Wd Z (mw Z ws q (itM (bodyT a1) i (up2 M 26 0 0))) H1 ∧ va_S (zA Z) s.heap H1 locs1 ∧ lv_has ls1 5 [(3, .int (nI i)), (2, .int (tickN a1 (up2 M 26 0 0) i)), (0, .ref (q 0)), (1, .int a1)]) ?_ n ⟨0, by omega, hW, hS, lv_sub hl [0, 1, 2, 3] rfl⟩
    clear hW hS hl
    rintro d H locs ls ⟨i, hd, hW, hS, hl⟩ ih
    have hMi := hIt i (by omega)
    refine lv_iload_n S.1 S.2.1 dX3_tick_23 rfl (lv_at hl 0 rfl) ?_
    refine lv_aload_n S.1 S.2.1 dX3_tick_24 rfl (lv_at hl 2 rfl) ?_
    refine m_get (x := nI n) S hA hF hW 1 (by decide) (by decide) tf_X3_82 hMi.1 dX3_tick_25 ?_
    refine lv_icmp_ge (tgt := 157) S.1 S.2.1 dX3_tick_28 (by decide) (fun cL => ?_) (fun cL => ?_)
    · have e : i = n := by
        rcases Nat.lt_or_ge i n with h | h
        · exact absurd cL (nI_ge h (by omega))
        · omega
      subst e
      refine lv_iload_n S.1 S.2.1 dX3_tick_157 rfl (lv_at hl 1 rfl) ?_
      exact r_iret S hr hlk hW hS (by rw [show fX3_tick M a1 = (tickN a1 (up2 M 26 0 0) i, itM (bodyT a1) i (up2 M 26 0 0)) from (by unfold fX3_tick; rw [if_neg cA, nOf_eq hI])]; exact ⟨rfl, rfl⟩) dX3_tick_158
    · have hi : i < n := by
        rcases Nat.lt_or_ge i n with h | h
        · exact h
        · exact absurd (nI_le h (by omega)) cL
      have hg : i < 16 := by omega
      refine jx (rest := []) 151 (fun H1 locs1 ls1 => Wd Z (mw Z ws q (itM (bodyT a1) (i + 1) (up2 M 26 0 0))) H1 ∧ va_S (zA Z) s.heap H1 locs1 ∧ lv_has ls1 5 [(3, .int (nI i)), (2, .int (tickN a1 (up2 M 26 0 0) (i + 1))), (0, .ref (q 0)), (1, .int a1)]) (fun H locs ls ⟨hW, hS, hl⟩ => ?_) (fun K => ?_)
      · refine lv_iinc (v := nI (i + 1)) (lv' := [(3, .int (nI (i + 1))), (2, .int (tickN a1 (up2 M 26 0 0) (i + 1))), (0, .ref (q 0)), (1, .int a1)]) S.1 S.2.1 dX3_tick_151 hl (k := 0) rfl (nI_1 i) (by decide) rfl (fun ls hl => ?_)
        refine lv_goto (tgt := 23) S.1 S.2.1 dX3_tick_154 (by decide) ?_
        exact ih (d - 1) H locs ls (by omega) ⟨i + 1, by omega, hW, hS, hl⟩
      · change ∀ (H1 : Heap) (locs1 : List Loc) (ls1 : Array Slot), Wd Z (mw Z ws q (bodyT a1 (itM (bodyT a1) i (up2 M 26 0 0)) i)) H1 ∧ _ ∧ lv_has ls1 5 [(3, .int (nI i)), (2, .int (bodyTn a1 (itM (bodyT a1) i (up2 M 26 0 0)) i (tickN a1 (up2 M 26 0 0) i))), (0, .ref (q 0)), (1, .int a1)] → _ at K
        generalize tickN a1 (up2 M 26 0 0) i = x at hl K
        generalize hMe : itM (bodyT a1) i (up2 M 26 0 0) = M at hMi hW K
        clear hMe
        obtain ⟨g, rfl⟩ : ∃ g, g = i := ⟨_, rfl⟩
        refine lv_aload_n S.1 S.2.1 dX3_tick_31 rfl (lv_at hl 2 rfl) ?_
        refine m_getA S hA hF hW 17 (by decide) (by decide) tf_X3_59 dX3_tick_32 ?_
        refine lv_iload_n S.1 S.2.1 dX3_tick_35 rfl (lv_at hl 0 rfl) ?_
        refine m_ald (x := (M 18 g)) S hA hF hW 17 (by decide) (by decide) rfl hg rfl dX3_tick_36 ?_
        refine lv_iconst (v := (-1)) S.1 S.2.1 dX3_tick_37 (by decide) ?_
        refine lv_icmp_eq (tgt := 151) S.1 S.2.1 dX3_tick_38 (by decide) (fun c2 => ?_) (fun c2 => ?_)
        · skip
          exact K _ _ _ ⟨by rw [show (bodyT a1 M g) = M from (by unfold bodyT tickV; rw [if_pos c2])]; exact hW, hS, by rw [show bodyTn a1 M g x = x from (by unfold bodyTn; rw [if_pos c2])]; exact lv_sub hl [0, 1, 2, 3] rfl⟩
        · skip
          refine lv_aload_n S.1 S.2.1 dX3_tick_41 rfl (lv_at hl 2 rfl) ?_
          refine m_getA S hA hF hW 20 (by decide) (by decide) tf_X3_68 dX3_tick_42 ?_
          refine lv_iload_n S.1 S.2.1 dX3_tick_45 rfl (lv_at hl 0 rfl) ?_
          refine lv_aload_n S.1 S.2.1 dX3_tick_46 rfl (lv_at hl 2 rfl) ?_
          refine m_getA S hA hF hW 20 (by decide) (by decide) tf_X3_68 dX3_tick_47 ?_
          refine lv_iload_n S.1 S.2.1 dX3_tick_50 rfl (lv_at hl 0 rfl) ?_
          refine m_ald (x := (M 21 g)) S hA hF hW 20 (by decide) (by decide) rfl hg rfl dX3_tick_51 ?_
          refine lv_iload_n S.1 S.2.1 dX3_tick_52 rfl (lv_at hl 3 rfl) ?_
          refine lv_iadd S.1 S.2.1 dX3_tick_53 ?_
          refine m_ast (x := ((M 21 g) + a1)) S hA hF hW hS 20 (by decide) (by decide) rfl hg dX3_tick_54 (fun H locs hW hS => ?_)
          refine lv_aload_n S.1 S.2.1 dX3_tick_55 rfl (lv_at hl 2 rfl) ?_
          refine m_getA S hA hF hW 20 (by decide) (by decide) tf_X3_68 dX3_tick_56 ?_
          refine lv_iload_n S.1 S.2.1 dX3_tick_59 rfl (lv_at hl 0 rfl) ?_
          refine m_ald (x := ((M 21 g) + a1)) S hA hF hW 20 (by decide) (by decide) rfl hg (by simp [up2, upd]) dX3_tick_60 ?_
          refine lv_aload_n S.1 S.2.1 dX3_tick_61 rfl (lv_at hl 2 rfl) ?_
          refine m_getA S hA hF hW 19 (by decide) (by decide) tf_X3_65 dX3_tick_62 ?_
          refine lv_iload_n S.1 S.2.1 dX3_tick_65 rfl (lv_at hl 0 rfl) ?_
          refine m_ald (x := (M 20 g)) S hA hF hW 19 (by decide) (by decide) rfl hg (by simp [up2]) dX3_tick_66 ?_
          refine lv_icmp_lt (tgt := 84) S.1 S.2.1 dX3_tick_67 (by decide) (fun c3 => ?_) (fun c3 => ?_)
          · skip
            refine lv_aload_n S.1 S.2.1 dX3_tick_84 rfl (lv_at hl 2 rfl) ?_
            refine m_getA S hA hF hW 18 (by decide) (by decide) tf_X3_62 dX3_tick_85 ?_
            refine lv_iload_n S.1 S.2.1 dX3_tick_88 rfl (lv_at hl 0 rfl) ?_
            refine m_ald (x := (M 19 g)) S hA hF hW 18 (by decide) (by decide) rfl hg (by simp [up2]) dX3_tick_89 ?_
            refine lv_aload_n S.1 S.2.1 dX3_tick_90 rfl (lv_at hl 2 rfl) ?_
            refine m_getA S hA hF hW 17 (by decide) (by decide) tf_X3_59 dX3_tick_91 ?_
            refine lv_iload_n S.1 S.2.1 dX3_tick_94 rfl (lv_at hl 0 rfl) ?_
            refine m_ald (x := (M 18 g)) S hA hF hW 17 (by decide) (by decide) rfl hg (by simp [up2]) dX3_tick_95 ?_
            refine lv_aload_n S.1 S.2.1 dX3_tick_96 rfl (lv_at hl 2 rfl) ?_
            refine m_getA S hA hF hW 18 (by decide) (by decide) tf_X3_62 dX3_tick_97 ?_
            refine lv_iload_n S.1 S.2.1 dX3_tick_100 rfl (lv_at hl 0 rfl) ?_
            refine m_ald (x := (M 19 g)) S hA hF hW 18 (by decide) (by decide) rfl hg (by simp [up2]) dX3_tick_101 ?_
            refine lv_isub S.1 S.2.1 dX3_tick_102 ?_
            refine lv_aload_n S.1 S.2.1 dX3_tick_103 rfl (lv_at hl 2 rfl) ?_
            refine m_getA S hA hF hW 20 (by decide) (by decide) tf_X3_68 dX3_tick_104 ?_
            refine lv_iload_n S.1 S.2.1 dX3_tick_107 rfl (lv_at hl 0 rfl) ?_
            refine m_ald (x := ((M 21 g) + a1)) S hA hF hW 20 (by decide) (by decide) rfl hg (by simp [up2, upd]) dX3_tick_108 ?_
            refine lv_imul S.1 S.2.1 dX3_tick_109 ?_
            refine lv_aload_n S.1 S.2.1 dX3_tick_110 rfl (lv_at hl 2 rfl) ?_
            refine m_getA S hA hF hW 19 (by decide) (by decide) tf_X3_65 dX3_tick_111 ?_
            refine lv_iload_n S.1 S.2.1 dX3_tick_114 rfl (lv_at hl 0 rfl) ?_
            refine m_ald (x := (M 20 g)) S hA hF hW 19 (by decide) (by decide) rfl hg (by simp [up2]) dX3_tick_115 ?_
            refine lv_idiv S.1 S.2.1 dX3_tick_116 (mi_sp hMi hi (by assumption)) ?_
            refine lv_iadd S.1 S.2.1 dX3_tick_117 ?_
            refine lv_istore (lv' := [(4, .int ((M 19 g) + ((((M 18 g) - (M 19 g)) * ((M 21 g) + a1)) / (M 20 g)))), (3, .int (nI g)), (2, .int x), (0, .ref (q 0)), (1, .int a1)]) S.1 S.2.1 dX3_tick_118 hl (by decide) rfl (fun ls hl => ?_)
            refine lv_aload_n S.1 S.2.1 dX3_tick_120 rfl (lv_at hl 3 rfl) ?_
            refine m_getA S hA hF hW 1 (by decide) (by decide) tf_X3_7 dX3_tick_121 ?_
            refine lv_iload_n S.1 S.2.1 dX3_tick_124 rfl (lv_at hl 1 rfl) ?_
            refine lv_iload S.1 S.2.1 dX3_tick_125 (lv_at hl 0 rfl) ?_
            refine lv_aload_n S.1 S.2.1 dX3_tick_127 rfl (lv_at hl 3 rfl) ?_
            refine m_getA S hA hF hW 2 (by decide) (by decide) tf_X3_13 dX3_tick_128 ?_
            refine lv_iload_n S.1 S.2.1 dX3_tick_131 rfl (lv_at hl 1 rfl) ?_
            refine m_ald (x := (M 3 g)) S hA hF hW 2 (by decide) (by decide) rfl hg (by simp [up2]) dX3_tick_132 ?_
            refine jn (Z := Z) (tree := (if (M 3 g) ≤ ((M 19 g) + ((((M 18 g) - (M 19 g)) * ((M 21 g) + a1)) / (M 20 g))) then ((M 19 g) + ((((M 18 g) - (M 19 g)) * ((M 21 g) + a1)) / (M 20 g))) else (M 3 g))) 147 [.int (nI g), .ref (q 1)] (mw Z ws q (up2 M 21 g ((M 21 g) + a1))) (fun x4 H locs e4 hW hS => ?_) (fun K4 => ?_)
            · skip
              refine m_ast (x := x4) S hA hF hW hS 1 (by decide) (by decide) rfl hg dX3_tick_147 (fun H locs hW hS => ?_)
              refine lv_iinc (v := (x + 1)) (lv' := [(2, .int (x + 1)), (4, .int ((M 19 g) + ((((M 18 g) - (M 19 g)) * ((M 21 g) + a1)) / (M 20 g)))), (3, .int (nI g)), (0, .ref (q 0)), (1, .int a1)]) S.1 S.2.1 dX3_tick_148 hl (k := 2) rfl rfl (by decide) rfl (fun ls hl => ?_)
              exact K _ _ _ ⟨by rw [show (bodyT a1 M g) = (up2 (up2 M 21 g ((M 21 g) + a1)) 2 g x4) from (by unfold bodyT tickV; rw [if_neg c2, if_pos c3, ← e4])]; exact hW, hS, by rw [show bodyTn a1 M g x = (x + 1) from (by unfold bodyTn; rw [if_neg c2, if_pos c3])]; exact lv_sub hl [2, 0, 3, 4] rfl⟩
            · skip
              refine lv_icmp_ge (tgt := 145) S.1 S.2.1 dX3_tick_133 (by decide) (fun c5 => ?_) (fun c5 => ?_)
              · skip
                refine lv_iload S.1 S.2.1 dX3_tick_145 (lv_at hl 0 rfl) ?_
                exact K4 _ _ _ (by rw [if_pos c5]) hW hS
              · skip
                refine lv_aload_n S.1 S.2.1 dX3_tick_136 rfl (lv_at hl 3 rfl) ?_
                refine m_getA S hA hF hW 2 (by decide) (by decide) tf_X3_13 dX3_tick_137 ?_
                refine lv_iload_n S.1 S.2.1 dX3_tick_140 rfl (lv_at hl 1 rfl) ?_
                refine m_ald (x := (M 3 g)) S hA hF hW 2 (by decide) (by decide) rfl hg (by simp [up2]) dX3_tick_141 ?_
                refine lv_goto (tgt := 147) S.1 S.2.1 dX3_tick_142 (by decide) ?_
                exact K4 _ _ _ (by rw [if_neg c5]) hW hS
          · skip
            refine lv_aload_n S.1 S.2.1 dX3_tick_70 rfl (lv_at hl 2 rfl) ?_
            refine lv_iload_n S.1 S.2.1 dX3_tick_71 rfl (lv_at hl 0 rfl) ?_
            refine lv_aload_n S.1 S.2.1 dX3_tick_72 rfl (lv_at hl 2 rfl) ?_
            refine m_getA S hA hF hW 17 (by decide) (by decide) tf_X3_59 dX3_tick_73 ?_
            refine lv_iload_n S.1 S.2.1 dX3_tick_76 rfl (lv_at hl 0 rfl) ?_
            refine m_ald (x := (M 18 g)) S hA hF hW 17 (by decide) (by decide) rfl hg (by simp [up2]) dX3_tick_77 ?_
            refine c_V S hA hW hS (kX3_set l Z ws q (up2 M 21 g ((M 21 g) + a1)) hF g hg (M 18 g) ) ok_X3_set tm_X3_101 tn_X3_set tl_X3_set (fo_mem hF 0 (by decide)) rfl rfl ⟨Nat.le_of_ble_eq_true rfl, Nat.le_of_ble_eq_true rfl⟩ rfl hl.1 rfl (Nat.le_of_ble_eq_true rfl) dX3_tick_78 ⟨Nat.le_of_ble_eq_true rfl, Nat.le_of_ble_eq_true rfl⟩ (kk_v fun H locs hW hS => ?_)
            refine lv_goto (tgt := 151) S.1 S.2.1 dX3_tick_81 (by decide) ?_
            exact K _ _ _ ⟨by rw [show (bodyT a1 M g) = (fX3_set (up2 M 21 g ((M 21 g) + a1)) g (M 18 g)) from (by unfold bodyT tickV; rw [if_neg c2, if_neg c3])]; exact hW, hS, by rw [show bodyTn a1 M g x = x from (by unfold bodyTn; rw [if_neg c2, if_neg c3])]; exact lv_sub hl [0, 1, 2, 3] rfl⟩
  · skip
    refine lv_bipush (v := (-2)) S.1 S.2.1 dX3_tick_11 (by decide) ?_
    exact r_iret S hr hlk hW hS (show some (Value.int (-2)) = some (Value.int (fX3_tick M a1).1) ∧ (mw Z ws q M) = mw Z ws q (fX3_tick M a1).2 from (by rw [show (fX3_tick M a1) = ((-2), M) from (by unfold fX3_tick; rw [if_pos c1])]; exact ⟨rfl, rfl⟩)) dX3_tick_13
noncomputable def srch0 (M : Nat → Nat → Int32) (a1 : Int32) : Int32 × (Nat → Nat → Int32) :=
  (((fX3_send (up2 (fX3_send (fX3_send (fX3_send M 177 (a1 / 65536)).2 179 ((a1 / 256) - (a1 / 256) / 256 * 256)).2 181 (a1 - a1 / 256 * 256)).2 25 0 (((fX3_send (fX3_send (fX3_send M 177 (a1 / 65536)).2 179 ((a1 / 256) - (a1 / 256) / 256 * 256)).2 181 (a1 - a1 / 256 * 256)).2 25 0) + 1)) 169 0).1), (fX3_send (up2 (fX3_send (fX3_send (fX3_send M 177 (a1 / 65536)).2 179 ((a1 / 256) - (a1 / 256) / 256 * 256)).2 181 (a1 - a1 / 256 * 256)).2 25 0 (((fX3_send (fX3_send (fX3_send M 177 (a1 / 65536)).2 179 ((a1 / 256) - (a1 / 256) / 256 * 256)).2 181 (a1 - a1 / 256 * 256)).2 25 0) + 1)) 169 0).2)
noncomputable def fX3_search : (Nat → Nat → Int32) → Int32 → Int32 × (Nat → Nat → Int32) := Classical.choose (p := fun f => f = srch0) ⟨srch0, rfl⟩
theorem fX3_search_eq : fX3_search = srch0 := Classical.choose_spec (p := fun f => f = srch0) ⟨srch0, rfl⟩
set_option maxRecDepth 100000 in
set_option maxHeartbeats 4000000 in
theorem kX3_search (l : Launch) (Z : Zt) (ws : va_W) (q : Nat → Nat) (M : Nat → Nat → Int32) (hF : FI ws 23 q) (a1 : Int32) {n : Nat} (hI : MInv n M) : Ct l Z yX3_search cX3_search 3 (some .int) 5 116 0 0 (mw Z ws q M) [.ref (q 0), .int a1] (fun r w => r = some (.int (fX3_search M a1).1) ∧ w = mw Z ws q (fX3_search M a1).2) := by
  refine Ct.start (by decide) (Nat.le_of_ble_eq_true rfl) ?_
  intro p e s m below meth c S hr hlk hnm hA hW hS ls hl
  replace S : CallFix p m c cX3_search 3 s _ TB RX3 := S
  replace hl : lv_has ls 3 [(0, .ref (q 0)), (1, .int a1)] := hl
  refine lv_aload_n S.1 S.2.1 dX3_search_0 rfl (lv_at hl 0 rfl) ?_
  refine lv_sipush (v := 177) S.1 S.2.1 dX3_search_1 (by decide) ?_
  refine lv_iload_n S.1 S.2.1 dX3_search_4 rfl (lv_at hl 1 rfl) ?_
  refine r_ldc S tk_X3_132 dX3_search_5 ?_
  refine lv_idiv S.1 S.2.1 dX3_search_7 (by decide) ?_
  refine c_V S hA hW hS (kX3_send (n := n) l Z ws q M hF 177 (a1 / 65536) hI) ok_X3_send tm_X3_158 tn_X3_send tl_X3_send (fo_mem hF 0 (by decide)) rfl rfl ⟨Nat.le_of_ble_eq_true rfl, Nat.le_of_ble_eq_true rfl⟩ rfl hl.1 rfl (Nat.le_of_ble_eq_true rfl) dX3_search_8 ⟨Nat.le_of_ble_eq_true rfl, Nat.le_of_ble_eq_true rfl⟩ (kk_i fun H locs hW hS => ?_)
  refine lv_istore_n (lv' := [(2, .int ((fX3_send M 177 (a1 / 65536)).1)), (0, .ref (q 0)), (1, .int a1)]) S.1 S.2.1 dX3_search_11 rfl hl (by decide) rfl (fun ls hl => ?_)
  refine lv_aload_n S.1 S.2.1 dX3_search_12 rfl (lv_at hl 1 rfl) ?_
  refine lv_sipush (v := 179) S.1 S.2.1 dX3_search_13 (by decide) ?_
  refine lv_iload_n S.1 S.2.1 dX3_search_16 rfl (lv_at hl 2 rfl) ?_
  refine lv_sipush (v := 256) S.1 S.2.1 dX3_search_17 (by decide) ?_
  refine lv_idiv S.1 S.2.1 dX3_search_20 (by decide) ?_
  refine lv_sipush (v := 256) S.1 S.2.1 dX3_search_21 (by decide) ?_
  refine lv_irem S.1 S.2.1 dX3_search_24 (by decide) ?_
  refine c_V S hA hW hS (kX3_send (n := n) l Z ws q (fX3_send M 177 (a1 / 65536)).2 hF 179 ((a1 / 256) - (a1 / 256) / 256 * 256) (mi_send hI)) ok_X3_send tm_X3_158 tn_X3_send tl_X3_send (fo_mem hF 0 (by decide)) rfl rfl ⟨Nat.le_of_ble_eq_true rfl, Nat.le_of_ble_eq_true rfl⟩ rfl hl.1 rfl (Nat.le_of_ble_eq_true rfl) dX3_search_25 ⟨Nat.le_of_ble_eq_true rfl, Nat.le_of_ble_eq_true rfl⟩ (kk_i fun H locs hW hS => ?_)
  refine lv_istore_n (lv' := [(2, .int ((fX3_send (fX3_send M 177 (a1 / 65536)).2 179 ((a1 / 256) - (a1 / 256) / 256 * 256)).1)), (0, .ref (q 0)), (1, .int a1)]) S.1 S.2.1 dX3_search_28 rfl hl (by decide) rfl (fun ls hl => ?_)
  refine lv_aload_n S.1 S.2.1 dX3_search_29 rfl (lv_at hl 1 rfl) ?_
  refine lv_sipush (v := 181) S.1 S.2.1 dX3_search_30 (by decide) ?_
  refine lv_iload_n S.1 S.2.1 dX3_search_33 rfl (lv_at hl 2 rfl) ?_
  refine lv_sipush (v := 256) S.1 S.2.1 dX3_search_34 (by decide) ?_
  refine lv_irem S.1 S.2.1 dX3_search_37 (by decide) ?_
  refine c_V S hA hW hS (kX3_send (n := n) l Z ws q (fX3_send (fX3_send M 177 (a1 / 65536)).2 179 ((a1 / 256) - (a1 / 256) / 256 * 256)).2 hF 181 (a1 - a1 / 256 * 256) (mi_send (mi_send hI))) ok_X3_send tm_X3_158 tn_X3_send tl_X3_send (fo_mem hF 0 (by decide)) rfl rfl ⟨Nat.le_of_ble_eq_true rfl, Nat.le_of_ble_eq_true rfl⟩ rfl hl.1 rfl (Nat.le_of_ble_eq_true rfl) dX3_search_38 ⟨Nat.le_of_ble_eq_true rfl, Nat.le_of_ble_eq_true rfl⟩ (kk_i fun H locs hW hS => ?_)
  refine lv_istore_n (lv' := [(2, .int ((fX3_send (fX3_send (fX3_send M 177 (a1 / 65536)).2 179 ((a1 / 256) - (a1 / 256) / 256 * 256)).2 181 (a1 - a1 / 256 * 256)).1)), (0, .ref (q 0)), (1, .int a1)]) S.1 S.2.1 dX3_search_41 rfl hl (by decide) rfl (fun ls hl => ?_)
  refine lv_aload_n S.1 S.2.1 dX3_search_42 rfl (lv_at hl 1 rfl) ?_
  refine lv_dup S.1 S.2.1 dX3_search_43 rfl ?_
  refine m_get (x := ((fX3_send (fX3_send (fX3_send M 177 (a1 / 65536)).2 179 ((a1 / 256) - (a1 / 256) / 256 * 256)).2 181 (a1 - a1 / 256 * 256)).2 25 0)) S hA hF hW 25 (by decide) (by decide) tf_X3_161 rfl dX3_search_44 ?_
  refine lv_iconst (v := 1) S.1 S.2.1 dX3_search_47 (by decide) ?_
  refine lv_iadd S.1 S.2.1 dX3_search_48 ?_
  refine m_put (x := (((fX3_send (fX3_send (fX3_send M 177 (a1 / 65536)).2 179 ((a1 / 256) - (a1 / 256) / 256 * 256)).2 181 (a1 - a1 / 256 * 256)).2 25 0) + 1)) S hA hF hW hS 25 (by decide) (by decide) tf_X3_161 rfl rfl rfl dX3_search_49 (fun H locs hW hS => ?_)
  refine lv_aload_n S.1 S.2.1 dX3_search_52 rfl (lv_at hl 1 rfl) ?_
  refine lv_sipush (v := 169) S.1 S.2.1 dX3_search_53 (by decide) ?_
  refine lv_iconst (v := 0) S.1 S.2.1 dX3_search_56 (by decide) ?_
  refine c_V S hA hW hS (kX3_send (n := n) l Z ws q (up2 (fX3_send (fX3_send (fX3_send M 177 (a1 / 65536)).2 179 ((a1 / 256) - (a1 / 256) / 256 * 256)).2 181 (a1 - a1 / 256 * 256)).2 25 0 (((fX3_send (fX3_send (fX3_send M 177 (a1 / 65536)).2 179 ((a1 / 256) - (a1 / 256) / 256 * 256)).2 181 (a1 - a1 / 256 * 256)).2 25 0) + 1)) hF 169 0 (mi_sc (mi_send (mi_send (mi_send hI))) (by decide))) ok_X3_send tm_X3_158 tn_X3_send tl_X3_send (fo_mem hF 0 (by decide)) rfl rfl ⟨Nat.le_of_ble_eq_true rfl, Nat.le_of_ble_eq_true rfl⟩ rfl hl.1 rfl (Nat.le_of_ble_eq_true rfl) dX3_search_57 ⟨Nat.le_of_ble_eq_true rfl, Nat.le_of_ble_eq_true rfl⟩ (kk_i fun H locs hW hS => ?_)
  exact r_iret S hr hlk hW hS (show some (Value.int ((fX3_send (up2 (fX3_send (fX3_send (fX3_send M 177 (a1 / 65536)).2 179 ((a1 / 256) - (a1 / 256) / 256 * 256)).2 181 (a1 - a1 / 256 * 256)).2 25 0 (((fX3_send (fX3_send (fX3_send M 177 (a1 / 65536)).2 179 ((a1 / 256) - (a1 / 256) / 256 * 256)).2 181 (a1 - a1 / 256 * 256)).2 25 0) + 1)) 169 0).1)) = some (Value.int (fX3_search M a1).1) ∧ (mw Z ws q (fX3_send (up2 (fX3_send (fX3_send (fX3_send M 177 (a1 / 65536)).2 179 ((a1 / 256) - (a1 / 256) / 256 * 256)).2 181 (a1 - a1 / 256 * 256)).2 25 0 (((fX3_send (fX3_send (fX3_send M 177 (a1 / 65536)).2 179 ((a1 / 256) - (a1 / 256) / 256 * 256)).2 181 (a1 - a1 / 256 * 256)).2 25 0) + 1)) 169 0).2) = mw Z ws q (fX3_search M a1).2 from (by rw [show (fX3_search M a1) = (((fX3_send (up2 (fX3_send (fX3_send (fX3_send M 177 (a1 / 65536)).2 179 ((a1 / 256) - (a1 / 256) / 256 * 256)).2 181 (a1 - a1 / 256 * 256)).2 25 0 (((fX3_send (fX3_send (fX3_send M 177 (a1 / 65536)).2 179 ((a1 / 256) - (a1 / 256) / 256 * 256)).2 181 (a1 - a1 / 256 * 256)).2 25 0) + 1)) 169 0).1), (fX3_send (up2 (fX3_send (fX3_send (fX3_send M 177 (a1 / 65536)).2 179 ((a1 / 256) - (a1 / 256) / 256 * 256)).2 181 (a1 - a1 / 256 * 256)).2 25 0 (((fX3_send (fX3_send (fX3_send M 177 (a1 / 65536)).2 179 ((a1 / 256) - (a1 / 256) / 256 * 256)).2 181 (a1 - a1 / 256 * 256)).2 25 0) + 1)) 169 0).2) from (by rw [fX3_search_eq]; rfl)]; exact ⟨rfl, rfl⟩)) dX3_search_60
theorem mi_search {n : Nat} {M : Nat → Nat → Int32} {a : Int32} (h : MInv n M) : MInv n (fX3_search M a).2 := by
  rw [fX3_search_eq]
  unfold srch0
  exact mi_send (mi_sc (mi_send (mi_send (mi_send h))) (by decide))
def bitOf (j : Nat) : Int32 := if j = 0 then 0 else nI (2 ^ (j - 1))
theorem bit_half : ∀ j, j < 24 → bitOf (j + 1) / 2 = bitOf j := by decide +kernel
theorem bit_pos : ∀ j, j < 24 → ¬ bitOf (j + 1) ≤ 0 := by decide +kernel
noncomputable def cmIn : Nat → Int32 → (Nat → Nat → Int32) → Int32 × (Nat → Nat → Int32)
  | 0, v, M => (v, M)
  | j + 1, v, M => if (fX3_search M (v - (bitOf (j + 1)))).1 = (-1) then cmIn j v (fX3_search M (v - (bitOf (j + 1)))).2 else cmIn j (v - (bitOf (j + 1))) (fX3_search M (v - (bitOf (j + 1)))).2
noncomputable def cmAf (a1 t v : Int32) (M : Nat → Nat → Int32) : Nat → Nat → Int32 := (fX3_send (fX3_send (fX3_send (fX3_send (fX3_send M 177 (v / 65536)).2 179 ((v / 256) - (v / 256) / 256 * 256)).2 181 (v - v / 256 * 256)).2 183 ((2 * (a1 + t)) + 1)).2 171 0).2
noncomputable def cmO (a1 : Int32) : Nat → Int32 → (Nat → Nat → Int32) → Int32 × (Nat → Nat → Int32)
  | 0, t, M => (t, M)
  | f + 1, t, M => if 64 ≤ (a1 + t) then (t, M) else (if 20 ≤ t then (t, M) else (if (fX3_search M 16777215).1 = (-1) then (t, (fX3_search M 16777215).2) else cmO a1 f (t + 1) (cmAf a1 t (cmIn 24 16777215 (fX3_search M 16777215).2).1 (cmIn 24 16777215 (fX3_search M 16777215).2).2)))
theorem cmIn_s {j : Nat} {v : Int32} {M : Nat → Nat → Int32} : cmIn (j + 1) v M = if (fX3_search M (v - (bitOf (j + 1)))).1 = (-1) then cmIn j v (fX3_search M (v - (bitOf (j + 1)))).2 else cmIn j (v - (bitOf (j + 1))) (fX3_search M (v - (bitOf (j + 1)))).2 := rfl
theorem cmO_s {a1 t : Int32} {f : Nat} {M : Nat → Nat → Int32} : cmO a1 (f + 1) t M = if 64 ≤ (a1 + t) then (t, M) else (if 20 ≤ t then (t, M) else (if (fX3_search M 16777215).1 = (-1) then (t, (fX3_search M 16777215).2) else cmO a1 f (t + 1) (cmAf a1 t (cmIn 24 16777215 (fX3_search M 16777215).2).1 (cmIn 24 16777215 (fX3_search M 16777215).2).2))) := rfl
noncomputable def cmM1 (M : Nat → Nat → Int32) : Nat → Nat → Int32 := (fX3_send (fX3_send (fX3_send (fX3_send (up2 M 25 0 0) 165 0).2 165 0).2 167 0).2 167 0).2
noncomputable def fX3_commission (M : Nat → Nat → Int32) (a1 : Int32) : Int32 × (Nat → Nat → Int32) := if (fX3_isIn a1 0 63) = 0 then ((-2), M) else ((cmO a1 21 0 (cmM1 M)).1, (fX3_send (cmO a1 21 0 (cmM1 M)).2 161 0).2)
theorem mi_cmAf {n : Nat} {M : Nat → Nat → Int32} {a t v : Int32} (h : MInv n M) : MInv n (cmAf a t v M) := by
  unfold cmAf
  exact mi_send (mi_send (mi_send (mi_send (mi_send h))))
theorem mi_cmIn {n : Nat} : ∀ (j : Nat) (v : Int32) (M : Nat → Nat → Int32), MInv n M → MInv n (cmIn j v M).2 := by
  intro j
  induction j with
  | zero => intro v M h; exact h
  | succ j ih =>
    intro v M h
    unfold cmIn
    split
    · exact ih _ _ (mi_search h)
    · exact ih _ _ (mi_search h)
theorem mi_cmO {n : Nat} {a : Int32} : ∀ (f : Nat) (t : Int32) (M : Nat → Nat → Int32), MInv n M → MInv n (cmO a f t M).2 := by
  intro f
  induction f with
  | zero => intro t M h; exact h
  | succ f ih =>
    intro t M h
    unfold cmO
    split
    · exact h
    · split
      · exact h
      · split
        · exact mi_search h
        · exact ih _ _ (mi_cmAf (mi_cmIn _ _ _ (mi_search h)))
theorem mi_cmM1 {n : Nat} {M : Nat → Nat → Int32} (h : MInv n M) : MInv n (cmM1 M) := by
  unfold cmM1
  exact mi_send (mi_send (mi_send (mi_send (mi_sc h (by decide)))))
theorem mi_commission {n : Nat} {M : Nat → Nat → Int32} {a : Int32} (h : MInv n M) : MInv n (fX3_commission M a).2 := by
  unfold fX3_commission
  split
  · exact h
  · exact mi_send (mi_cmO _ _ _ (mi_cmM1 h))
