set_option maxRecDepth 100000 in
set_option maxHeartbeats 4000000 in
theorem kX3_commission (l : Launch) (Z : Zt) (ws : va_W) (q : Nat → Nat) (M : Nat → Nat → Int32) (hF : FI ws 23 q) (a1 : Int32) {n : Nat} (hI : MInv n M) : Ct l Z yX3_commission cX3_commission 6 (some .int) 6 138 0 0 (mw Z ws q M) [.ref (q 0), .int a1] (fun r w => r = some (.int (fX3_commission M a1).1) ∧ w = mw Z ws q (fX3_commission M a1).2) := by
  refine Ct.start (by decide) (Nat.le_of_ble_eq_true rfl) ?_
  intro p e s m below meth c S hr hlk hnm hA hW hS ls hl
  replace S : CallFix p m c cX3_commission 6 s _ TB RX3 := S
  replace hl : lv_has ls 6 [(0, .ref (q 0)), (1, .int a1)] := hl
  refine lv_iload_n S.1 S.2.1 dX3_commission_0 rfl (lv_at hl 1 rfl) ?_
  refine lv_iconst (v := 0) S.1 S.2.1 dX3_commission_1 (by decide) ?_
  refine lv_bipush (v := 63) S.1 S.2.1 dX3_commission_2 (by decide) ?_
  refine c_S S hA hW hS (kX3_isIn l Z (mw Z ws q M) a1 0 63) ok_X3_isIn tm_X3_93 ts_X3_isIn ⟨Nat.le_of_ble_eq_true rfl, Nat.le_of_ble_eq_true rfl⟩ rfl hl.1 rfl (Nat.le_of_ble_eq_true rfl) dX3_commission_4 ⟨Nat.le_of_ble_eq_true rfl, Nat.le_of_ble_eq_true rfl⟩ (kk_i fun H locs hW hS => ?_)
  refine lv_if_ne (tgt := 13) S.1 S.2.1 dX3_commission_7 (by decide) (fun c1 => ?_) (fun c1 => ?_)
  · skip
    refine lv_aload_n S.1 S.2.1 dX3_commission_13 rfl (lv_at hl 0 rfl) ?_
    refine lv_iconst (v := 0) S.1 S.2.1 dX3_commission_14 (by decide) ?_
    refine m_put (x := 0) S hA hF hW hS 25 (by decide) (by decide) tf_X3_161 rfl rfl rfl dX3_commission_15 (fun H locs hW hS => ?_)
    refine lv_aload_n S.1 S.2.1 dX3_commission_18 rfl (lv_at hl 0 rfl) ?_
    refine lv_sipush (v := 165) S.1 S.2.1 dX3_commission_19 (by decide) ?_
    refine lv_iconst (v := 0) S.1 S.2.1 dX3_commission_22 (by decide) ?_
    refine c_V S hA hW hS (kX3_send (n := n) l Z ws q (up2 M 25 0 0) hF 165 0 (mi_sc hI (by decide))) ok_X3_send tm_X3_158 tn_X3_send tl_X3_send (fo_mem hF 0 (by decide)) rfl rfl ⟨Nat.le_of_ble_eq_true rfl, Nat.le_of_ble_eq_true rfl⟩ rfl hl.1 rfl (Nat.le_of_ble_eq_true rfl) dX3_commission_23 ⟨Nat.le_of_ble_eq_true rfl, Nat.le_of_ble_eq_true rfl⟩ (kk_i fun H locs hW hS => ?_)
    refine lv_istore_n (lv' := [(2, .int ((fX3_send (up2 M 25 0 0) 165 0).1)), (0, .ref (q 0)), (1, .int a1)]) S.1 S.2.1 dX3_commission_26 rfl hl (by decide) rfl (fun ls hl => ?_)
    refine lv_aload_n S.1 S.2.1 dX3_commission_27 rfl (lv_at hl 1 rfl) ?_
    refine lv_sipush (v := 165) S.1 S.2.1 dX3_commission_28 (by decide) ?_
    refine lv_iconst (v := 0) S.1 S.2.1 dX3_commission_31 (by decide) ?_
    refine c_V S hA hW hS (kX3_send (n := n) l Z ws q (fX3_send (up2 M 25 0 0) 165 0).2 hF 165 0 (mi_send (mi_sc hI (by decide)))) ok_X3_send tm_X3_158 tn_X3_send tl_X3_send (fo_mem hF 0 (by decide)) rfl rfl ⟨Nat.le_of_ble_eq_true rfl, Nat.le_of_ble_eq_true rfl⟩ rfl hl.1 rfl (Nat.le_of_ble_eq_true rfl) dX3_commission_32 ⟨Nat.le_of_ble_eq_true rfl, Nat.le_of_ble_eq_true rfl⟩ (kk_i fun H locs hW hS => ?_)
    refine lv_istore_n (lv' := [(2, .int ((fX3_send (fX3_send (up2 M 25 0 0) 165 0).2 165 0).1)), (0, .ref (q 0)), (1, .int a1)]) S.1 S.2.1 dX3_commission_35 rfl hl (by decide) rfl (fun ls hl => ?_)
    refine lv_aload_n S.1 S.2.1 dX3_commission_36 rfl (lv_at hl 1 rfl) ?_
    refine lv_sipush (v := 167) S.1 S.2.1 dX3_commission_37 (by decide) ?_
    refine lv_iconst (v := 0) S.1 S.2.1 dX3_commission_40 (by decide) ?_
    refine c_V S hA hW hS (kX3_send (n := n) l Z ws q (fX3_send (fX3_send (up2 M 25 0 0) 165 0).2 165 0).2 hF 167 0 (mi_send (mi_send (mi_sc hI (by decide))))) ok_X3_send tm_X3_158 tn_X3_send tl_X3_send (fo_mem hF 0 (by decide)) rfl rfl ⟨Nat.le_of_ble_eq_true rfl, Nat.le_of_ble_eq_true rfl⟩ rfl hl.1 rfl (Nat.le_of_ble_eq_true rfl) dX3_commission_41 ⟨Nat.le_of_ble_eq_true rfl, Nat.le_of_ble_eq_true rfl⟩ (kk_i fun H locs hW hS => ?_)
    refine lv_istore_n (lv' := [(2, .int ((fX3_send (fX3_send (fX3_send (up2 M 25 0 0) 165 0).2 165 0).2 167 0).1)), (0, .ref (q 0)), (1, .int a1)]) S.1 S.2.1 dX3_commission_44 rfl hl (by decide) rfl (fun ls hl => ?_)
    refine lv_aload_n S.1 S.2.1 dX3_commission_45 rfl (lv_at hl 1 rfl) ?_
    refine lv_sipush (v := 167) S.1 S.2.1 dX3_commission_46 (by decide) ?_
    refine lv_iconst (v := 0) S.1 S.2.1 dX3_commission_49 (by decide) ?_
    refine c_V S hA hW hS (kX3_send (n := n) l Z ws q (fX3_send (fX3_send (fX3_send (up2 M 25 0 0) 165 0).2 165 0).2 167 0).2 hF 167 0 (mi_send (mi_send (mi_send (mi_sc hI (by decide)))))) ok_X3_send tm_X3_158 tn_X3_send tl_X3_send (fo_mem hF 0 (by decide)) rfl rfl ⟨Nat.le_of_ble_eq_true rfl, Nat.le_of_ble_eq_true rfl⟩ rfl hl.1 rfl (Nat.le_of_ble_eq_true rfl) dX3_commission_50 ⟨Nat.le_of_ble_eq_true rfl, Nat.le_of_ble_eq_true rfl⟩ (kk_i fun H locs hW hS => ?_)
    refine lv_istore_n (lv' := [(2, .int ((fX3_send (fX3_send (fX3_send (fX3_send (up2 M 25 0 0) 165 0).2 165 0).2 167 0).2 167 0).1)), (0, .ref (q 0)), (1, .int a1)]) S.1 S.2.1 dX3_commission_53 rfl hl (by decide) rfl (fun ls hl => ?_)
    refine lv_iconst (v := 0) S.1 S.2.1 dX3_commission_54 (by decide) ?_
    refine lv_istore_n (lv' := [(3, .int 0), (2, .int ((fX3_send (fX3_send (fX3_send (fX3_send (up2 M 25 0 0) 165 0).2 165 0).2 167 0).2 167 0).1)), (0, .ref (q 0)), (1, .int a1)]) S.1 S.2.1 dX3_commission_55 rfl hl (by decide) rfl (fun ls hl => ?_)
    have cA := c1
    have hMI : MInv n (cmM1 M) := mi_cmM1 hI
    refine w_loop (fun d H1 locs1 ls1 => ∃ (t : Nat) (M2 : Nat → Nat → Int32), t ≤ 20 ∧ t + d = 21 ∧ MInv n M2 ∧ cmO a1 d (nI t) M2 = cmO a1 21 0 (cmM1 M) ∧ Wd Z (mw Z ws q M2) H1 ∧ va_S (zA Z) s.heap H1 locs1 ∧ lv_has ls1 6 [(3, .int (nI t)), (0, .ref (q 0)), (1, .int a1)]) ?_ 21 ⟨0, cmM1 M, by omega, rfl, hMI, rfl, (by unfold cmM1; exact hW), hS, lv_sub hl [0, 2, 3] rfl⟩
    clear hW hS hl
    rintro d H locs ls ⟨t, M2, ht, hd, hM2, hcm, hW, hS, hl⟩ ih
    obtain ⟨f, rfl⟩ : ∃ f, d = f + 1 := ⟨d - 1, by omega⟩
    refine lv_iload_n S.1 S.2.1 dX3_commission_56 rfl (lv_at hl 2 rfl) ?_
    refine lv_iload_n S.1 S.2.1 dX3_commission_57 rfl (lv_at hl 0 rfl) ?_
    refine lv_iadd S.1 S.2.1 dX3_commission_58 ?_
    refine lv_bipush (v := 64) S.1 S.2.1 dX3_commission_59 (by decide) ?_
    refine lv_icmp_ge (tgt := 197) S.1 S.2.1 dX3_commission_61 (by decide) (fun c2 => ?_) (fun c2 => ?_)
    · skip
      have hx : cmO a1 21 0 (cmM1 M) = ((nI t), M2) := by rw [← hcm, cmO_s, if_pos c2]
      refine lv_aload_n S.1 S.2.1 dX3_commission_197 rfl (lv_at hl 1 rfl) ?_
      refine lv_sipush (v := 161) S.1 S.2.1 dX3_commission_198 (by decide) ?_
      refine lv_iconst (v := 0) S.1 S.2.1 dX3_commission_201 (by decide) ?_
      refine c_V S hA hW hS (kX3_send (n := n) l Z ws q M2 hF 161 0 hM2) ok_X3_send tm_X3_158 tn_X3_send tl_X3_send (fo_mem hF 0 (by decide)) rfl rfl ⟨Nat.le_of_ble_eq_true rfl, Nat.le_of_ble_eq_true rfl⟩ rfl hl.1 rfl (Nat.le_of_ble_eq_true rfl) dX3_commission_202 ⟨Nat.le_of_ble_eq_true rfl, Nat.le_of_ble_eq_true rfl⟩ (kk_i fun H locs hW hS => ?_)
      refine lv_istore_n (lv' := [(2, .int ((fX3_send M2 161 0).1)), (3, .int (nI t)), (0, .ref (q 0)), (1, .int a1)]) S.1 S.2.1 dX3_commission_205 rfl hl (by decide) rfl (fun ls hl => ?_)
      refine lv_iload_n S.1 S.2.1 dX3_commission_206 rfl (lv_at hl 1 rfl) ?_
      exact r_iret S hr hlk hW hS (by rw [show fX3_commission M a1 = ((nI t), (fX3_send M2 161 0).2) from (by unfold fX3_commission; rw [if_neg cA, hx])]; exact ⟨rfl, rfl⟩) dX3_commission_207
    · skip
      refine lv_iload_n S.1 S.2.1 dX3_commission_64 rfl (lv_at hl 0 rfl) ?_
      refine lv_bipush (v := 20) S.1 S.2.1 dX3_commission_65 (by decide) ?_
      refine lv_icmp_ge (tgt := 197) S.1 S.2.1 dX3_commission_67 (by decide) (fun c3 => ?_) (fun c3 => ?_)
      · skip
        have hx : cmO a1 21 0 (cmM1 M) = ((nI t), M2) := by rw [← hcm, cmO_s, if_neg c2, if_pos c3]
        refine lv_aload_n S.1 S.2.1 dX3_commission_197 rfl (lv_at hl 1 rfl) ?_
        refine lv_sipush (v := 161) S.1 S.2.1 dX3_commission_198 (by decide) ?_
        refine lv_iconst (v := 0) S.1 S.2.1 dX3_commission_201 (by decide) ?_
        refine c_V S hA hW hS (kX3_send (n := n) l Z ws q M2 hF 161 0 hM2) ok_X3_send tm_X3_158 tn_X3_send tl_X3_send (fo_mem hF 0 (by decide)) rfl rfl ⟨Nat.le_of_ble_eq_true rfl, Nat.le_of_ble_eq_true rfl⟩ rfl hl.1 rfl (Nat.le_of_ble_eq_true rfl) dX3_commission_202 ⟨Nat.le_of_ble_eq_true rfl, Nat.le_of_ble_eq_true rfl⟩ (kk_i fun H locs hW hS => ?_)
        refine lv_istore_n (lv' := [(2, .int ((fX3_send M2 161 0).1)), (3, .int (nI t)), (0, .ref (q 0)), (1, .int a1)]) S.1 S.2.1 dX3_commission_205 rfl hl (by decide) rfl (fun ls hl => ?_)
        refine lv_iload_n S.1 S.2.1 dX3_commission_206 rfl (lv_at hl 1 rfl) ?_
        exact r_iret S hr hlk hW hS (by rw [show fX3_commission M a1 = ((nI t), (fX3_send M2 161 0).2) from (by unfold fX3_commission; rw [if_neg cA, hx])]; exact ⟨rfl, rfl⟩) dX3_commission_207
      · skip
        refine lv_aload_n S.1 S.2.1 dX3_commission_70 rfl (lv_at hl 1 rfl) ?_
        refine r_ldc S tk_X3_81 dX3_commission_71 ?_
        refine c_V S hA hW hS (kX3_search (n := n) l Z ws q M2 hF 16777215 hM2) ok_X3_search tm_X3_164 tn_X3_search tl_X3_search (fo_mem hF 0 (by decide)) rfl rfl ⟨Nat.le_of_ble_eq_true rfl, Nat.le_of_ble_eq_true rfl⟩ rfl hl.1 rfl (Nat.le_of_ble_eq_true rfl) dX3_commission_73 ⟨Nat.le_of_ble_eq_true rfl, Nat.le_of_ble_eq_true rfl⟩ (kk_i fun H locs hW hS => ?_)
        refine lv_iconst (v := (-1)) S.1 S.2.1 dX3_commission_76 (by decide) ?_
        refine lv_icmp_eq (tgt := 197) S.1 S.2.1 dX3_commission_77 (by decide) (fun c4 => ?_) (fun c4 => ?_)
        · skip
          have hx : cmO a1 21 0 (cmM1 M) = ((nI t), (fX3_search M2 16777215).2) := by rw [← hcm, cmO_s, if_neg c2, if_neg c3, if_pos c4]
          refine lv_aload_n S.1 S.2.1 dX3_commission_197 rfl (lv_at hl 1 rfl) ?_
          refine lv_sipush (v := 161) S.1 S.2.1 dX3_commission_198 (by decide) ?_
          refine lv_iconst (v := 0) S.1 S.2.1 dX3_commission_201 (by decide) ?_
          refine c_V S hA hW hS (kX3_send (n := n) l Z ws q (fX3_search M2 16777215).2 hF 161 0 (mi_search hM2)) ok_X3_send tm_X3_158 tn_X3_send tl_X3_send (fo_mem hF 0 (by decide)) rfl rfl ⟨Nat.le_of_ble_eq_true rfl, Nat.le_of_ble_eq_true rfl⟩ rfl hl.1 rfl (Nat.le_of_ble_eq_true rfl) dX3_commission_202 ⟨Nat.le_of_ble_eq_true rfl, Nat.le_of_ble_eq_true rfl⟩ (kk_i fun H locs hW hS => ?_)
          refine lv_istore_n (lv' := [(2, .int ((fX3_send (fX3_search M2 16777215).2 161 0).1)), (3, .int (nI t)), (0, .ref (q 0)), (1, .int a1)]) S.1 S.2.1 dX3_commission_205 rfl hl (by decide) rfl (fun ls hl => ?_)
          refine lv_iload_n S.1 S.2.1 dX3_commission_206 rfl (lv_at hl 1 rfl) ?_
          exact r_iret S hr hlk hW hS (by rw [show fX3_commission M a1 = ((nI t), (fX3_send (fX3_search M2 16777215).2 161 0).2) from (by unfold fX3_commission; rw [if_neg cA, hx])]; exact ⟨rfl, rfl⟩) dX3_commission_207
        · skip
          refine r_ldc S tk_X3_81 dX3_commission_80 ?_
          refine lv_istore (lv' := [(4, .int 16777215), (3, .int (nI t)), (0, .ref (q 0)), (1, .int a1)]) S.1 S.2.1 dX3_commission_82 hl (by decide) rfl (fun ls hl => ?_)
          refine r_ldc S tk_X3_168 dX3_commission_84 ?_
          refine lv_istore (lv' := [(5, .int 8388608), (4, .int 16777215), (3, .int (nI t)), (0, .ref (q 0)), (1, .int a1)]) S.1 S.2.1 dX3_commission_86 hl (by decide) rfl (fun ls hl => ?_)
          have hMs : MInv n (fX3_search M2 16777215).2 := mi_search hM2
          have hne := c4
          refine w_loop (fun d H1 locs1 ls1 => ∃ (j : Nat) (v : Int32) (Mv : Nat → Nat → Int32), d = j ∧ j ≤ 24 ∧ MInv n Mv ∧ cmIn j v Mv = cmIn 24 16777215 (fX3_search M2 16777215).2 ∧ Wd Z (mw Z ws q Mv) H1 ∧ va_S (zA Z) s.heap H1 locs1 ∧ lv_has ls1 6 [(5, .int (bitOf j)), (4, .int v), (3, .int (nI t)), (0, .ref (q 0)), (1, .int a1)]) ?_ 24 ⟨24, 16777215, (fX3_search M2 16777215).2, rfl, by omega, hMs, rfl, hW, hS, lv_sub hl [0, 1, 2, 3, 4] rfl⟩
          clear hW hS hl
          rintro d H locs ls ⟨j, v, Mv, rfl, hj, hMv, hcv, hW, hS, hl⟩ ih2
          refine lv_iload S.1 S.2.1 dX3_commission_88 (lv_at hl 0 rfl) ?_
          refine lv_if_le (tgt := 122) S.1 S.2.1 dX3_commission_90 (by decide) (fun cb => ?_) (fun cb => ?_)
          · have e0 : d = 0 := by
              rcases Nat.eq_zero_or_pos d with h | h
              · exact h
              · obtain ⟨k, rfl⟩ : ∃ k, d = k + 1 := ⟨d - 1, by omega⟩
                exact absurd cb (bit_pos k (by omega))
            subst e0
            change (v, Mv) = _ at hcv
            refine lv_aload_n S.1 S.2.1 dX3_commission_122 rfl (lv_at hl 3 rfl) ?_
            refine lv_sipush (v := 177) S.1 S.2.1 dX3_commission_123 (by decide) ?_
            refine lv_iload S.1 S.2.1 dX3_commission_126 (lv_at hl 1 rfl) ?_
            refine r_ldc S tk_X3_132 dX3_commission_128 ?_
            refine lv_idiv S.1 S.2.1 dX3_commission_130 (by decide) ?_
            refine c_V S hA hW hS (kX3_send (n := n) l Z ws q Mv hF 177 (v / 65536) hMv) ok_X3_send tm_X3_158 tn_X3_send tl_X3_send (fo_mem hF 0 (by decide)) rfl rfl ⟨Nat.le_of_ble_eq_true rfl, Nat.le_of_ble_eq_true rfl⟩ rfl hl.1 rfl (Nat.le_of_ble_eq_true rfl) dX3_commission_131 ⟨Nat.le_of_ble_eq_true rfl, Nat.le_of_ble_eq_true rfl⟩ (kk_i fun H locs hW hS => ?_)
            refine lv_istore_n (lv' := [(2, .int ((fX3_send Mv 177 (v / 65536)).1)), (5, .int (bitOf 0)), (4, .int v), (3, .int (nI t)), (0, .ref (q 0)), (1, .int a1)]) S.1 S.2.1 dX3_commission_134 rfl hl (by decide) rfl (fun ls hl => ?_)
            refine lv_aload_n S.1 S.2.1 dX3_commission_135 rfl (lv_at hl 4 rfl) ?_
            refine lv_sipush (v := 179) S.1 S.2.1 dX3_commission_136 (by decide) ?_
            refine lv_iload S.1 S.2.1 dX3_commission_139 (lv_at hl 2 rfl) ?_
            refine lv_sipush (v := 256) S.1 S.2.1 dX3_commission_141 (by decide) ?_
            refine lv_idiv S.1 S.2.1 dX3_commission_144 (by decide) ?_
            refine lv_sipush (v := 256) S.1 S.2.1 dX3_commission_145 (by decide) ?_
            refine lv_irem S.1 S.2.1 dX3_commission_148 (by decide) ?_
            refine c_V S hA hW hS (kX3_send (n := n) l Z ws q (fX3_send Mv 177 (v / 65536)).2 hF 179 ((v / 256) - (v / 256) / 256 * 256) (mi_send hMv)) ok_X3_send tm_X3_158 tn_X3_send tl_X3_send (fo_mem hF 0 (by decide)) rfl rfl ⟨Nat.le_of_ble_eq_true rfl, Nat.le_of_ble_eq_true rfl⟩ rfl hl.1 rfl (Nat.le_of_ble_eq_true rfl) dX3_commission_149 ⟨Nat.le_of_ble_eq_true rfl, Nat.le_of_ble_eq_true rfl⟩ (kk_i fun H locs hW hS => ?_)
            refine lv_istore_n (lv' := [(2, .int ((fX3_send (fX3_send Mv 177 (v / 65536)).2 179 ((v / 256) - (v / 256) / 256 * 256)).1)), (5, .int (bitOf 0)), (4, .int v), (3, .int (nI t)), (0, .ref (q 0)), (1, .int a1)]) S.1 S.2.1 dX3_commission_152 rfl hl (by decide) rfl (fun ls hl => ?_)
            refine lv_aload_n S.1 S.2.1 dX3_commission_153 rfl (lv_at hl 4 rfl) ?_
            refine lv_sipush (v := 181) S.1 S.2.1 dX3_commission_154 (by decide) ?_
            refine lv_iload S.1 S.2.1 dX3_commission_157 (lv_at hl 2 rfl) ?_
            refine lv_sipush (v := 256) S.1 S.2.1 dX3_commission_159 (by decide) ?_
            refine lv_irem S.1 S.2.1 dX3_commission_162 (by decide) ?_
            refine c_V S hA hW hS (kX3_send (n := n) l Z ws q (fX3_send (fX3_send Mv 177 (v / 65536)).2 179 ((v / 256) - (v / 256) / 256 * 256)).2 hF 181 (v - v / 256 * 256) (mi_send (mi_send hMv))) ok_X3_send tm_X3_158 tn_X3_send tl_X3_send (fo_mem hF 0 (by decide)) rfl rfl ⟨Nat.le_of_ble_eq_true rfl, Nat.le_of_ble_eq_true rfl⟩ rfl hl.1 rfl (Nat.le_of_ble_eq_true rfl) dX3_commission_163 ⟨Nat.le_of_ble_eq_true rfl, Nat.le_of_ble_eq_true rfl⟩ (kk_i fun H locs hW hS => ?_)
            refine lv_istore_n (lv' := [(2, .int ((fX3_send (fX3_send (fX3_send Mv 177 (v / 65536)).2 179 ((v / 256) - (v / 256) / 256 * 256)).2 181 (v - v / 256 * 256)).1)), (5, .int (bitOf 0)), (4, .int v), (3, .int (nI t)), (0, .ref (q 0)), (1, .int a1)]) S.1 S.2.1 dX3_commission_166 rfl hl (by decide) rfl (fun ls hl => ?_)
            refine lv_aload_n S.1 S.2.1 dX3_commission_167 rfl (lv_at hl 4 rfl) ?_
            refine lv_sipush (v := 183) S.1 S.2.1 dX3_commission_168 (by decide) ?_
            refine lv_iconst (v := 2) S.1 S.2.1 dX3_commission_171 (by decide) ?_
            refine lv_iload_n S.1 S.2.1 dX3_commission_172 rfl (lv_at hl 5 rfl) ?_
            refine lv_iload_n S.1 S.2.1 dX3_commission_173 rfl (lv_at hl 3 rfl) ?_
            refine lv_iadd S.1 S.2.1 dX3_commission_174 ?_
            refine lv_imul S.1 S.2.1 dX3_commission_175 ?_
            refine lv_iconst (v := 1) S.1 S.2.1 dX3_commission_176 (by decide) ?_
            refine lv_iadd S.1 S.2.1 dX3_commission_177 ?_
            refine c_V S hA hW hS (kX3_send (n := n) l Z ws q (fX3_send (fX3_send (fX3_send Mv 177 (v / 65536)).2 179 ((v / 256) - (v / 256) / 256 * 256)).2 181 (v - v / 256 * 256)).2 hF 183 ((2 * (a1 + (nI t))) + 1) (mi_send (mi_send (mi_send hMv)))) ok_X3_send tm_X3_158 tn_X3_send tl_X3_send (fo_mem hF 0 (by decide)) rfl rfl ⟨Nat.le_of_ble_eq_true rfl, Nat.le_of_ble_eq_true rfl⟩ rfl hl.1 rfl (Nat.le_of_ble_eq_true rfl) dX3_commission_178 ⟨Nat.le_of_ble_eq_true rfl, Nat.le_of_ble_eq_true rfl⟩ (kk_i fun H locs hW hS => ?_)
            refine lv_istore_n (lv' := [(2, .int ((fX3_send (fX3_send (fX3_send (fX3_send Mv 177 (v / 65536)).2 179 ((v / 256) - (v / 256) / 256 * 256)).2 181 (v - v / 256 * 256)).2 183 ((2 * (a1 + (nI t))) + 1)).1)), (5, .int (bitOf 0)), (4, .int v), (3, .int (nI t)), (0, .ref (q 0)), (1, .int a1)]) S.1 S.2.1 dX3_commission_181 rfl hl (by decide) rfl (fun ls hl => ?_)
            refine lv_aload_n S.1 S.2.1 dX3_commission_182 rfl (lv_at hl 4 rfl) ?_
            refine lv_sipush (v := 171) S.1 S.2.1 dX3_commission_183 (by decide) ?_
            refine lv_iconst (v := 0) S.1 S.2.1 dX3_commission_186 (by decide) ?_
            refine c_V S hA hW hS (kX3_send (n := n) l Z ws q (fX3_send (fX3_send (fX3_send (fX3_send Mv 177 (v / 65536)).2 179 ((v / 256) - (v / 256) / 256 * 256)).2 181 (v - v / 256 * 256)).2 183 ((2 * (a1 + (nI t))) + 1)).2 hF 171 0 (mi_send (mi_send (mi_send (mi_send hMv))))) ok_X3_send tm_X3_158 tn_X3_send tl_X3_send (fo_mem hF 0 (by decide)) rfl rfl ⟨Nat.le_of_ble_eq_true rfl, Nat.le_of_ble_eq_true rfl⟩ rfl hl.1 rfl (Nat.le_of_ble_eq_true rfl) dX3_commission_187 ⟨Nat.le_of_ble_eq_true rfl, Nat.le_of_ble_eq_true rfl⟩ (kk_i fun H locs hW hS => ?_)
            refine lv_istore_n (lv' := [(2, .int ((fX3_send (fX3_send (fX3_send (fX3_send (fX3_send Mv 177 (v / 65536)).2 179 ((v / 256) - (v / 256) / 256 * 256)).2 181 (v - v / 256 * 256)).2 183 ((2 * (a1 + (nI t))) + 1)).2 171 0).1)), (5, .int (bitOf 0)), (4, .int v), (3, .int (nI t)), (0, .ref (q 0)), (1, .int a1)]) S.1 S.2.1 dX3_commission_190 rfl hl (by decide) rfl (fun ls hl => ?_)
            refine lv_iinc (v := nI (t + 1)) (lv' := [(3, .int (nI (t + 1))), (2, .int ((fX3_send (fX3_send (fX3_send (fX3_send (fX3_send Mv 177 (v / 65536)).2 179 ((v / 256) - (v / 256) / 256 * 256)).2 181 (v - v / 256 * 256)).2 183 ((2 * (a1 + (nI t))) + 1)).2 171 0).1)), (5, .int (bitOf 0)), (4, .int v), (0, .ref (q 0)), (1, .int a1)]) S.1 S.2.1 dX3_commission_191 hl (k := 3) rfl (nI_1 t) (by decide) rfl (fun ls hl => ?_)
            refine lv_goto (tgt := 56) S.1 S.2.1 dX3_commission_194 (by decide) ?_
            refine ih f _ _ _ (by omega) ⟨t + 1, cmAf a1 (nI t) v Mv, ?_, by omega, mi_cmAf hMv, ?_, (by unfold cmAf; exact hW), hS, lv_sub hl [0, 4, 5] rfl⟩
            · have : t < 20 := by
                rcases Nat.lt_or_ge t 20 with h | h
                · exact h
                · exact absurd (nI_le h (by omega)) c3
              omega
            · rw [← hcm, cmO_s, if_neg c2, if_neg c3, if_neg c4, ← hcv, nI_1]
          · obtain ⟨k, rfl⟩ : ∃ k, d = k + 1 := ⟨d - 1, by
              rcases Nat.eq_zero_or_pos d with h | h
              · subst h; exact absurd (by decide) cb
              · omega⟩
            refine lv_aload_n S.1 S.2.1 dX3_commission_93 rfl (lv_at hl 3 rfl) ?_
            refine lv_iload S.1 S.2.1 dX3_commission_94 (lv_at hl 1 rfl) ?_
            refine lv_iload S.1 S.2.1 dX3_commission_96 (lv_at hl 0 rfl) ?_
            refine lv_isub S.1 S.2.1 dX3_commission_98 ?_
            refine c_V S hA hW hS (kX3_search (n := n) l Z ws q Mv hF (v - (bitOf (k + 1))) hMv) ok_X3_search tm_X3_164 tn_X3_search tl_X3_search (fo_mem hF 0 (by decide)) rfl rfl ⟨Nat.le_of_ble_eq_true rfl, Nat.le_of_ble_eq_true rfl⟩ rfl hl.1 rfl (Nat.le_of_ble_eq_true rfl) dX3_commission_99 ⟨Nat.le_of_ble_eq_true rfl, Nat.le_of_ble_eq_true rfl⟩ (kk_i fun H locs hW hS => ?_)
            refine lv_iconst (v := (-1)) S.1 S.2.1 dX3_commission_102 (by decide) ?_
            refine lv_icmp_eq (tgt := 113) S.1 S.2.1 dX3_commission_103 (by decide) (fun c5 => ?_) (fun c5 => ?_)
            · skip
              refine lv_iload S.1 S.2.1 dX3_commission_113 (lv_at hl 0 rfl) ?_
              refine lv_iconst (v := 2) S.1 S.2.1 dX3_commission_115 (by decide) ?_
              refine lv_idiv S.1 S.2.1 dX3_commission_116 (by decide) ?_
              rw [bit_half k (by omega)]
              refine lv_istore (lv' := [(5, .int (bitOf k)), (4, .int v), (3, .int (nI t)), (0, .ref (q 0)), (1, .int a1)]) S.1 S.2.1 dX3_commission_117 hl (by decide) rfl (fun ls hl => ?_)
              refine lv_goto (tgt := 88) S.1 S.2.1 dX3_commission_119 (by decide) ?_
              exact ih2 k _ _ _ (by omega) ⟨k, v, (fX3_search Mv (v - (bitOf (k + 1)))).2, rfl, by omega, mi_search hMv, by rw [← hcv, cmIn_s, if_pos c5], hW, hS, lv_sub hl [0, 1, 2, 3, 4] rfl⟩
            · skip
              refine lv_iload S.1 S.2.1 dX3_commission_106 (lv_at hl 1 rfl) ?_
              refine lv_iload S.1 S.2.1 dX3_commission_108 (lv_at hl 0 rfl) ?_
              refine lv_isub S.1 S.2.1 dX3_commission_110 ?_
              refine lv_istore (lv' := [(4, .int (v - (bitOf (k + 1)))), (5, .int (bitOf (k + 1))), (3, .int (nI t)), (0, .ref (q 0)), (1, .int a1)]) S.1 S.2.1 dX3_commission_111 hl (by decide) rfl (fun ls hl => ?_)
              refine lv_iload S.1 S.2.1 dX3_commission_113 (lv_at hl 1 rfl) ?_
              refine lv_iconst (v := 2) S.1 S.2.1 dX3_commission_115 (by decide) ?_
              refine lv_idiv S.1 S.2.1 dX3_commission_116 (by decide) ?_
              rw [bit_half k (by omega)]
              refine lv_istore (lv' := [(5, .int (bitOf k)), (4, .int (v - (bitOf (k + 1)))), (3, .int (nI t)), (0, .ref (q 0)), (1, .int a1)]) S.1 S.2.1 dX3_commission_117 hl (by decide) rfl (fun ls hl => ?_)
              refine lv_goto (tgt := 88) S.1 S.2.1 dX3_commission_119 (by decide) ?_
              exact ih2 k _ _ _ (by omega) ⟨k, (v - (bitOf (k + 1))), (fX3_search Mv (v - (bitOf (k + 1)))).2, rfl, by omega, mi_search hMv, by rw [← hcv, cmIn_s, if_neg c5], hW, hS, lv_sub hl [0, 1, 2, 3, 4] rfl⟩
  · skip
    refine lv_bipush (v := (-2)) S.1 S.2.1 dX3_commission_10 (by decide) ?_
    exact r_iret S hr hlk hW hS (show some (Value.int (-2)) = some (Value.int (fX3_commission M a1).1) ∧ (mw Z ws q M) = mw Z ws q (fX3_commission M a1).2 from (by rw [show (fX3_commission M a1) = ((-2), M) from (by unfold fX3_commission; rw [if_pos c1])]; exact ⟨rfl, rfl⟩)) dX3_commission_12
