theorem upG_self {T : Nat → Nat → Int32} {i : Nat} : upG T i (T i) = T := by
  funext j
  unfold upG
  by_cases c : j = i
  · rw [if_pos c, c]
  · rw [if_neg c]
set_option maxRecDepth 100000 in
set_option maxHeartbeats 4000000 in
theorem kX2_sendAddressed (l : Launch) (Z : Zt) (ws : va_W) (n cap : Nat) (q : Nat → Nat) (T : Nat → Nat → Int32) (hB : BK ws n cap q) (a1 a2 : Int32) : Ct l Z yX2_sendAddressed cX2_sendAddressed 8 (some .int) 6 128 0 0 (bw Z ws n cap q T) [.ref (q 0), .int a1, .int a2] (fun r w => r = some (.int (fX2_sendAddressed n T a1 a2).1) ∧ w = bw Z ws n cap q (fX2_sendAddressed n T a1 a2).2) := by
  refine Ct.start (by decide) (Nat.le_of_ble_eq_true rfl) ?_
  intro p e s m below meth c S hr hlk hnm hA hW hS ls hl
  replace S : CallFix p m c cX2_sendAddressed 8 s _ TB RX2 := S
  replace hl : lv_has ls 8 [(0, .ref (q 0)), (1, .int a1), (2, .int a2)] := hl
  have hn16 := hB.2.1
  refine lv_aload_n S.1 S.2.1 dX2_sendAddressed_0 rfl (lv_at hl 0 rfl) ?_
  refine lv_iload_n S.1 S.2.1 dX2_sendAddressed_1 rfl (lv_at hl 1 rfl) ?_
  refine lv_iload_n S.1 S.2.1 dX2_sendAddressed_2 rfl (lv_at hl 2 rfl) ?_
  refine c_V S hA hW hS (kX2_countFrame l Z ws n cap q T hB a1 a2) ok_X2_countFrame tm_X2_93 tn_X2_countFrame tl_X2_countFrame (fo_mem hB.1 0 (bN_0 n)) rfl rfl ⟨Nat.le_of_ble_eq_true rfl, Nat.le_of_ble_eq_true rfl⟩ rfl hl.1 rfl (Nat.le_of_ble_eq_true rfl) dX2_sendAddressed_3 ⟨Nat.le_of_ble_eq_true rfl, Nat.le_of_ble_eq_true rfl⟩ (kk_i fun H locs hW hS => ?_)
  generalize htw : (fX2_countFrame n T a1 a2).1 = tw at *
  generalize hT1 : (fX2_countFrame n T a1 a2).2 = T1 at *
  refine lv_istore_n (lv' := [(3, .int tw), (0, .ref (q 0)), (1, .int a1), (2, .int a2)]) S.1 S.2.1 dX2_sendAddressed_6 rfl hl (by decide) rfl (fun ls hl => ?_)
  refine lv_iload_n S.1 S.2.1 dX2_sendAddressed_7 rfl (lv_at hl 2 rfl) ?_
  refine lv_iconst (v := 1) S.1 S.2.1 dX2_sendAddressed_8 (by decide) ?_
  refine lv_iand S.1 S.2.1 dX2_sendAddressed_9 ?_
  refine jn (Z := Z) (tree := (if (a1 &&& 1) = 0 then 1 else 0)) 18 [] (bw Z ws n cap q T1) (fun lev H locs elev hW hS => ?_) (fun K => ?_)
  · skip
    refine lv_istore (lv' := [(4, .int lev), (3, .int tw), (0, .ref (q 0)), (1, .int a1), (2, .int a2)]) S.1 S.2.1 dX2_sendAddressed_18 hl (by decide) rfl (fun ls hl => ?_)
    refine lv_iconst (v := (-1)) S.1 S.2.1 dX2_sendAddressed_20 (by decide) ?_
    refine lv_istore (lv' := [(5, .int (-1)), (4, .int lev), (3, .int tw), (0, .ref (q 0)), (1, .int a1), (2, .int a2)]) S.1 S.2.1 dX2_sendAddressed_21 hl (by decide) rfl (fun ls hl => ?_)
    refine lv_iconst (v := 0) S.1 S.2.1 dX2_sendAddressed_23 (by decide) ?_
    refine lv_istore (lv' := [(6, .int 0), (5, .int (-1)), (4, .int lev), (3, .int tw), (0, .ref (q 0)), (1, .int a1), (2, .int a2)]) S.1 S.2.1 dX2_sendAddressed_24 hl (by decide) rfl (fun ls hl => ?_)
    refine w_loop (fun d H1 locs1 ls1 => ∃ i, i + d = n ∧ Wd Z (bw Z ws n cap q (adIt a1 a2 tw lev T1 i).2) H1 ∧ va_S (zA Z) s.heap H1 locs1 ∧ lv_has ls1 8 [(6, .int (nI i)), (5, .int (adIt a1 a2 tw lev T1 i).1), (4, .int lev), (3, .int tw), (0, .ref (q 0)), (1, .int a1), (2, .int a2)]) ?_ n ⟨0, by omega, hW, hS, hl⟩
    clear hW hS hl
    rintro d H locs ls ⟨i, hd, hW, hS, hl⟩ ih
    refine lv_iload S.1 S.2.1 dX2_sendAddressed_26 (lv_at hl 0 rfl) ?_
    refine lv_aload_n S.1 S.2.1 dX2_sendAddressed_28 rfl (lv_at hl 4 rfl) ?_
    refine b_getL S hA hB.1 hW tf_X2_10 dX2_sendAddressed_29 ?_
    refine c_V S hA hW hS (kJ_size l Z ws n cap q (adIt a1 a2 tw lev T1 i).2 hB.1) ok_Jx4a65c_size_8abf5 tm_X2_16 tn_Jx4a65c_size_8abf5 tl_Jx4a65c_size_8abf5 (fo_mem (E := bE Z n cap q (adIt a1 a2 tw lev T1 i).2) hB.1 1 (bN_1 n)) rfl rfl ⟨Nat.le_of_ble_eq_true rfl, Nat.le_of_ble_eq_true rfl⟩ rfl hl.1 rfl (Nat.le_of_ble_eq_true rfl) dX2_sendAddressed_32 ⟨Nat.le_of_ble_eq_true rfl, Nat.le_of_ble_eq_true rfl⟩ (kk_i fun H locs hW hS => ?_)
    refine lv_icmp_ge (tgt := 98) S.1 S.2.1 dX2_sendAddressed_35 (by decide) (fun cL => ?_) (fun cL => ?_)
    · have e : i = n := by
        rcases Nat.lt_or_ge i n with h | h
        · exact absurd cL (nI_ge h (by omega))
        · omega
      subst e
      refine lv_iload S.1 S.2.1 dX2_sendAddressed_98 (lv_at hl 1 rfl) ?_
      exact r_iret S hr hlk hW hS (by rw [fX2_sendAddressed_eq]; unfold sad0; rw [htw, hT1, ← elev]; exact ⟨rfl, rfl⟩) dX2_sendAddressed_100
    · have hi : i < n := by
        rcases Nat.lt_or_ge i n with h | h
        · exact h
        · exact absurd (nI_le h (by omega)) cL
      refine jx (rest := []) 92 (fun H1 locs1 ls1 => Wd Z (bw Z ws n cap q (adIt a1 a2 tw lev T1 (i + 1)).2) H1 ∧ va_S (zA Z) s.heap H1 locs1 ∧ lv_has ls1 8 [(6, .int (nI i)), (5, .int (adIt a1 a2 tw lev T1 (i + 1)).1), (4, .int lev), (3, .int tw), (0, .ref (q 0)), (1, .int a1), (2, .int a2)]) (fun H locs ls ⟨hW, hS, hl⟩ => ?_) (fun K => ?_)
      · refine lv_iinc (v := nI (i + 1)) (lv' := [(6, .int (nI (i + 1))), (5, .int (adIt a1 a2 tw lev T1 (i + 1)).1), (4, .int lev), (3, .int tw), (0, .ref (q 0)), (1, .int a1), (2, .int a2)]) S.1 S.2.1 dX2_sendAddressed_92 hl (k := 0) rfl (nI_1 i) (by decide) rfl (fun ls hl => ?_)
        refine lv_goto (tgt := 26) S.1 S.2.1 dX2_sendAddressed_95 (by decide) ?_
        exact ih (d - 1) H locs ls (by omega) ⟨i + 1, by omega, hW, hS, hl⟩
      · change ∀ (H1 : Heap) (locs1 : List Loc) (ls1 : Array Slot), Wd Z (bw Z ws n cap q (adSt a1 a2 tw lev (adIt a1 a2 tw lev T1 i) i).2) H1 ∧ va_S (zA Z) s.heap H1 locs1 ∧ lv_has ls1 8 [(6, .int (nI i)), (5, .int (adSt a1 a2 tw lev (adIt a1 a2 tw lev T1 i) i).1), (4, .int lev), (3, .int tw), (0, .ref (q 0)), (1, .int a1), (2, .int a2)] → _ at K
        generalize (adIt a1 a2 tw lev T1 i) = pp at *
        refine lv_aload_n S.1 S.2.1 dX2_sendAddressed_38 rfl (lv_at hl 4 rfl) ?_
        refine b_getL S hA hB.1 hW tf_X2_10 dX2_sendAddressed_39 ?_
        refine lv_iload S.1 S.2.1 dX2_sendAddressed_42 (lv_at hl 0 rfl) ?_
        refine c_V S hA hW hS (kJ_get l Z ws n cap q pp.2 hB.1 hB.2.2.1 (by have := hB.2.2.2; omega) hi) ok_Jx4a65c_get_915e3 tm_X2_32 tn_Jx4a65c_get_915e3 tl_Jx4a65c_get_915e3 (fo_mem (E := bE Z n cap q pp.2) hB.1 1 (bN_1 n)) rfl rfl ⟨Nat.le_of_ble_eq_true rfl, Nat.le_of_ble_eq_true rfl⟩ rfl hl.1 rfl (Nat.le_of_ble_eq_true rfl) dX2_sendAddressed_44 ⟨Nat.le_of_ble_eq_true rfl, Nat.le_of_ble_eq_true rfl⟩ (kk_r fun H locs hW hS => ?_)
        refine b_cast S hA hB.1 hi hW td_X2_20 dX2_sendAddressed_47 ?_
        refine lv_astore (lv' := [(7, .ref (qg q i 0)), (6, .int (nI i)), (5, .int pp.1), (4, .int lev), (3, .int tw), (0, .ref (q 0)), (1, .int a1), (2, .int a2)]) S.1 S.2.1 dX2_sendAddressed_50 hl (by decide) rfl (fun ls hl => ?_)
        refine lv_aload S.1 S.2.1 dX2_sendAddressed_52 (lv_at hl 0 rfl) ?_
        refine lv_iload_n S.1 S.2.1 dX2_sendAddressed_54 rfl (lv_at hl 6 rfl) ?_
        refine c_VN S hA (bw_in hB.1 hi hW) hS (kX0_isMeantBy l Z (bw Z ws n cap q pp.2) (qg q i) (pp.2 i) (FI_fo (FI_g hB.1 hi)) a1) ok_X0_isMeantBy nm_X2_104 tn_X0_isMeantBy tl_X0_isMeantBy (fo_mem (FI_fo (FI_g hB.1 hi)) 0 (by decide)) rfl rfl ⟨Nat.le_of_ble_eq_true rfl, Nat.le_of_ble_eq_true rfl⟩ rfl hl.1 rfl (Nat.le_of_ble_eq_true rfl) dX2_sendAddressed_55 ⟨Nat.le_of_ble_eq_true rfl, Nat.le_of_ble_eq_true rfl⟩ (kk_i fun H locs hW hS => ?_)
        rw [bw_out hB.1 hi hB.2.1, show upG pp.2 i (pp.2 i) = pp.2 from upG_self] at hW
        refine lv_if_ne (tgt := 64) S.1 S.2.1 dX2_sendAddressed_58 (by decide) (fun cm => ?_) (fun cm => ?_)
        · refine lv_iload S.1 S.2.1 dX2_sendAddressed_64 (lv_at hl 3 rfl) ?_
          refine lv_if_eq (tgt := 78) S.1 S.2.1 dX2_sendAddressed_66 (by decide) (fun cl => ?_) (fun cl => ?_)
          · refine lv_iload S.1 S.2.1 dX2_sendAddressed_78 (lv_at hl 2 rfl) ?_
            refine lv_aload S.1 S.2.1 dX2_sendAddressed_80 (lv_at hl 0 rfl) ?_
            refine lv_iload_n S.1 S.2.1 dX2_sendAddressed_82 rfl (lv_at hl 7 rfl) ?_
            refine lv_iload_n S.1 S.2.1 dX2_sendAddressed_83 rfl (lv_at hl 4 rfl) ?_
            refine c_VN S hA (bw_in hB.1 hi hW) hS (kX0_hearCommand l Z (bw Z ws n cap q pp.2) (qg q i) (pp.2 i) (FI_fo (FI_g hB.1 hi)) a2 tw) ok_X0_hearCommand nm_X2_110 tn_X0_hearCommand tl_X0_hearCommand (fo_mem (FI_fo (FI_g hB.1 hi)) 0 (by decide)) rfl rfl ⟨Nat.le_of_ble_eq_true rfl, Nat.le_of_ble_eq_true rfl⟩ rfl hl.1 rfl (Nat.le_of_ble_eq_true rfl) dX2_sendAddressed_84 ⟨Nat.le_of_ble_eq_true rfl, Nat.le_of_ble_eq_true rfl⟩ (kk_i fun H locs hW hS => ?_)
            rw [bw_out hB.1 hi hB.2.1] at hW
            refine c_S S hA hW hS (kX2_joined l Z _ pp.1 (fX0_hearCommand (pp.2 i) a2 tw).1) ok_X2_joined tm_X2_101 ts_X2_joined ⟨Nat.le_of_ble_eq_true rfl, Nat.le_of_ble_eq_true rfl⟩ rfl hl.1 rfl (Nat.le_of_ble_eq_true rfl) dX2_sendAddressed_87 ⟨Nat.le_of_ble_eq_true rfl, Nat.le_of_ble_eq_true rfl⟩ (kk_i fun H locs hW hS => ?_)
            refine lv_istore (lv' := [(5, .int (fX2_joined pp.1 (fX0_hearCommand (pp.2 i) a2 tw).1)), (7, .ref (qg q i 0)), (6, .int (nI i)), (4, .int lev), (3, .int tw), (0, .ref (q 0)), (1, .int a1), (2, .int a2)]) S.1 S.2.1 dX2_sendAddressed_90 hl (by decide) rfl (fun ls hl => ?_)
            have E : adSt a1 a2 tw lev pp i = (fX2_joined pp.1 (fX0_hearCommand (pp.2 i) a2 tw).1, upG pp.2 i (fX0_hearCommand (pp.2 i) a2 tw).2) := by unfold adSt; rw [if_neg cm, if_pos cl]
            exact K _ _ _ ⟨by rw [E]; exact hW, hS, by rw [E]; exact lv_sub hl [2, 0, 3, 4, 5, 6, 7] rfl⟩
          · refine lv_aload S.1 S.2.1 dX2_sendAddressed_69 (lv_at hl 0 rfl) ?_
            refine lv_iload_n S.1 S.2.1 dX2_sendAddressed_71 rfl (lv_at hl 7 rfl) ?_
            refine c_VN S hA (bw_in hB.1 hi hW) hS (kX0_hearLevel l Z (bw Z ws n cap q pp.2) (qg q i) (pp.2 i) (FI_fo (FI_g hB.1 hi)) a2) ok_X0_hearLevel nm_X2_107 tn_X0_hearLevel tl_X0_hearLevel (fo_mem (FI_fo (FI_g hB.1 hi)) 0 (by decide)) rfl rfl ⟨Nat.le_of_ble_eq_true rfl, Nat.le_of_ble_eq_true rfl⟩ rfl hl.1 rfl (Nat.le_of_ble_eq_true rfl) dX2_sendAddressed_72 ⟨Nat.le_of_ble_eq_true rfl, Nat.le_of_ble_eq_true rfl⟩ (kk_v fun H locs hW hS => ?_)
            rw [bw_out hB.1 hi hB.2.1] at hW
            refine lv_goto (tgt := 92) S.1 S.2.1 dX2_sendAddressed_75 (by decide) ?_
            have E : adSt a1 a2 tw lev pp i = (pp.1, upG pp.2 i (fX0_hearLevel (pp.2 i) a2)) := by unfold adSt; rw [if_neg cm, if_neg cl]
            exact K _ _ _ ⟨by rw [E]; exact hW, hS, by rw [E]; exact lv_sub hl [1, 2, 3, 4, 5, 6, 7] rfl⟩
        · refine lv_goto (tgt := 92) S.1 S.2.1 dX2_sendAddressed_61 (by decide) ?_
          have E : adSt a1 a2 tw lev pp i = pp := by unfold adSt; rw [if_pos cm]
          exact K _ _ _ ⟨by rw [E]; exact hW, hS, by rw [E]; exact lv_sub hl [1, 2, 3, 4, 5, 6, 7] rfl⟩
  · refine lv_if_ne (tgt := 17) S.1 S.2.1 dX2_sendAddressed_10 (by decide) (fun cz => ?_) (fun cz => ?_)
    · refine lv_iconst (v := 0) S.1 S.2.1 dX2_sendAddressed_17 (by decide) ?_
      exact K _ _ _ (by rw [if_neg cz]) hW hS
    · refine lv_iconst (v := 1) S.1 S.2.1 dX2_sendAddressed_13 (by decide) ?_
      refine lv_goto (tgt := 18) S.1 S.2.1 dX2_sendAddressed_14 (by decide) ?_
      exact K _ _ _ (by rw [if_pos cz]) hW hS
set_option maxRecDepth 100000 in
set_option maxHeartbeats 4000000 in
theorem kX2_tick (l : Launch) (Z : Zt) (ws : va_W) (n cap : Nat) (q : Nat → Nat) (T : Nat → Nat → Int32) (hB : BK ws n cap q) (a1 : Int32) : Ct l Z yX2_tick cX2_tick 5 (some .int) 3 64 0 0 (bw Z ws n cap q T) [.ref (q 0), .int a1] (fun r w => r = some (.int (fX2_tick n T a1).1) ∧ w = bw Z ws n cap q (fX2_tick n T a1).2) := by
  refine Ct.start (by decide) (Nat.le_of_ble_eq_true rfl) ?_
  intro p e s m below meth c S hr hlk hnm hA hW hS ls hl
  replace S : CallFix p m c cX2_tick 5 s _ TB RX2 := S
  replace hl : lv_has ls 5 [(0, .ref (q 0)), (1, .int a1)] := hl
  have hn16 := hB.2.1
  have bad : ∀ (H : Heap) (locs : List Loc) (ls : Array Slot), fX2_tick n T a1 = ((-2), T) → Wd Z (bw Z ws n cap q T) H → va_S (zA Z) s.heap H locs → W p l e { frames := 3, cells := 0, slots := 0, locals := 64 } s m ([.ref (q 0), .int a1] : List Value).toArray below meth c H locs 0 0 (MQ below (Cq Z (fun r w => r = some (.int (fX2_tick n T a1).1) ∧ w = bw Z ws n cap q (fX2_tick n T a1).2)) ([.ref (q 0), .int a1] : List Value).toArray s 0 0 (zA Z)) (F0 m 12 ls []) := by
    intro H locs ls hE hW hS
    refine lv_bipush (v := (-2)) S.1 S.2.1 dX2_tick_12 (by decide) ?_
    exact r_iret S hr hlk hW hS (by rw [hE]; exact ⟨rfl, rfl⟩) dX2_tick_14
  refine lv_iload_n S.1 S.2.1 dX2_tick_0 rfl (lv_at hl 1 rfl) ?_
  refine lv_iconst (v := 1) S.1 S.2.1 dX2_tick_1 (by decide) ?_
  refine lv_icmp_lt (tgt := 12) S.1 S.2.1 dX2_tick_2 (by decide) (fun cA => bad _ _ _ (by unfold fX2_tick; rw [if_pos cA]) hW hS) (fun cA => ?_)
  refine lv_iload_n S.1 S.2.1 dX2_tick_5 rfl (lv_at hl 1 rfl) ?_
  refine lv_sipush (v := 2000) S.1 S.2.1 dX2_tick_6 (by decide) ?_
  refine lv_icmp_le (tgt := 15) S.1 S.2.1 dX2_tick_9 (by decide) (fun cB => ?_) (fun cB => bad _ _ _ (by unfold fX2_tick; rw [if_neg cA, if_neg cB]) hW hS)
  refine lv_aload_n S.1 S.2.1 dX2_tick_15 rfl (lv_at hl 0 rfl) ?_
  refine lv_iconst (v := 0) S.1 S.2.1 dX2_tick_16 (by decide) ?_
  refine b_put (x := 0) S hA hB.1 hB.2.1 hW hS 5 (by decide) (by decide) tf_X2_50 rfl rfl rfl dX2_tick_17 (fun H locs hW hS => ?_)
  generalize hT1 : up2 T 100 5 0 = T1 at *
  refine lv_iconst (v := 0) S.1 S.2.1 dX2_tick_20 (by decide) ?_
  refine lv_istore_n (lv' := [(2, .int 0), (0, .ref (q 0)), (1, .int a1)]) S.1 S.2.1 dX2_tick_21 rfl hl (by decide) rfl (fun ls hl => ?_)
  refine lv_iconst (v := 0) S.1 S.2.1 dX2_tick_22 (by decide) ?_
  refine lv_istore_n (lv' := [(3, .int 0), (2, .int 0), (0, .ref (q 0)), (1, .int a1)]) S.1 S.2.1 dX2_tick_23 rfl hl (by decide) rfl (fun ls hl => ?_)
  refine w_loop (fun d H1 locs1 ls1 => ∃ i, i + d = n ∧ Wd Z (bw Z ws n cap q (tkIt a1 T1 i).2) H1 ∧ va_S (zA Z) s.heap H1 locs1 ∧ lv_has ls1 5 [(3, .int (nI i)), (2, .int (tkIt a1 T1 i).1), (0, .ref (q 0)), (1, .int a1)]) ?_ n ⟨0, by omega, hW, hS, hl⟩
  clear hW hS hl
  rintro d H locs ls ⟨i, hd, hW, hS, hl⟩ ih
  refine lv_iload_n S.1 S.2.1 dX2_tick_24 rfl (lv_at hl 0 rfl) ?_
  refine lv_aload_n S.1 S.2.1 dX2_tick_25 rfl (lv_at hl 2 rfl) ?_
  refine b_getL S hA hB.1 hW tf_X2_10 dX2_tick_26 ?_
  refine c_V S hA hW hS (kJ_size l Z ws n cap q (tkIt a1 T1 i).2 hB.1) ok_Jx4a65c_size_8abf5 tm_X2_16 tn_Jx4a65c_size_8abf5 tl_Jx4a65c_size_8abf5 (fo_mem (E := bE Z n cap q (tkIt a1 T1 i).2) hB.1 1 (bN_1 n)) rfl rfl ⟨Nat.le_of_ble_eq_true rfl, Nat.le_of_ble_eq_true rfl⟩ rfl hl.1 rfl (Nat.le_of_ble_eq_true rfl) dX2_tick_29 ⟨Nat.le_of_ble_eq_true rfl, Nat.le_of_ble_eq_true rfl⟩ (kk_i fun H locs hW hS => ?_)
  refine lv_icmp_ge (tgt := 74) S.1 S.2.1 dX2_tick_32 (by decide) (fun cL => ?_) (fun cL => ?_)
  · have e : i = n := by
      rcases Nat.lt_or_ge i n with h | h
      · exact absurd cL (nI_ge h (by omega))
      · omega
    subst e
    refine lv_iload_n S.1 S.2.1 dX2_tick_74 rfl (lv_at hl 1 rfl) ?_
    exact r_iret S hr hlk hW hS (by unfold fX2_tick; rw [if_neg cA, if_pos cB, hT1]; exact ⟨rfl, rfl⟩) dX2_tick_75
  · have hi : i < n := by
      rcases Nat.lt_or_ge i n with h | h
      · exact h
      · exact absurd (nI_le h (by omega)) cL
    refine lv_aload_n S.1 S.2.1 dX2_tick_35 rfl (lv_at hl 2 rfl) ?_
    refine b_getL S hA hB.1 hW tf_X2_10 dX2_tick_36 ?_
    refine lv_iload_n S.1 S.2.1 dX2_tick_39 rfl (lv_at hl 0 rfl) ?_
    refine c_V S hA hW hS (kJ_get l Z ws n cap q (tkIt a1 T1 i).2 hB.1 hB.2.2.1 (by have := hB.2.2.2; omega) hi) ok_Jx4a65c_get_915e3 tm_X2_32 tn_Jx4a65c_get_915e3 tl_Jx4a65c_get_915e3 (fo_mem (E := bE Z n cap q (tkIt a1 T1 i).2) hB.1 1 (bN_1 n)) rfl rfl ⟨Nat.le_of_ble_eq_true rfl, Nat.le_of_ble_eq_true rfl⟩ rfl hl.1 rfl (Nat.le_of_ble_eq_true rfl) dX2_tick_40 ⟨Nat.le_of_ble_eq_true rfl, Nat.le_of_ble_eq_true rfl⟩ (kk_r fun H locs hW hS => ?_)
    refine b_cast S hA hB.1 hi hW td_X2_20 dX2_tick_43 ?_
    refine g_getRN S hA (FI_fo (FI_g hB.1 hi)) (bw_in hB.1 hi hW) 0 (by decide) nf_X2_54 dX2_tick_46 ?_
    refine lv_astore (lv' := [(4, .ref (qg q i 1)), (3, .int (nI i)), (2, .int (tkIt a1 T1 i).1), (0, .ref (q 0)), (1, .int a1)]) S.1 S.2.1 dX2_tick_49 hl (by decide) rfl (fun ls hl => ?_)
    refine lv_aload S.1 S.2.1 dX2_tick_51 (lv_at hl 0 rfl) ?_
    refine lv_iload_n S.1 S.2.1 dX2_tick_53 rfl (lv_at hl 4 rfl) ?_
    refine c_VN S hA (bw_in hB.1 hi hW) hS (kX1_passTicks l Z (bw Z ws n cap q (tkIt a1 T1 i).2) (qg q i) ((tkIt a1 T1 i).2 i) (FI_fo (FI_g hB.1 hi)) a1) ok_X1_passTicks nm_X2_58 tn_X1_passTicks tl_X1_passTicks (fo_mem (FI_fo (FI_g hB.1 hi)) 1 (by decide)) rfl rfl ⟨Nat.le_of_ble_eq_true rfl, Nat.le_of_ble_eq_true rfl⟩ rfl hl.1 rfl (Nat.le_of_ble_eq_true rfl) dX2_tick_54 ⟨Nat.le_of_ble_eq_true rfl, Nat.le_of_ble_eq_true rfl⟩ (kk_v fun H locs hW hS => ?_)
    rw [bw_out hB.1 hi hB.2.1] at hW
    refine lv_aload S.1 S.2.1 dX2_tick_57 (lv_at hl 0 rfl) ?_
    refine c_VN S hA (bw_in hB.1 hi hW) hS (kX1_isFading l Z (bw Z ws n cap q (upG (tkIt a1 T1 i).2 i (fX1_passTicks ((tkIt a1 T1 i).2 i) a1))) (qg q i) ((upG (tkIt a1 T1 i).2 i (fX1_passTicks ((tkIt a1 T1 i).2 i) a1)) i) (FI_fo (FI_g hB.1 hi))) ok_X1_isFading nm_X2_64 tn_X1_isFading tl_X1_isFading (fo_mem (FI_fo (FI_g hB.1 hi)) 1 (by decide)) rfl rfl ⟨Nat.le_of_ble_eq_true rfl, Nat.le_of_ble_eq_true rfl⟩ rfl hl.1 rfl (Nat.le_of_ble_eq_true rfl) dX2_tick_59 ⟨Nat.le_of_ble_eq_true rfl, Nat.le_of_ble_eq_true rfl⟩ (kk_i fun H locs hW hS => ?_)
    rw [bw_out hB.1 hi hB.2.1, upG_self] at hW
    rw [upG_at]
    refine lv_if_eq (tgt := 68) S.1 S.2.1 dX2_tick_62 (by decide) (fun cf => ?_) (fun cf => ?_)
    · refine lv_iinc (v := nI (i + 1)) (lv' := [(3, .int (nI (i + 1))), (4, .ref (qg q i 1)), (2, .int (tkIt a1 T1 i).1), (0, .ref (q 0)), (1, .int a1)]) S.1 S.2.1 dX2_tick_68 hl (k := 1) rfl (nI_1 i) (by decide) rfl (fun ls hl => ?_)
      refine lv_goto (tgt := 24) S.1 S.2.1 dX2_tick_71 (by decide) ?_
      exact ih (d - 1) H locs ls (by omega) ⟨i + 1, by omega, hW, hS, by show lv_has ls 5 [(3, .int (nI (i + 1))), (2, .int (tkSt a1 (tkIt a1 T1 i) i).1), (0, .ref (q 0)), (1, .int a1)]; unfold tkSt; rw [if_pos cf]; exact lv_sub hl [0, 2, 3, 4] rfl⟩
    · refine lv_iinc (v := (tkIt a1 T1 i).1 + 1) (lv' := [(2, .int ((tkIt a1 T1 i).1 + 1)), (4, .ref (qg q i 1)), (3, .int (nI i)), (0, .ref (q 0)), (1, .int a1)]) S.1 S.2.1 dX2_tick_65 hl (k := 2) rfl rfl (by decide) rfl (fun ls hl => ?_)
      refine lv_iinc (v := nI (i + 1)) (lv' := [(3, .int (nI (i + 1))), (2, .int ((tkIt a1 T1 i).1 + 1)), (4, .ref (qg q i 1)), (0, .ref (q 0)), (1, .int a1)]) S.1 S.2.1 dX2_tick_68 hl (k := 2) rfl (nI_1 i) (by decide) rfl (fun ls hl => ?_)
      refine lv_goto (tgt := 24) S.1 S.2.1 dX2_tick_71 (by decide) ?_
      exact ih (d - 1) H locs ls (by omega) ⟨i + 1, by omega, hW, hS, by show lv_has ls 5 [(3, .int (nI (i + 1))), (2, .int (tkSt a1 (tkIt a1 T1 i) i).1), (0, .ref (q 0)), (1, .int a1)]; unfold tkSt; rw [if_neg cf]; exact lv_sub hl [0, 1, 3, 4] rfl⟩
