/-! the loops over the gears -/
def spIt (a b tw : Int32) (T : Nat → Nat → Int32) : Nat → Int32 × (Nat → Nat → Int32)
  | 0 => ((-1), T)
  | i + 1 => (fX2_joined (spIt a b tw T i).1 (fX0_hearSpecial ((spIt a b tw T i).2 i) a b tw).1, upG (spIt a b tw T i).2 i (fX0_hearSpecial ((spIt a b tw T i).2 i) a b tw).2)
def ssp0 (n : Nat) (T : Nat → Nat → Int32) (a b : Int32) : Int32 × (Nat → Nat → Int32) := spIt a b (fX2_countFrame n T a b).1 (fX2_countFrame n T a b).2 n
def adSt (a b tw lev : Int32) (p : Int32 × (Nat → Nat → Int32)) (i : Nat) : Int32 × (Nat → Nat → Int32) :=
  if (fX0_isMeantBy (p.2 i) a) = 0 then p else (if lev = 0 then (fX2_joined p.1 (fX0_hearCommand (p.2 i) b tw).1, upG p.2 i (fX0_hearCommand (p.2 i) b tw).2) else (p.1, upG p.2 i (fX0_hearLevel (p.2 i) b)))
def adIt (a b tw lev : Int32) (T : Nat → Nat → Int32) : Nat → Int32 × (Nat → Nat → Int32)
  | 0 => ((-1), T)
  | i + 1 => adSt a b tw lev (adIt a b tw lev T i) i
def sad0 (n : Nat) (T : Nat → Nat → Int32) (a b : Int32) : Int32 × (Nat → Nat → Int32) := adIt a b (fX2_countFrame n T a b).1 (if (a &&& 1) = 0 then 1 else 0) (fX2_countFrame n T a b).2 n
def tkSt (k : Int32) (p : Int32 × (Nat → Nat → Int32)) (i : Nat) : Int32 × (Nat → Nat → Int32) :=
  (if (fX1_isFading (fX1_passTicks (p.2 i) k)) = 0 then p.1 else p.1 + 1, upG p.2 i (fX1_passTicks (p.2 i) k))
def tkIt (k : Int32) (T : Nat → Nat → Int32) : Nat → Int32 × (Nat → Nat → Int32)
  | 0 => (0, T)
  | i + 1 => tkSt k (tkIt k T i) i
def fX2_tick (n : Nat) (T : Nat → Nat → Int32) (k : Int32) : Int32 × (Nat → Nat → Int32) := if k < 1 then ((-2), T) else (if k ≤ 2000 then tkIt k (up2 T 100 5 0) n else ((-2), T))
def pwIt (T : Nat → Nat → Int32) : Nat → (Nat → Nat → Int32)
  | 0 => T
  | i + 1 => upG (pwIt T i) i (fX0_startAgain (pwIt T i i))
def fX2_power (n : Nat) (T : Nat → Nat → Int32) : Nat → Nat → Int32 := pwIt T n
def flIt (T : Nat → Nat → Int32) : Nat → (Nat → Nat → Int32)
  | 0 => T
  | i + 1 => upG (flIt T i) i (fX0_goToUnlessUnset (flIt T i i) (flIt T i i 10))
def fX2_fail (n : Nat) (T : Nat → Nat → Int32) : Nat → Nat → Int32 := flIt T n
noncomputable def fX2_sendSpecial : Nat → (Nat → Nat → Int32) → Int32 → Int32 → Int32 × (Nat → Nat → Int32) := Classical.choose (p := fun f => f = ssp0) ⟨ssp0, rfl⟩
theorem fX2_sendSpecial_eq : fX2_sendSpecial = ssp0 := Classical.choose_spec (p := fun f => f = ssp0) ⟨ssp0, rfl⟩
noncomputable def fX2_sendAddressed : Nat → (Nat → Nat → Int32) → Int32 → Int32 → Int32 × (Nat → Nat → Int32) := Classical.choose (p := fun f => f = sad0) ⟨sad0, rfl⟩
theorem fX2_sendAddressed_eq : fX2_sendAddressed = sad0 := Classical.choose_spec (p := fun f => f = sad0) ⟨sad0, rfl⟩
set_option maxRecDepth 100000 in
set_option maxHeartbeats 4000000 in
theorem kX2_power (l : Launch) (Z : Zt) (ws : va_W) (n cap : Nat) (q : Nat → Nat) (T : Nat → Nat → Int32) (hB : BK ws n cap q) : Ct l Z yX2_power cX2_power 2 none 3 64 0 0 (bw Z ws n cap q T) [.ref (q 0)] (fun r w => r = none ∧ w = bw Z ws n cap q (fX2_power n T)) := by
  refine Ct.start (by decide) (Nat.le_of_ble_eq_true rfl) ?_
  intro p e s m below meth c S hr hlk hnm hA hW hS ls hl
  replace S : CallFix p m c cX2_power 2 s _ TB RX2 := S
  replace hl : lv_has ls 2 [(0, .ref (q 0))] := hl
  have hn16 := hB.2.1
  refine lv_iconst (v := 0) S.1 S.2.1 dX2_power_0 (by decide) ?_
  refine lv_istore_n (lv' := [(1, .int 0), (0, .ref (q 0))]) S.1 S.2.1 dX2_power_1 rfl hl (by decide) rfl (fun ls hl => ?_)
  refine w_loop (fun d H1 locs1 ls1 => ∃ i, i + d = n ∧ Wd Z (bw Z ws n cap q (pwIt T i)) H1 ∧ va_S (zA Z) s.heap H1 locs1 ∧ lv_has ls1 2 [(1, .int (nI i)), (0, .ref (q 0))]) ?_ n ⟨0, by omega, hW, hS, hl⟩
  clear hW hS hl
  rintro d H locs ls ⟨i, hd, hW, hS, hl⟩ ih
  refine lv_iload_n S.1 S.2.1 dX2_power_2 rfl (lv_at hl 0 rfl) ?_
  refine lv_aload_n S.1 S.2.1 dX2_power_3 rfl (lv_at hl 1 rfl) ?_
  refine b_getL S hA hB.1 hW tf_X2_10 dX2_power_4 ?_
  refine c_V S hA hW hS (kJ_size l Z ws n cap q (pwIt T i) hB.1) ok_Jx4a65c_size_8abf5 tm_X2_16 tn_Jx4a65c_size_8abf5 tl_Jx4a65c_size_8abf5 (fo_mem (E := bE Z n cap q (pwIt T i)) hB.1 1 (bN_1 n)) rfl rfl ⟨Nat.le_of_ble_eq_true rfl, Nat.le_of_ble_eq_true rfl⟩ rfl hl.1 rfl (Nat.le_of_ble_eq_true rfl) dX2_power_7 ⟨Nat.le_of_ble_eq_true rfl, Nat.le_of_ble_eq_true rfl⟩ (kk_i fun H locs hW hS => ?_)
  refine lv_icmp_ge (tgt := 33) S.1 S.2.1 dX2_power_10 (by decide) (fun cL => ?_) (fun cL => ?_)
  · have e : i = n := by
      rcases Nat.lt_or_ge i n with h | h
      · exact absurd cL (nI_ge h (by omega))
      · omega
    subst e
    exact r_vret S hr hlk hW hS ⟨rfl, rfl⟩ dX2_power_33
  · have hi : i < n := by
      rcases Nat.lt_or_ge i n with h | h
      · exact h
      · exact absurd (nI_le h (by omega)) cL
    refine lv_aload_n S.1 S.2.1 dX2_power_13 rfl (lv_at hl 1 rfl) ?_
    refine b_getL S hA hB.1 hW tf_X2_10 dX2_power_14 ?_
    refine lv_iload_n S.1 S.2.1 dX2_power_17 rfl (lv_at hl 0 rfl) ?_
    refine c_V S hA hW hS (kJ_get l Z ws n cap q (pwIt T i) hB.1 hB.2.2.1 (by have := hB.2.2.2; omega) hi) ok_Jx4a65c_get_915e3 tm_X2_32 tn_Jx4a65c_get_915e3 tl_Jx4a65c_get_915e3 (fo_mem (E := bE Z n cap q (pwIt T i)) hB.1 1 (bN_1 n)) rfl rfl ⟨Nat.le_of_ble_eq_true rfl, Nat.le_of_ble_eq_true rfl⟩ rfl hl.1 rfl (Nat.le_of_ble_eq_true rfl) dX2_power_18 ⟨Nat.le_of_ble_eq_true rfl, Nat.le_of_ble_eq_true rfl⟩ (kk_r fun H locs hW hS => ?_)
    refine b_cast S hA hB.1 hi hW td_X2_20 dX2_power_21 ?_
    refine c_VN S hA (bw_in hB.1 hi hW) hS (kX0_startAgain l Z (bw Z ws n cap q (pwIt T i)) (qg q i) ((pwIt T i) i) (FI_fo (FI_g hB.1 hi)) ) ok_X0_startAgain nm_X2_68 tn_X0_startAgain tl_X0_startAgain (fo_mem (FI_fo (FI_g hB.1 hi)) 0 (by decide)) rfl rfl ⟨Nat.le_of_ble_eq_true rfl, Nat.le_of_ble_eq_true rfl⟩ rfl hl.1 rfl (Nat.le_of_ble_eq_true rfl) dX2_power_24 ⟨Nat.le_of_ble_eq_true rfl, Nat.le_of_ble_eq_true rfl⟩ (kk_v fun H locs hW hS => ?_)
    rw [bw_out hB.1 hi hB.2.1] at hW
    refine lv_iinc (v := nI (i + 1)) (lv' := [(1, .int (nI (i + 1))), (0, .ref (q 0))]) S.1 S.2.1 dX2_power_27 hl (k := 0) rfl (nI_1 i) (by decide) rfl (fun ls hl => ?_)
    refine lv_goto (tgt := 2) S.1 S.2.1 dX2_power_30 (by decide) ?_
    exact ih (d - 1) H locs ls (by omega) ⟨i + 1, by omega, hW, hS, hl⟩
set_option maxRecDepth 100000 in
set_option maxHeartbeats 4000000 in
theorem kX2_fail (l : Launch) (Z : Zt) (ws : va_W) (n cap : Nat) (q : Nat → Nat) (T : Nat → Nat → Int32) (hB : BK ws n cap q) : Ct l Z yX2_fail cX2_fail 3 none 4 85 0 0 (bw Z ws n cap q T) [.ref (q 0)] (fun r w => r = none ∧ w = bw Z ws n cap q (fX2_fail n T)) := by
  refine Ct.start (by decide) (Nat.le_of_ble_eq_true rfl) ?_
  intro p e s m below meth c S hr hlk hnm hA hW hS ls hl
  replace S : CallFix p m c cX2_fail 3 s _ TB RX2 := S
  replace hl : lv_has ls 3 [(0, .ref (q 0))] := hl
  have hn16 := hB.2.1
  refine lv_iconst (v := 0) S.1 S.2.1 dX2_fail_0 (by decide) ?_
  refine lv_istore_n (lv' := [(1, .int 0), (0, .ref (q 0))]) S.1 S.2.1 dX2_fail_1 rfl hl (by decide) rfl (fun ls hl => ?_)
  refine w_loop (fun d H1 locs1 ls1 => ∃ i, i + d = n ∧ Wd Z (bw Z ws n cap q (flIt T i)) H1 ∧ va_S (zA Z) s.heap H1 locs1 ∧ lv_has ls1 3 [(1, .int (nI i)), (0, .ref (q 0))]) ?_ n ⟨0, by omega, hW, hS, hl⟩
  clear hW hS hl
  rintro d H locs ls ⟨i, hd, hW, hS, hl⟩ ih
  refine lv_iload_n S.1 S.2.1 dX2_fail_2 rfl (lv_at hl 0 rfl) ?_
  refine lv_aload_n S.1 S.2.1 dX2_fail_3 rfl (lv_at hl 1 rfl) ?_
  refine b_getL S hA hB.1 hW tf_X2_10 dX2_fail_4 ?_
  refine c_V S hA hW hS (kJ_size l Z ws n cap q (flIt T i) hB.1) ok_Jx4a65c_size_8abf5 tm_X2_16 tn_Jx4a65c_size_8abf5 tl_Jx4a65c_size_8abf5 (fo_mem (E := bE Z n cap q (flIt T i)) hB.1 1 (bN_1 n)) rfl rfl ⟨Nat.le_of_ble_eq_true rfl, Nat.le_of_ble_eq_true rfl⟩ rfl hl.1 rfl (Nat.le_of_ble_eq_true rfl) dX2_fail_7 ⟨Nat.le_of_ble_eq_true rfl, Nat.le_of_ble_eq_true rfl⟩ (kk_i fun H locs hW hS => ?_)
  refine lv_icmp_ge (tgt := 39) S.1 S.2.1 dX2_fail_10 (by decide) (fun cL => ?_) (fun cL => ?_)
  · have e : i = n := by
      rcases Nat.lt_or_ge i n with h | h
      · exact absurd cL (nI_ge h (by omega))
      · omega
    subst e
    exact r_vret S hr hlk hW hS ⟨rfl, rfl⟩ dX2_fail_39
  · have hi : i < n := by
      rcases Nat.lt_or_ge i n with h | h
      · exact h
      · exact absurd (nI_le h (by omega)) cL
    refine lv_aload_n S.1 S.2.1 dX2_fail_13 rfl (lv_at hl 1 rfl) ?_
    refine b_getL S hA hB.1 hW tf_X2_10 dX2_fail_14 ?_
    refine lv_iload_n S.1 S.2.1 dX2_fail_17 rfl (lv_at hl 0 rfl) ?_
    refine c_V S hA hW hS (kJ_get l Z ws n cap q (flIt T i) hB.1 hB.2.2.1 (by have := hB.2.2.2; omega) hi) ok_Jx4a65c_get_915e3 tm_X2_32 tn_Jx4a65c_get_915e3 tl_Jx4a65c_get_915e3 (fo_mem (E := bE Z n cap q (flIt T i)) hB.1 1 (bN_1 n)) rfl rfl ⟨Nat.le_of_ble_eq_true rfl, Nat.le_of_ble_eq_true rfl⟩ rfl hl.1 rfl (Nat.le_of_ble_eq_true rfl) dX2_fail_18 ⟨Nat.le_of_ble_eq_true rfl, Nat.le_of_ble_eq_true rfl⟩ (kk_r fun H locs hW hS => ?_)
    refine b_cast S hA hB.1 hi hW td_X2_20 dX2_fail_21 ?_
    refine lv_astore_n (lv' := [(2, .ref (qg q i 0)), (1, .int (nI i)), (0, .ref (q 0))]) S.1 S.2.1 dX2_fail_24 rfl hl (by decide) rfl (fun ls hl => ?_)
    refine lv_aload_n S.1 S.2.1 dX2_fail_25 rfl (lv_at hl 0 rfl) ?_
    refine lv_aload_n S.1 S.2.1 dX2_fail_26 rfl (lv_at hl 0 rfl) ?_
    refine g_getGN (x := flIt T i i 10) S hA (FI_fo (FI_g hB.1 hi)) (bw_in hB.1 hi hW) 3 (by decide) (by decide) nf_X2_71 rfl dX2_fail_27 ?_
    refine c_VN S hA (bw_in hB.1 hi hW) hS (kX0_goToUnlessUnset l Z (bw Z ws n cap q (flIt T i)) (qg q i) ((flIt T i) i) (FI_fo (FI_g hB.1 hi)) (flIt T i i 10)) ok_X0_goToUnlessUnset nm_X2_74 tn_X0_goToUnlessUnset tl_X0_goToUnlessUnset (fo_mem (FI_fo (FI_g hB.1 hi)) 0 (by decide)) rfl rfl ⟨Nat.le_of_ble_eq_true rfl, Nat.le_of_ble_eq_true rfl⟩ rfl hl.1 rfl (Nat.le_of_ble_eq_true rfl) dX2_fail_30 ⟨Nat.le_of_ble_eq_true rfl, Nat.le_of_ble_eq_true rfl⟩ (kk_v fun H locs hW hS => ?_)
    rw [bw_out hB.1 hi hB.2.1] at hW
    refine lv_iinc (v := nI (i + 1)) (lv' := [(1, .int (nI (i + 1))), (2, .ref (qg q i 0)), (0, .ref (q 0))]) S.1 S.2.1 dX2_fail_33 hl (k := 1) rfl (nI_1 i) (by decide) rfl (fun ls hl => ?_)
    refine lv_goto (tgt := 2) S.1 S.2.1 dX2_fail_36 (by decide) ?_
    exact ih (d - 1) H locs ls (by omega) ⟨i + 1, by omega, hW, hS, lv_sub hl [0, 2] rfl⟩
set_option maxRecDepth 100000 in
set_option maxHeartbeats 4000000 in
theorem kX2_sendSpecial (l : Launch) (Z : Zt) (ws : va_W) (n cap : Nat) (q : Nat → Nat) (T : Nat → Nat → Int32) (hB : BK ws n cap q) (a1 a2 : Int32) : Ct l Z yX2_sendSpecial cX2_sendSpecial 6 (some .int) 3 66 0 0 (bw Z ws n cap q T) [.ref (q 0), .int a1, .int a2] (fun r w => r = some (.int (fX2_sendSpecial n T a1 a2).1) ∧ w = bw Z ws n cap q (fX2_sendSpecial n T a1 a2).2) := by
  refine Ct.start (by decide) (Nat.le_of_ble_eq_true rfl) ?_
  intro p e s m below meth c S hr hlk hnm hA hW hS ls hl
  replace S : CallFix p m c cX2_sendSpecial 6 s _ TB RX2 := S
  replace hl : lv_has ls 6 [(0, .ref (q 0)), (1, .int a1), (2, .int a2)] := hl
  have hn16 := hB.2.1
  refine lv_aload_n S.1 S.2.1 dX2_sendSpecial_0 rfl (lv_at hl 0 rfl) ?_
  refine lv_iload_n S.1 S.2.1 dX2_sendSpecial_1 rfl (lv_at hl 1 rfl) ?_
  refine lv_iload_n S.1 S.2.1 dX2_sendSpecial_2 rfl (lv_at hl 2 rfl) ?_
  refine c_V S hA hW hS (kX2_countFrame l Z ws n cap q T hB a1 a2) ok_X2_countFrame tm_X2_93 tn_X2_countFrame tl_X2_countFrame (fo_mem hB.1 0 (bN_0 n)) rfl rfl ⟨Nat.le_of_ble_eq_true rfl, Nat.le_of_ble_eq_true rfl⟩ rfl hl.1 rfl (Nat.le_of_ble_eq_true rfl) dX2_sendSpecial_3 ⟨Nat.le_of_ble_eq_true rfl, Nat.le_of_ble_eq_true rfl⟩ (kk_i fun H locs hW hS => ?_)
  generalize htw : (fX2_countFrame n T a1 a2).1 = tw at *
  generalize hT1 : (fX2_countFrame n T a1 a2).2 = T1 at *
  refine lv_istore_n (lv' := [(3, .int tw), (0, .ref (q 0)), (1, .int a1), (2, .int a2)]) S.1 S.2.1 dX2_sendSpecial_6 rfl hl (by decide) rfl (fun ls hl => ?_)
  refine lv_iconst (v := (-1)) S.1 S.2.1 dX2_sendSpecial_7 (by decide) ?_
  refine lv_istore (lv' := [(4, .int (-1)), (3, .int tw), (0, .ref (q 0)), (1, .int a1), (2, .int a2)]) S.1 S.2.1 dX2_sendSpecial_8 hl (by decide) rfl (fun ls hl => ?_)
  refine lv_iconst (v := 0) S.1 S.2.1 dX2_sendSpecial_10 (by decide) ?_
  refine lv_istore (lv' := [(5, .int 0), (4, .int (-1)), (3, .int tw), (0, .ref (q 0)), (1, .int a1), (2, .int a2)]) S.1 S.2.1 dX2_sendSpecial_11 hl (by decide) rfl (fun ls hl => ?_)
  refine w_loop (fun d H1 locs1 ls1 => ∃ i, i + d = n ∧ Wd Z (bw Z ws n cap q (spIt a1 a2 tw T1 i).2) H1 ∧ va_S (zA Z) s.heap H1 locs1 ∧ lv_has ls1 6 [(5, .int (nI i)), (4, .int (spIt a1 a2 tw T1 i).1), (3, .int tw), (0, .ref (q 0)), (1, .int a1), (2, .int a2)]) ?_ n ⟨0, by omega, hW, hS, hl⟩
  clear hW hS hl
  rintro d H locs ls ⟨i, hd, hW, hS, hl⟩ ih
  refine lv_iload S.1 S.2.1 dX2_sendSpecial_13 (lv_at hl 0 rfl) ?_
  refine lv_aload_n S.1 S.2.1 dX2_sendSpecial_15 rfl (lv_at hl 3 rfl) ?_
  refine b_getL S hA hB.1 hW tf_X2_10 dX2_sendSpecial_16 ?_
  refine c_V S hA hW hS (kJ_size l Z ws n cap q (spIt a1 a2 tw T1 i).2 hB.1) ok_Jx4a65c_size_8abf5 tm_X2_16 tn_Jx4a65c_size_8abf5 tl_Jx4a65c_size_8abf5 (fo_mem (E := bE Z n cap q (spIt a1 a2 tw T1 i).2) hB.1 1 (bN_1 n)) rfl rfl ⟨Nat.le_of_ble_eq_true rfl, Nat.le_of_ble_eq_true rfl⟩ rfl hl.1 rfl (Nat.le_of_ble_eq_true rfl) dX2_sendSpecial_19 ⟨Nat.le_of_ble_eq_true rfl, Nat.le_of_ble_eq_true rfl⟩ (kk_i fun H locs hW hS => ?_)
  refine lv_icmp_ge (tgt := 56) S.1 S.2.1 dX2_sendSpecial_22 (by decide) (fun cL => ?_) (fun cL => ?_)
  · have e : i = n := by
      rcases Nat.lt_or_ge i n with h | h
      · exact absurd cL (nI_ge h (by omega))
      · omega
    subst e
    refine lv_iload S.1 S.2.1 dX2_sendSpecial_56 (lv_at hl 1 rfl) ?_
    exact r_iret S hr hlk hW hS (by rw [fX2_sendSpecial_eq]; unfold ssp0; rw [htw, hT1]; exact ⟨rfl, rfl⟩) dX2_sendSpecial_58
  · have hi : i < n := by
      rcases Nat.lt_or_ge i n with h | h
      · exact h
      · exact absurd (nI_le h (by omega)) cL
    refine lv_iload S.1 S.2.1 dX2_sendSpecial_25 (lv_at hl 1 rfl) ?_
    refine lv_aload_n S.1 S.2.1 dX2_sendSpecial_27 rfl (lv_at hl 3 rfl) ?_
    refine b_getL S hA hB.1 hW tf_X2_10 dX2_sendSpecial_28 ?_
    refine lv_iload S.1 S.2.1 dX2_sendSpecial_31 (lv_at hl 0 rfl) ?_
    refine c_V S hA hW hS (kJ_get l Z ws n cap q (spIt a1 a2 tw T1 i).2 hB.1 hB.2.2.1 (by have := hB.2.2.2; omega) hi) ok_Jx4a65c_get_915e3 tm_X2_32 tn_Jx4a65c_get_915e3 tl_Jx4a65c_get_915e3 (fo_mem (E := bE Z n cap q (spIt a1 a2 tw T1 i).2) hB.1 1 (bN_1 n)) rfl rfl ⟨Nat.le_of_ble_eq_true rfl, Nat.le_of_ble_eq_true rfl⟩ rfl hl.1 rfl (Nat.le_of_ble_eq_true rfl) dX2_sendSpecial_33 ⟨Nat.le_of_ble_eq_true rfl, Nat.le_of_ble_eq_true rfl⟩ (kk_r fun H locs hW hS => ?_)
    refine b_cast S hA hB.1 hi hW td_X2_20 dX2_sendSpecial_36 ?_
    refine lv_iload_n S.1 S.2.1 dX2_sendSpecial_39 rfl (lv_at hl 4 rfl) ?_
    refine lv_iload_n S.1 S.2.1 dX2_sendSpecial_40 rfl (lv_at hl 5 rfl) ?_
    refine lv_iload_n S.1 S.2.1 dX2_sendSpecial_41 rfl (lv_at hl 2 rfl) ?_
    refine c_VN S hA (bw_in hB.1 hi hW) hS (kX0_hearSpecial l Z (bw Z ws n cap q (spIt a1 a2 tw T1 i).2) (qg q i) ((spIt a1 a2 tw T1 i).2 i) (FI_fo (FI_g hB.1 hi)) a1 a2 tw) ok_X0_hearSpecial nm_X2_97 tn_X0_hearSpecial tl_X0_hearSpecial (fo_mem (FI_fo (FI_g hB.1 hi)) 0 (by decide)) rfl rfl ⟨Nat.le_of_ble_eq_true rfl, Nat.le_of_ble_eq_true rfl⟩ rfl hl.1 rfl (Nat.le_of_ble_eq_true rfl) dX2_sendSpecial_42 ⟨Nat.le_of_ble_eq_true rfl, Nat.le_of_ble_eq_true rfl⟩ (kk_i fun H locs hW hS => ?_)
    rw [bw_out hB.1 hi hB.2.1] at hW
    refine c_S S hA hW hS (kX2_joined l Z _ (spIt a1 a2 tw T1 i).1 (fX0_hearSpecial ((spIt a1 a2 tw T1 i).2 i) a1 a2 tw).1) ok_X2_joined tm_X2_101 ts_X2_joined ⟨Nat.le_of_ble_eq_true rfl, Nat.le_of_ble_eq_true rfl⟩ rfl hl.1 rfl (Nat.le_of_ble_eq_true rfl) dX2_sendSpecial_45 ⟨Nat.le_of_ble_eq_true rfl, Nat.le_of_ble_eq_true rfl⟩ (kk_i fun H locs hW hS => ?_)
    refine lv_istore (lv' := [(4, .int (spIt a1 a2 tw T1 (i + 1)).1), (5, .int (nI i)), (3, .int tw), (0, .ref (q 0)), (1, .int a1), (2, .int a2)]) S.1 S.2.1 dX2_sendSpecial_48 hl (by decide) rfl (fun ls hl => ?_)
    refine lv_iinc (v := nI (i + 1)) (lv' := [(5, .int (nI (i + 1))), (4, .int (spIt a1 a2 tw T1 (i + 1)).1), (3, .int tw), (0, .ref (q 0)), (1, .int a1), (2, .int a2)]) S.1 S.2.1 dX2_sendSpecial_50 hl (k := 1) rfl (nI_1 i) (by decide) rfl (fun ls hl => ?_)
    refine lv_goto (tgt := 13) S.1 S.2.1 dX2_sendSpecial_53 (by decide) ?_
    exact ih (d - 1) H locs ls (by omega) ⟨i + 1, by omega, hW, hS, hl⟩
