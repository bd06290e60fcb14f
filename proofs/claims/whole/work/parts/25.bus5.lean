theorem isGear_of {n : Nat} {T : Nat → Nat → Int32} {a : Int32} (hn : n ≤ 16) (h : ¬ fX2_isGear n T a = 0) : ∃ i, i < n ∧ a = nI i := by
  unfold fX2_isGear at h
  by_cases c1 : a < 0
  · rw [if_pos c1] at h
    exact absurd rfl h
  · rw [if_neg c1] at h
    obtain ⟨g, hg, rfl⟩ := nI_of c1
    by_cases c2 : nI n ≤ nI g
    · rw [if_pos c2] at h
      exact absurd rfl h
    · refine ⟨g, ?_, rfl⟩
      rcases Nat.lt_or_ge g n with z | z
      · exact z
      · exact absurd (nI_le z hg) c2
def fX2_give (n : Nat) (T : Nat → Nat → Int32) (a b : Int32) : Int32 × (Nat → Nat → Int32) := if (fX2_isGear n T a) = 0 then (0, T) else (if b < 0 then (0, T) else (if b ≤ 16777215 then (1, upG T a.toNatClampNeg (upd (T a.toNatClampNeg) 14 b)) else (0, T)))
def fX2_told (n : Nat) (T : Nat → Nat → Int32) (a b : Int32) : Int32 := if (fX2_isGear n T a) = 0 then (-2) else fX0_valueOf (T a.toNatClampNeg) b
set_option maxRecDepth 100000 in
set_option maxHeartbeats 4000000 in
theorem kX2_give (l : Launch) (Z : Zt) (ws : va_W) (n cap : Nat) (q : Nat → Nat) (T : Nat → Nat → Int32) (hB : BK ws n cap q) (a1 a2 : Int32) : Ct l Z yX2_give cX2_give 3 (some .boolean) 3 64 0 0 (bw Z ws n cap q T) [.ref (q 0), .int a1, .int a2] (fun r w => r = some (.int (fX2_give n T a1 a2).1) ∧ w = bw Z ws n cap q (fX2_give n T a1 a2).2) := by
  refine Ct.start (by decide) (Nat.le_of_ble_eq_true rfl) ?_
  intro p e s m below meth c S hr hlk hnm hA hW hS ls hl
  replace S : CallFix p m c cX2_give 3 s _ TB RX2 := S
  replace hl : lv_has ls 3 [(0, .ref (q 0)), (1, .int a1), (2, .int a2)] := hl
  have hn16 := hB.2.1
  refine lv_aload_n S.1 S.2.1 dX2_give_0 rfl (lv_at hl 0 rfl) ?_
  refine lv_iload_n S.1 S.2.1 dX2_give_1 rfl (lv_at hl 1 rfl) ?_
  refine c_V S hA hW hS (kX2_isGear l Z ws n cap q T hB a1) ok_X2_isGear tm_X2_27 tn_X2_isGear tl_X2_isGear (fo_mem hB.1 0 (bN_0 n)) rfl rfl ⟨Nat.le_of_ble_eq_true rfl, Nat.le_of_ble_eq_true rfl⟩ rfl hl.1 rfl (Nat.le_of_ble_eq_true rfl) dX2_give_2 ⟨Nat.le_of_ble_eq_true rfl, Nat.le_of_ble_eq_true rfl⟩ (kk_i fun H locs hW hS => ?_)
  refine lv_if_eq (tgt := 18) S.1 S.2.1 dX2_give_5 (by decide) (fun c1 => ?_) (fun c1 => ?_)
  · skip
    refine lv_iconst (v := 0) S.1 S.2.1 dX2_give_18 (by decide) ?_
    exact r_zret S hr hlk hW hS rfl (by rw [show fX2_give n T a1 a2 = (0, T) from (by unfold fX2_give; rw [if_pos c1])]; exact ⟨rfl, rfl⟩) dX2_give_19
  · skip
    refine lv_iload_n S.1 S.2.1 dX2_give_8 rfl (lv_at hl 2 rfl) ?_
    refine lv_if_lt (tgt := 18) S.1 S.2.1 dX2_give_9 (by decide) (fun c2 => ?_) (fun c2 => ?_)
    · skip
      refine lv_iconst (v := 0) S.1 S.2.1 dX2_give_18 (by decide) ?_
      exact r_zret S hr hlk hW hS rfl (by rw [show fX2_give n T a1 a2 = (0, T) from (by unfold fX2_give; rw [if_neg c1, if_pos c2])]; exact ⟨rfl, rfl⟩) dX2_give_19
    · skip
      refine lv_iload_n S.1 S.2.1 dX2_give_12 rfl (lv_at hl 2 rfl) ?_
      refine r_ldc S tk_X2_31 dX2_give_13 ?_
      refine lv_icmp_le (tgt := 20) S.1 S.2.1 dX2_give_15 (by decide) (fun c3 => ?_) (fun c3 => ?_)
      · skip
        obtain ⟨i, hi, rfl⟩ := isGear_of hB.2.1 c1
        have hi31 : i < 2 ^ 31 := by omega
        refine lv_aload_n S.1 S.2.1 dX2_give_20 rfl (lv_at hl 0 rfl) ?_
        refine b_getL S hA hB.1 hW tf_X2_10 dX2_give_21 ?_
        refine lv_iload_n S.1 S.2.1 dX2_give_24 rfl (lv_at hl 1 rfl) ?_
        refine c_V S hA hW hS (kJ_get l Z ws n cap q T hB.1 hB.2.2.1 (by have := hB.2.2.2; omega) hi) ok_Jx4a65c_get_915e3 tm_X2_32 tn_Jx4a65c_get_915e3 tl_Jx4a65c_get_915e3 (fo_mem (E := bE Z n cap q T) hB.1 1 (bN_1 n)) rfl rfl ⟨Nat.le_of_ble_eq_true rfl, Nat.le_of_ble_eq_true rfl⟩ rfl hl.1 rfl (Nat.le_of_ble_eq_true rfl) dX2_give_25 ⟨Nat.le_of_ble_eq_true rfl, Nat.le_of_ble_eq_true rfl⟩ (kk_r fun H locs hW hS => ?_)
        refine b_cast S hA hB.1 hi hW td_X2_20 dX2_give_28 ?_
        refine lv_iload_n S.1 S.2.1 dX2_give_31 rfl (lv_at hl 2 rfl) ?_
        refine g_putGN (x := a2) S hA (FI_fo (FI_g hB.1 hi)) (bw_in hB.1 hi hW) hS 7 (by decide) (by decide) nf_X2_36 rfl rfl rfl dX2_give_32 (fun H locs hW hS => ?_)
        rw [bw_out hB.1 hi hB.2.1] at hW
        refine lv_iconst (v := 1) S.1 S.2.1 dX2_give_35 (by decide) ?_
        exact r_zret S hr hlk hW hS rfl (by rw [show fX2_give n T (nI i) a2 = (1, upG T i (upd (T i) (7 + 7) a2)) from (by unfold fX2_give; rw [if_neg c1, if_neg c2, if_pos c3, nI_clamp hi31])]; exact ⟨rfl, rfl⟩) dX2_give_36
      · skip
        refine lv_iconst (v := 0) S.1 S.2.1 dX2_give_18 (by decide) ?_
        exact r_zret S hr hlk hW hS rfl (by rw [show fX2_give n T a1 a2 = (0, T) from (by unfold fX2_give; rw [if_neg c1, if_neg c2, if_neg c3])]; exact ⟨rfl, rfl⟩) dX2_give_19
set_option maxRecDepth 100000 in
set_option maxHeartbeats 4000000 in
theorem kX2_told (l : Launch) (Z : Zt) (ws : va_W) (n cap : Nat) (q : Nat → Nat) (T : Nat → Nat → Int32) (hB : BK ws n cap q) (a1 a2 : Int32) : Ct l Z yX2_told cX2_told 3 (some .int) 3 64 0 0 (bw Z ws n cap q T) [.ref (q 0), .int a1, .int a2] (fun r w => r = some (.int (fX2_told n T a1 a2)) ∧ w = bw Z ws n cap q T) := by
  refine Ct.start (by decide) (Nat.le_of_ble_eq_true rfl) ?_
  intro p e s m below meth c S hr hlk hnm hA hW hS ls hl
  replace S : CallFix p m c cX2_told 3 s _ TB RX2 := S
  replace hl : lv_has ls 3 [(0, .ref (q 0)), (1, .int a1), (2, .int a2)] := hl
  have hn16 := hB.2.1
  refine lv_aload_n S.1 S.2.1 dX2_told_0 rfl (lv_at hl 0 rfl) ?_
  refine lv_iload_n S.1 S.2.1 dX2_told_1 rfl (lv_at hl 1 rfl) ?_
  refine c_V S hA hW hS (kX2_isGear l Z ws n cap q T hB a1) ok_X2_isGear tm_X2_27 tn_X2_isGear tl_X2_isGear (fo_mem hB.1 0 (bN_0 n)) rfl rfl ⟨Nat.le_of_ble_eq_true rfl, Nat.le_of_ble_eq_true rfl⟩ rfl hl.1 rfl (Nat.le_of_ble_eq_true rfl) dX2_told_2 ⟨Nat.le_of_ble_eq_true rfl, Nat.le_of_ble_eq_true rfl⟩ (kk_i fun H locs hW hS => ?_)
  refine lv_if_eq (tgt := 26) S.1 S.2.1 dX2_told_5 (by decide) (fun c1 => ?_) (fun c1 => ?_)
  · skip
    refine lv_bipush (v := (-2)) S.1 S.2.1 dX2_told_26 (by decide) ?_
    exact r_iret S hr hlk hW hS ⟨congrArg (fun z => some (Value.int z)) (show (-2) = (fX2_told n T a1 a2) from Eq.symm (by unfold fX2_told; rw [if_pos c1])), rfl⟩ dX2_told_28
  · skip
    obtain ⟨i, hi, rfl⟩ := isGear_of hB.2.1 c1
    have hi31 : i < 2 ^ 31 := by omega
    refine lv_aload_n S.1 S.2.1 dX2_told_8 rfl (lv_at hl 0 rfl) ?_
    refine b_getL S hA hB.1 hW tf_X2_10 dX2_told_9 ?_
    refine lv_iload_n S.1 S.2.1 dX2_told_12 rfl (lv_at hl 1 rfl) ?_
    refine c_V S hA hW hS (kJ_get l Z ws n cap q T hB.1 hB.2.2.1 (by have := hB.2.2.2; omega) hi) ok_Jx4a65c_get_915e3 tm_X2_32 tn_Jx4a65c_get_915e3 tl_Jx4a65c_get_915e3 (fo_mem (E := bE Z n cap q T) hB.1 1 (bN_1 n)) rfl rfl ⟨Nat.le_of_ble_eq_true rfl, Nat.le_of_ble_eq_true rfl⟩ rfl hl.1 rfl (Nat.le_of_ble_eq_true rfl) dX2_told_13 ⟨Nat.le_of_ble_eq_true rfl, Nat.le_of_ble_eq_true rfl⟩ (kk_r fun H locs hW hS => ?_)
    refine b_cast S hA hB.1 hi hW td_X2_20 dX2_told_16 ?_
    refine lv_iload_n S.1 S.2.1 dX2_told_19 rfl (lv_at hl 2 rfl) ?_
    refine c_VN S hA (bw_in hB.1 hi hW) hS (kX0_valueOf l Z (bw Z ws n cap q T) (qg q i) (T i) (FI_fo (FI_g hB.1 hi)) a2) ok_X0_valueOf nm_X2_86 tn_X0_valueOf tl_X0_valueOf (fo_mem (FI_fo (FI_g hB.1 hi)) 0 (by decide)) rfl rfl ⟨Nat.le_of_ble_eq_true rfl, Nat.le_of_ble_eq_true rfl⟩ rfl hl.1 rfl (Nat.le_of_ble_eq_true rfl) dX2_told_20 ⟨Nat.le_of_ble_eq_true rfl, Nat.le_of_ble_eq_true rfl⟩ (kk_i fun H locs hW hS => ?_)
    rw [bw_out hB.1 hi hB.2.1, upG_self] at hW
    refine lv_goto (tgt := 28) S.1 S.2.1 dX2_told_23 (by decide) ?_
    exact r_iret S hr hlk hW hS ⟨congrArg (fun z => some (Value.int z)) (show fX0_valueOf (T i) a2 = fX2_told n T (nI i) a2 from Eq.symm (by unfold fX2_told; rw [if_neg c1, nI_clamp hi31])), rfl⟩ dX2_told_28
