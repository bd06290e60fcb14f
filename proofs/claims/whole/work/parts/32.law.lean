/-! THE CLAIM OUT OF ONE WALK OF THE LAW'S BODY. Your part is whole_start (and what it stands on); all else here is the same for every law, but numbers. -/
def R_law : String := "LampBusLaw"
def lw_P (b : Addr) (xs : List Int32) (args : Array Value) (s : State) : Prop := args = #[.ref b] ∧ s.IntsAt b xs ∧ xs.length ≤ 1536 ∧ (Jvm.Cond.and given_1 narrow_1).before args s = true
def lw_Q (_ : Array Value) (s : State) (o : Outcome) (t : State) : Prop := o = .returned (some (.int 1)) ∧ Framed s o t [] 600000 7302250
def lw_Z (below : List Frame) (a : Array Value) (s : State) : State → Prop := fun t => ∃ o, t.status = .running ∧ Ended t below o ∧ lw_Q a s o t
/-- the law's own end, with 1 on the stack, nothing written that was there before, its room as the claim has it -/
theorem lw_ret {p : Program} {l : Launch} {e : Env} {s : State} {m : MethodId} {below : List Frame} {meth : Method} {c : Code} {b : Nat} (hx : p.tables.exec = Jvm.exec) (hb : c.code = code) (hr : meth.sig.returnType = ret) (hlocks : meth.locks = false) {pc : Nat} {H : Heap} {ls : Array Slot} (hdg : decode code pc = .ok (.ireturn, 1)) : W p l e room_1 s m #[Value.ref b] below meth c H [] 600000 7302250 (lw_Z below #[Value.ref b] s) (F0 m pc ls [.int 1]) := by
  intro T hT X
  obtain ⟨fs, hret, hrun, hended, hW, hframe⟩ := X.leave (v := some (.int 1)) (hlocks := hlocks) (fun h => by rw [hr] at h; cases h)
  have hmeth' : T.vm.method? m = some meth := X.method'
  refine ⟨T.setFrames fs, ?_, .returned (some (.int 1)), hrun, hended, rfl, ⟨_, rfl⟩, hW, hframe⟩
  jvm_step X.here [X.here.top, hx, hb, hdg, hmeth', hr, ret, narrow_b1]
  (try refine ⟨rfl, ?_⟩); (try refine ⟨rfl, ?_⟩)
  first | (intro acts; rw [hret _ acts rfl rfl rfl]) | rw [hret _ _ rfl rfl rfl]
  exact Steps.refl _
/-- what holds at the law's entry: the machine, the code, the tables' words (any of lw_tbl by 'hts w (by decide +kernel)'), the script of L ints xs at the cell b, what the Statement gives of the start (any of its parts by flat_of_before) -/
def lw_At (p : Program) (s : State) (m : MethodId) (meth : Method) (c : Code) (b L : Nat) (xs : Nat → Int32) : Prop :=
  p.tables.exec = Jvm.exec ∧ c.code = code ∧ meth.sig.returnType = ret ∧ c.maxLocals = 4 ∧ s.vm.findClass R_law = some m.cls ∧ (∀ w ∈ lw_tbl, w.before #[Value.ref b] s = true) ∧ va_X b L xs s s.heap ∧ b < s.heap.size ∧ meth.locks = false ∧ (Jvm.Cond.and given_1 narrow_1).before #[Value.ref b] s = true
/-! THE LAW -/
def BC (Z : Zt) (w : va_W) (n cap : Nat) (q : Nat → Nat) (T : Nat → Nat → Int32) : Prop := ∀ k, k < bN n → (q k, bE Z n cap q T k) ∈ w
def MC (Z : Zt) (w : va_W) (r : Nat → Nat) (M : Nat → Nat → Int32) : Prop := ∀ k, k < 23 → (r k, mE Z r M k) ∈ w
def LK (n cap : Nat) (q r : Nat → Nat) : Prop := n ≤ 16 ∧ n ≤ cap ∧ cap < 1000 ∧ (n = 0 ∨ cap = 10 ∨ cap = 15 ∨ cap = 22) ∧ (∀ j k, j < bN n → k < bN n → q j = q k → j = k) ∧ (∀ j k, j < 23 → k < 23 → r j = r k → j = k) ∧ (∀ j k, j < bN n → k < 23 → q j ≠ r k)
section LAWS
variable {Z : Zt} {w : va_W} {n cap : Nat} {q r : Nat → Nat} {T T' M M' : Nat → Nat → Int32} {H : Heap}
theorem bk_of (hL : LK n cap q r) (hB : BC Z w n cap q T) : BK w n cap q := ⟨⟨fun k hk => ⟨_, hB k hk⟩, hL.2.2.2.2.1⟩, hL.1, hL.2.1, hL.2.2.1⟩
theorem fm_of (hL : LK n cap q r) (hM : MC Z w r M) : FI w 23 r := ⟨fun k hk => ⟨_, hM k hk⟩, hL.2.2.2.2.2.1⟩
theorem wb_of (hW : Wd Z w H) (hB : BC Z w n cap q T) : Wd Z (bw Z w n cap q T) H := by
  rw [show bw Z w n cap q T = w from fo_self hW.2 hB]
  exact hW
theorem wm_of (hW : Wd Z w H) (hM : MC Z w r M) : Wd Z (mw Z w r M) H := by
  rw [show mw Z w r M = w from fo_self hW.2 hM]
  exact hW
theorem bc_b (hL : LK n cap q r) (hB : BC Z w n cap q T) : BC Z (bw Z w n cap q T') n cap q T' := fun k hk => fo_mem (bk_of hL hB).1 k hk
theorem mc_b (hL : LK n cap q r) (hM : MC Z w r M) : MC Z (bw Z w n cap q T') r M := fun k hk => fo_out (hM k hk) (fun j hj => hL.2.2.2.2.2.2 j k hj hk)
theorem mc_m (hL : LK n cap q r) (hM : MC Z w r M) : MC Z (mw Z w r M') r M' := fun k hk => fo_mem (fm_of hL hM) k hk
theorem bc_m (hL : LK n cap q r) (hB : BC Z w n cap q T) : BC Z (mw Z w r M') n cap q T := fun k hk => fo_out (hB k hk) (fun j hj z => hL.2.2.2.2.2.2 k j hk hj z.symm)
theorem nI_p2 (a : Nat) : nI a + 2 = nI (a + 2) := nI_add a 2
theorem nI_p3 (a : Nat) : nI a + 3 = nI (a + 3) := nI_add a 3
end LAWS
set_option maxRecDepth 100000 in
set_option maxHeartbeats 8000000 in
theorem law_loop {p : Program} {l : Launch} {e : Env} {s : State} {m : MethodId} {below : List Frame} {meth : Method} {c : Code} {Z : Zt} {b L : Nat} {xs : Nat → Int32} (hL15 : L ≤ 1536) (C0 : lw_At p s m meth c b L xs) (hA : Amb Z s) (hZN : zN Z = s.heap.size) (r : Nat → Nat) :
    ∀ (d i : Nat), L ≤ 3 * (i + d) + 2 → i ≤ 512 → ∀ (n cap : Nat) (q : Nat → Nat) (T M : Nat → Nat → Int32) (w : va_W) (H : Heap) (locs : List Loc) (ls : Array Slot), LK n cap q r → BC Z w n cap q T → MC Z w r M → Rl n T M → MInv n M → Wd Z w H → va_S (zA Z) s.heap H locs → lv_has ls 4 [(3, .int (nI (3 * i))), (0, .ref b), (1, .ref (q 0)), (2, .ref (r 0))] → W p l e room_1 s m #[Value.ref b] below meth c H locs (25 + 4 * i) (631 + 59 * i) (lw_Z below #[Value.ref b] s) (F0 m 18 ls []) := by
  obtain ⟨hx, hb, hr, hml, hown, hts, hX, hbl, hlocks, hgv⟩ := C0
  have S : CallFix p m c cL_law 4 s #[Value.ref b] TB RL := ⟨hx, hb, hml, hown, fun w h => hts w (TB_tbl w h)⟩
  have hbA : ¬ zA Z b := by
    intro z
    have z : zN Z ≤ b := z
    omega
  intro d
  induction d with
  | zero =>
    intro i hd hi512 n cap q T M w H locs ls hLK hBC hMC hRl hI hW hS hl
    refine lv_iload_n S.1 S.2.1 dL_law_18 rfl (lv_at hl 0 rfl) ?_
    refine lv_aload_n S.1 S.2.1 dL_law_19 rfl (lv_at hl 1 rfl) ?_
    refine va_slen S.1 S.2.1 hX hbl hbA hS dL_law_20 ?_
    refine lv_iconst (v := 3) S.1 S.2.1 dL_law_21 (by decide) ?_
    refine lv_isub S.1 S.2.1 dL_law_22 ?_
    refine lv_icmp_gt (tgt := 300) S.1 S.2.1 dL_law_23 (by decide) (fun c1 => ?_) (fun c1 => absurd (by rw [Int32.lt_iff_toInt_lt, nI_toInt (by omega), show Int32.ofNat L - 3 = nI L - nI 3 from rfl, pk_sub_toInt (by omega) (by omega)]; omega) c1)
    refine lv_iconst (v := 1) S.1 S.2.1 dL_law_300 (by decide) ?_
    refine va_forget (fun q hq => by rw [← hZN]; exact hS.2.2 q hq) ?_
    refine W.widen (k := 600000) (n := 7302250) (by omega) (by omega) ?_
    exact lw_ret S.1 S.2.1 hr hlocks dL_law_301
  | succ d ih =>
    intro i hd hi512 n cap q T M w H locs ls hLK hBC hMC hRl hI hW hS hl
    refine lv_iload_n S.1 S.2.1 dL_law_18 rfl (lv_at hl 0 rfl) ?_
    refine lv_aload_n S.1 S.2.1 dL_law_19 rfl (lv_at hl 1 rfl) ?_
    refine va_slen S.1 S.2.1 hX hbl hbA hS dL_law_20 ?_
    refine lv_iconst (v := 3) S.1 S.2.1 dL_law_21 (by decide) ?_
    refine lv_isub S.1 S.2.1 dL_law_22 ?_
    refine lv_icmp_gt (tgt := 300) S.1 S.2.1 dL_law_23 (by decide) (fun c1 => ?_) (fun c1 => ?_)
    · refine lv_iconst (v := 1) S.1 S.2.1 dL_law_300 (by decide) ?_
      refine va_forget (fun q hq => by rw [← hZN]; exact hS.2.2 q hq) ?_
      refine W.widen (k := 600000) (n := 7302250) (by omega) (by omega) ?_
      exact lw_ret S.1 S.2.1 hr hlocks dL_law_301
    · have h3 : 3 * i + 3 ≤ L := by
        rcases Nat.lt_or_ge L (3 * i + 3) with h | h
        · exact absurd (by rw [Int32.lt_iff_toInt_lt, nI_toInt (by omega), show Int32.ofNat L - 3 = nI L - nI 3 from rfl, pk_sub_toInt (by omega) (by omega)]; omega) c1
        · exact h
      have hi2 : i + 1 ≤ 512 := by omega
      have K : ∀ (n cap : Nat) (q : Nat → Nat) (T M : Nat → Nat → Int32) (w : va_W) (H : Heap) (locs : List Loc), LK n cap q r → BC Z w n cap q T → MC Z w r M → Rl n T M → MInv n M → Wd Z w H → va_S (zA Z) s.heap H locs → lv_has ls 4 [(3, .int (nI (3 * i))), (0, .ref b), (1, .ref (q 0)), (2, .ref (r 0))] → W p l e room_1 s m #[Value.ref b] below meth c H locs (25 + 4 * (i + 1)) (631 + 59 * (i + 1)) (lw_Z below #[Value.ref b] s) (F0 m 294 ls []) := by
        intro n cap q T M w H locs hLK hBC hMC hRl hI hW hS hl
        refine lv_iinc (v := nI (3 * (i + 1))) (lv' := [(3, .int (nI (3 * (i + 1)))), (0, .ref b), (1, .ref (q 0)), (2, .ref (r 0))]) S.1 S.2.1 dL_law_294 hl (k := 0) rfl (by rw [show 3 * (i + 1) = 3 * i + 3 by omega]; exact nI_p3 (3 * i)) (by decide) rfl (fun ls hl => ?_)
        refine lv_goto (tgt := 18) S.1 S.2.1 dL_law_297 (by decide) ?_
        exact ih (i + 1) (by omega) hi2 n cap q T M w H locs ls hLK hBC hMC hRl hI hW hS hl
      have hB := bk_of hLK hBC
      have hF := fm_of hLK hMC
      refine lv_aload_n S.1 S.2.1 dL_law_26 rfl (lv_at hl 1 rfl) ?_
      refine lv_iload_n S.1 S.2.1 dL_law_27 rfl (lv_at hl 0 rfl) ?_
      refine va_sld S.1 S.2.1 hX hbl hbA hS (vp_in_nI (by omega) (by omega)) dL_law_28 ?_
      refine lv_bipush (v := 15) S.1 S.2.1 dL_law_29 (by decide) ?_
      refine lv_iand S.1 S.2.1 dL_law_31 ?_
      refine lv_topi (fun k ek => ?_)
      by_cases c_0 : k = 0
      · refine lv_tableIn (off := 56) (tgt := 88) S.1 S.2.1 dL_law_32 (by rw [c_0]; decide) (by rw [c_0]; decide) (by rw [c_0]; rfl) (by decide) ?_
        refine lv_aload_n S.1 S.2.1 dL_law_88 rfl (lv_at hl 2 rfl) ?_
        refine c_V S hA (wb_of hW hBC) hS (kX2_gear l Z w n cap q T hB hLK.2.2.2.1) ok_X2_gear tm_L_13 tn_X2_gear tl_X2_gear (fo_mem (E := bE Z n cap q T) hB.1 0 (bN_0 n)) rfl rfl ⟨Nat.le_of_ble_eq_true rfl, Nat.le_of_ble_eq_true rfl⟩ rfl hl.1 rfl (Nat.le_of_ble_eq_true rfl) dL_law_89 ⟨by show 25 + 4 * i + 4 ≤ 600000; omega, by show 631 + 59 * i + 59 ≤ 7302250; omega⟩ (fun ra w1 H locs hP hW hS => ?_)
        rcases hP with ⟨hn, rfl, rfl⟩ | ⟨hn, rfl, hGR⟩
        · have hBC1 : BC Z (bw Z w n cap q T) n cap q T := bc_b hLK hBC
          have hMC1 : MC Z (bw Z w n cap q T) r M := mc_b hLK hMC
          refine lv_aload_n S.1 S.2.1 dL_law_92 rfl (lv_at hl 3 rfl) ?_
          refine c_V S hA (wm_of hW hMC1) hS (kX3_gear l Z _ r M (fm_of hLK hMC1) hI) ok_X3_gear tm_L_17 tn_X3_gear tl_X3_gear (fo_mem (E := mE Z r M) (fm_of hLK hMC1) 0 (by decide)) rfl rfl ⟨Nat.le_of_ble_eq_true rfl, Nat.le_of_ble_eq_true rfl⟩ rfl hl.1 rfl (Nat.le_of_ble_eq_true rfl) dL_law_93 ⟨by show 25 + 4 * i + 4 + 0 ≤ 600000; omega, by show 631 + 59 * i + 59 + 0 ≤ 7302250; omega⟩ (kk_i fun H locs hW hS => ?_)
          have hE : fX3_gear M = ((-2), M) := by unfold fX3_gear; rw [if_pos (by rw [hI.1, hn]; rfl)]
          rw [hE] at hW ⊢
          refine lv_icmp_eq (tgt := 294) S.1 S.2.1 dL_law_96 (by decide) (fun c2 => ?_) (fun c2 => absurd rfl c2)
          refine W.widen (k := 25 + 4 * (i + 1)) (n := 631 + 59 * (i + 1)) (by omega) (by omega) ?_
          exact K n cap q T M _ H locs hLK (bc_m hLK hBC1) (mc_m hLK hMC1) hRl hI hW hS hl
        · obtain ⟨q', cap', g1, g2, g3, g4, g5, g6, g7⟩ := hGR
          have hMC1 : MC Z w1 r M := fun k hk => g7 _ _ (fun j hj => hLK.2.2.2.2.2.2 j k hj hk) (hMC k hk)
          have hLK1 : LK (n + 1) cap' q' r := ⟨by omega, g3, by omega, Or.inr g4, g2, hLK.2.2.2.2.2.1, fun j k hj hk z => by
              rcases g6 j hj with ⟨j2, hj2, e2⟩ | h2
              · exact hLK.2.2.2.2.2.2 j2 k hj2 hk (e2.symm.trans z)
              · exact h2 _ (z ▸ hMC k hk)⟩
          have hBC1 : BC Z w1 (n + 1) cap' q' (upG T n newG) := g1
          obtain ⟨ea, hRl1, hI1⟩ := rl_gear hRl hI hn
          refine lv_aload_n S.1 S.2.1 dL_law_92 rfl (lv_at hl 3 rfl) ?_
          refine c_V S hA (wm_of hW hMC1) hS (kX3_gear l Z _ r M (fm_of hLK1 hMC1) hI) ok_X3_gear tm_L_17 tn_X3_gear tl_X3_gear (fo_mem (E := mE Z r M) (fm_of hLK1 hMC1) 0 (by decide)) rfl rfl ⟨Nat.le_of_ble_eq_true rfl, Nat.le_of_ble_eq_true rfl⟩ rfl hl.1 rfl (Nat.le_of_ble_eq_true rfl) dL_law_93 ⟨by show 25 + 4 * i + 4 + 0 ≤ 600000; omega, by show 631 + 59 * i + 59 + 0 ≤ 7302250; omega⟩ (kk_i fun H locs hW hS => ?_)
          refine lv_icmp_eq (tgt := 294) S.1 S.2.1 dL_law_96 (by decide) (fun c2 => ?_) (fun c2 => absurd ea.symm c2)
          refine W.widen (k := 25 + 4 * (i + 1)) (n := 631 + 59 * (i + 1)) (by omega) (by omega) ?_
          exact K (n + 1) cap' q' (upG T n newG) (fX3_gear M).2 _ H locs hLK1 (bc_m hLK1 hBC1) (mc_m hLK1 hMC1) hRl1 hI1 hW hS (by rw [g5]; exact hl)
      by_cases c_1 : k = 1
      · refine lv_tableIn (off := 69) (tgt := 101) S.1 S.2.1 dL_law_32 (by rw [c_1]; decide) (by rw [c_1]; decide) (by rw [c_1]; rfl) (by decide) ?_
        refine lv_aload_n S.1 S.2.1 dL_law_101 rfl (lv_at hl 2 rfl) ?_
        refine lv_aload_n S.1 S.2.1 dL_law_102 rfl (lv_at hl 1 rfl) ?_
        refine lv_iload_n S.1 S.2.1 dL_law_103 rfl (lv_at hl 0 rfl) ?_
        refine lv_iconst (v := 1) S.1 S.2.1 dL_law_104 (by decide) ?_
        refine lv_iadd S.1 S.2.1 dL_law_105 ?_
        rw [nI_1]
        refine va_sld S.1 S.2.1 hX hbl hbA hS (vp_in_nI (by omega) (by omega)) dL_law_106 ?_
        rw [nI_clamp (by omega)]
        refine lv_aload_n S.1 S.2.1 dL_law_107 rfl (lv_at hl 1 rfl) ?_
        refine lv_iload_n S.1 S.2.1 dL_law_108 rfl (lv_at hl 0 rfl) ?_
        refine lv_iconst (v := 2) S.1 S.2.1 dL_law_109 (by decide) ?_
        refine lv_iadd S.1 S.2.1 dL_law_110 ?_
        rw [nI_p2]
        refine va_sld S.1 S.2.1 hX hbl hbA hS (vp_in_nI (by omega) (by omega)) dL_law_111 ?_
        rw [nI_clamp (by omega)]
        refine c_V S hA (wb_of hW hBC) hS (kX2_give l Z w n cap q T hB (xs (3 * i + 1)) (xs (3 * i + 2))) ok_X2_give tm_L_18 tn_X2_give tl_X2_give (fo_mem (E := bE Z n cap q T) hB.1 0 (bN_0 n)) rfl rfl ⟨Nat.le_of_ble_eq_true rfl, Nat.le_of_ble_eq_true rfl⟩ rfl hl.1 rfl (Nat.le_of_ble_eq_true rfl) dL_law_112 ⟨by show 25 + 4 * i + 0 ≤ 600000; omega, by show 631 + 59 * i + 0 ≤ 7302250; omega⟩ (kk_i fun H locs hW hS => ?_)
        have hBC1 : BC Z (bw Z w n cap q (fX2_give n T (xs (3 * i + 1)) (xs (3 * i + 2))).2) n cap q (fX2_give n T (xs (3 * i + 1)) (xs (3 * i + 2))).2 := bc_b hLK hBC
        have hMC1 : MC Z (bw Z w n cap q (fX2_give n T (xs (3 * i + 1)) (xs (3 * i + 2))).2) r M := mc_b hLK hMC
        refine lv_aload_n S.1 S.2.1 dL_law_115 rfl (lv_at hl 3 rfl) ?_
        refine lv_aload_n S.1 S.2.1 dL_law_116 rfl (lv_at hl 1 rfl) ?_
        refine lv_iload_n S.1 S.2.1 dL_law_117 rfl (lv_at hl 0 rfl) ?_
        refine lv_iconst (v := 1) S.1 S.2.1 dL_law_118 (by decide) ?_
        refine lv_iadd S.1 S.2.1 dL_law_119 ?_
        rw [nI_1]
        refine va_sld S.1 S.2.1 hX hbl hbA hS (vp_in_nI (by omega) (by omega)) dL_law_120 ?_
        rw [nI_clamp (by omega)]
        refine lv_aload_n S.1 S.2.1 dL_law_121 rfl (lv_at hl 1 rfl) ?_
        refine lv_iload_n S.1 S.2.1 dL_law_122 rfl (lv_at hl 0 rfl) ?_
        refine lv_iconst (v := 2) S.1 S.2.1 dL_law_123 (by decide) ?_
        refine lv_iadd S.1 S.2.1 dL_law_124 ?_
        rw [nI_p2]
        refine va_sld S.1 S.2.1 hX hbl hbA hS (vp_in_nI (by omega) (by omega)) dL_law_125 ?_
        rw [nI_clamp (by omega)]
        refine c_V S hA (wm_of hW hMC1) hS (kX3_give l Z _ r M (fm_of hLK hMC1) (xs (3 * i + 1)) (xs (3 * i + 2)) hI) ok_X3_give tm_L_22 tn_X3_give tl_X3_give (fo_mem (E := mE Z r M) (fm_of hLK hMC1) 0 (by decide)) rfl rfl ⟨Nat.le_of_ble_eq_true rfl, Nat.le_of_ble_eq_true rfl⟩ rfl hl.1 rfl (Nat.le_of_ble_eq_true rfl) dL_law_126 ⟨by show 25 + 4 * i + 0 + 0 ≤ 600000; omega, by show 631 + 59 * i + 0 + 0 ≤ 7302250; omega⟩ (kk_i fun H locs hW hS => ?_)
        obtain ⟨ea, hRl1, hI1⟩ := rl_give (a := xs (3 * i + 1)) (b := xs (3 * i + 2)) hRl hI
        refine lv_icmp_eq (tgt := 294) S.1 S.2.1 dL_law_129 (by decide) (fun c2 => ?_) (fun c2 => absurd ea c2)
        refine W.widen (k := 25 + 4 * (i + 1)) (n := 631 + 59 * (i + 1)) (by omega) (by omega) ?_
        exact K n cap q (fX2_give n T (xs (3 * i + 1)) (xs (3 * i + 2))).2 (fX3_give M (xs (3 * i + 1)) (xs (3 * i + 2))).2 _ H locs hLK (bc_m hLK hBC1) (mc_m hLK hMC1) hRl1 hI1 hW hS hl
      by_cases c_2 : k = 2
      · refine lv_tableIn (off := 102) (tgt := 134) S.1 S.2.1 dL_law_32 (by rw [c_2]; decide) (by rw [c_2]; decide) (by rw [c_2]; rfl) (by decide) ?_
        refine lv_aload_n S.1 S.2.1 dL_law_134 rfl (lv_at hl 2 rfl) ?_
        refine lv_aload_n S.1 S.2.1 dL_law_135 rfl (lv_at hl 1 rfl) ?_
        refine lv_iload_n S.1 S.2.1 dL_law_136 rfl (lv_at hl 0 rfl) ?_
        refine lv_iconst (v := 1) S.1 S.2.1 dL_law_137 (by decide) ?_
        refine lv_iadd S.1 S.2.1 dL_law_138 ?_
        rw [nI_1]
        refine va_sld S.1 S.2.1 hX hbl hbA hS (vp_in_nI (by omega) (by omega)) dL_law_139 ?_
        rw [nI_clamp (by omega)]
        refine lv_aload_n S.1 S.2.1 dL_law_140 rfl (lv_at hl 1 rfl) ?_
        refine lv_iload_n S.1 S.2.1 dL_law_141 rfl (lv_at hl 0 rfl) ?_
        refine lv_iconst (v := 2) S.1 S.2.1 dL_law_142 (by decide) ?_
        refine lv_iadd S.1 S.2.1 dL_law_143 ?_
        rw [nI_p2]
        refine va_sld S.1 S.2.1 hX hbl hbA hS (vp_in_nI (by omega) (by omega)) dL_law_144 ?_
        rw [nI_clamp (by omega)]
        refine c_V S hA (wb_of hW hBC) hS (kX2_send l Z w n cap q T hB (xs (3 * i + 1)) (xs (3 * i + 2))) ok_X2_send tm_L_23 tn_X2_send tl_X2_send (fo_mem (E := bE Z n cap q T) hB.1 0 (bN_0 n)) rfl rfl ⟨Nat.le_of_ble_eq_true rfl, Nat.le_of_ble_eq_true rfl⟩ rfl hl.1 rfl (Nat.le_of_ble_eq_true rfl) dL_law_145 ⟨by show 25 + 4 * i + 0 ≤ 600000; omega, by show 631 + 59 * i + 0 ≤ 7302250; omega⟩ (kk_i fun H locs hW hS => ?_)
        have hBC1 : BC Z (bw Z w n cap q (fX2_send n T (xs (3 * i + 1)) (xs (3 * i + 2))).2) n cap q (fX2_send n T (xs (3 * i + 1)) (xs (3 * i + 2))).2 := bc_b hLK hBC
        have hMC1 : MC Z (bw Z w n cap q (fX2_send n T (xs (3 * i + 1)) (xs (3 * i + 2))).2) r M := mc_b hLK hMC
        refine lv_aload_n S.1 S.2.1 dL_law_148 rfl (lv_at hl 3 rfl) ?_
        refine lv_aload_n S.1 S.2.1 dL_law_149 rfl (lv_at hl 1 rfl) ?_
        refine lv_iload_n S.1 S.2.1 dL_law_150 rfl (lv_at hl 0 rfl) ?_
        refine lv_iconst (v := 1) S.1 S.2.1 dL_law_151 (by decide) ?_
        refine lv_iadd S.1 S.2.1 dL_law_152 ?_
        rw [nI_1]
        refine va_sld S.1 S.2.1 hX hbl hbA hS (vp_in_nI (by omega) (by omega)) dL_law_153 ?_
        rw [nI_clamp (by omega)]
        refine lv_aload_n S.1 S.2.1 dL_law_154 rfl (lv_at hl 1 rfl) ?_
        refine lv_iload_n S.1 S.2.1 dL_law_155 rfl (lv_at hl 0 rfl) ?_
        refine lv_iconst (v := 2) S.1 S.2.1 dL_law_156 (by decide) ?_
        refine lv_iadd S.1 S.2.1 dL_law_157 ?_
        rw [nI_p2]
        refine va_sld S.1 S.2.1 hX hbl hbA hS (vp_in_nI (by omega) (by omega)) dL_law_158 ?_
        rw [nI_clamp (by omega)]
        refine c_V S hA (wm_of hW hMC1) hS (kX3_send l Z _ r M (fm_of hLK hMC1) (xs (3 * i + 1)) (xs (3 * i + 2)) hI) ok_X3_send tm_L_27 tn_X3_send tl_X3_send (fo_mem (E := mE Z r M) (fm_of hLK hMC1) 0 (by decide)) rfl rfl ⟨Nat.le_of_ble_eq_true rfl, Nat.le_of_ble_eq_true rfl⟩ rfl hl.1 rfl (Nat.le_of_ble_eq_true rfl) dL_law_159 ⟨by show 25 + 4 * i + 0 + 0 ≤ 600000; omega, by show 631 + 59 * i + 0 + 0 ≤ 7302250; omega⟩ (kk_i fun H locs hW hS => ?_)
        obtain ⟨ea, hRl1⟩ := rl_send (a := xs (3 * i + 1)) (b := xs (3 * i + 2)) hRl hI
        have hI1 : MInv n (fX3_send M (xs (3 * i + 1)) (xs (3 * i + 2))).2 := mi_send hI
        refine lv_icmp_eq (tgt := 294) S.1 S.2.1 dL_law_162 (by decide) (fun c2 => ?_) (fun c2 => absurd ea c2)
        refine W.widen (k := 25 + 4 * (i + 1)) (n := 631 + 59 * (i + 1)) (by omega) (by omega) ?_
        exact K n cap q (fX2_send n T (xs (3 * i + 1)) (xs (3 * i + 2))).2 (fX3_send M (xs (3 * i + 1)) (xs (3 * i + 2))).2 _ H locs hLK (bc_m hLK hBC1) (mc_m hLK hMC1) hRl1 hI1 hW hS hl
      by_cases c_3 : k = 3
      · refine lv_tableIn (off := 135) (tgt := 167) S.1 S.2.1 dL_law_32 (by rw [c_3]; decide) (by rw [c_3]; decide) (by rw [c_3]; rfl) (by decide) ?_
        refine lv_aload_n S.1 S.2.1 dL_law_167 rfl (lv_at hl 2 rfl) ?_
        refine lv_aload_n S.1 S.2.1 dL_law_168 rfl (lv_at hl 1 rfl) ?_
        refine lv_iload_n S.1 S.2.1 dL_law_169 rfl (lv_at hl 0 rfl) ?_
        refine lv_iconst (v := 1) S.1 S.2.1 dL_law_170 (by decide) ?_
        refine lv_iadd S.1 S.2.1 dL_law_171 ?_
        rw [nI_1]
        refine va_sld S.1 S.2.1 hX hbl hbA hS (vp_in_nI (by omega) (by omega)) dL_law_172 ?_
        rw [nI_clamp (by omega)]
        refine c_V S hA (wb_of hW hBC) hS (kX2_tick l Z w n cap q T hB (xs (3 * i + 1))) ok_X2_tick tm_L_28 tn_X2_tick tl_X2_tick (fo_mem (E := bE Z n cap q T) hB.1 0 (bN_0 n)) rfl rfl ⟨Nat.le_of_ble_eq_true rfl, Nat.le_of_ble_eq_true rfl⟩ rfl hl.1 rfl (Nat.le_of_ble_eq_true rfl) dL_law_173 ⟨by show 25 + 4 * i + 0 ≤ 600000; omega, by show 631 + 59 * i + 0 ≤ 7302250; omega⟩ (kk_i fun H locs hW hS => ?_)
        have hBC1 : BC Z (bw Z w n cap q (fX2_tick n T (xs (3 * i + 1))).2) n cap q (fX2_tick n T (xs (3 * i + 1))).2 := bc_b hLK hBC
        have hMC1 : MC Z (bw Z w n cap q (fX2_tick n T (xs (3 * i + 1))).2) r M := mc_b hLK hMC
        refine lv_aload_n S.1 S.2.1 dL_law_176 rfl (lv_at hl 3 rfl) ?_
        refine lv_aload_n S.1 S.2.1 dL_law_177 rfl (lv_at hl 1 rfl) ?_
        refine lv_iload_n S.1 S.2.1 dL_law_178 rfl (lv_at hl 0 rfl) ?_
        refine lv_iconst (v := 1) S.1 S.2.1 dL_law_179 (by decide) ?_
        refine lv_iadd S.1 S.2.1 dL_law_180 ?_
        rw [nI_1]
        refine va_sld S.1 S.2.1 hX hbl hbA hS (vp_in_nI (by omega) (by omega)) dL_law_181 ?_
        rw [nI_clamp (by omega)]
        refine c_V S hA (wm_of hW hMC1) hS (kX3_tick l Z _ r M (fm_of hLK hMC1) (xs (3 * i + 1)) hI) ok_X3_tick tm_L_32 tn_X3_tick tl_X3_tick (fo_mem (E := mE Z r M) (fm_of hLK hMC1) 0 (by decide)) rfl rfl ⟨Nat.le_of_ble_eq_true rfl, Nat.le_of_ble_eq_true rfl⟩ rfl hl.1 rfl (Nat.le_of_ble_eq_true rfl) dL_law_182 ⟨by show 25 + 4 * i + 0 + 0 ≤ 600000; omega, by show 631 + 59 * i + 0 + 0 ≤ 7302250; omega⟩ (kk_i fun H locs hW hS => ?_)
        obtain ⟨ea, hRl1, hI1⟩ := rl_tick (a := xs (3 * i + 1)) hRl hI
        refine lv_icmp_eq (tgt := 294) S.1 S.2.1 dL_law_185 (by decide) (fun c2 => ?_) (fun c2 => absurd ea c2)
        refine W.widen (k := 25 + 4 * (i + 1)) (n := 631 + 59 * (i + 1)) (by omega) (by omega) ?_
        exact K n cap q (fX2_tick n T (xs (3 * i + 1))).2 (fX3_tick M (xs (3 * i + 1))).2 _ H locs hLK (bc_m hLK hBC1) (mc_m hLK hMC1) hRl1 hI1 hW hS hl
      by_cases c_4 : k = 4
      · refine lv_tableIn (off := 158) (tgt := 190) S.1 S.2.1 dL_law_32 (by rw [c_4]; decide) (by rw [c_4]; decide) (by rw [c_4]; rfl) (by decide) ?_
        refine lv_aload_n S.1 S.2.1 dL_law_190 rfl (lv_at hl 2 rfl) ?_
        refine c_V S hA (wb_of hW hBC) hS (kX2_power l Z w n cap q T hB ) ok_X2_power tm_L_33 tn_X2_power tl_X2_power (fo_mem (E := bE Z n cap q T) hB.1 0 (bN_0 n)) rfl rfl ⟨Nat.le_of_ble_eq_true rfl, Nat.le_of_ble_eq_true rfl⟩ rfl hl.1 rfl (Nat.le_of_ble_eq_true rfl) dL_law_191 ⟨by show 25 + 4 * i + 0 ≤ 600000; omega, by show 631 + 59 * i + 0 ≤ 7302250; omega⟩ (kk_v fun H locs hW hS => ?_)
        have hBC1 : BC Z (bw Z w n cap q (fX2_power n T)) n cap q (fX2_power n T) := bc_b hLK hBC
        have hMC1 : MC Z (bw Z w n cap q (fX2_power n T)) r M := mc_b hLK hMC
        refine lv_aload_n S.1 S.2.1 dL_law_194 rfl (lv_at hl 3 rfl) ?_
        refine c_V S hA (wm_of hW hMC1) hS (kX3_power l Z _ r M (fm_of hLK hMC1)  hI) ok_X3_power tm_L_36 tn_X3_power tl_X3_power (fo_mem (E := mE Z r M) (fm_of hLK hMC1) 0 (by decide)) rfl rfl ⟨Nat.le_of_ble_eq_true rfl, Nat.le_of_ble_eq_true rfl⟩ rfl hl.1 rfl (Nat.le_of_ble_eq_true rfl) dL_law_195 ⟨by show 25 + 4 * i + 0 + 0 ≤ 600000; omega, by show 631 + 59 * i + 0 + 0 ≤ 7302250; omega⟩ (kk_v fun H locs hW hS => ?_)
        obtain ⟨hRl1, hI1⟩ := rl_power hRl hI
        refine lv_goto (tgt := 294) S.1 S.2.1 dL_law_198 (by decide) ?_
        refine W.widen (k := 25 + 4 * (i + 1)) (n := 631 + 59 * (i + 1)) (by omega) (by omega) ?_
        exact K n cap q (fX2_power n T) (fX3_power M) _ H locs hLK (bc_m hLK hBC1) (mc_m hLK hMC1) hRl1 hI1 hW hS hl
      by_cases c_5 : k = 5
      · refine lv_tableIn (off := 169) (tgt := 201) S.1 S.2.1 dL_law_32 (by rw [c_5]; decide) (by rw [c_5]; decide) (by rw [c_5]; rfl) (by decide) ?_
        refine lv_aload_n S.1 S.2.1 dL_law_201 rfl (lv_at hl 2 rfl) ?_
        refine c_V S hA (wb_of hW hBC) hS (kX2_fail l Z w n cap q T hB ) ok_X2_fail tm_L_37 tn_X2_fail tl_X2_fail (fo_mem (E := bE Z n cap q T) hB.1 0 (bN_0 n)) rfl rfl ⟨Nat.le_of_ble_eq_true rfl, Nat.le_of_ble_eq_true rfl⟩ rfl hl.1 rfl (Nat.le_of_ble_eq_true rfl) dL_law_202 ⟨by show 25 + 4 * i + 0 ≤ 600000; omega, by show 631 + 59 * i + 0 ≤ 7302250; omega⟩ (kk_v fun H locs hW hS => ?_)
        have hBC1 : BC Z (bw Z w n cap q (fX2_fail n T)) n cap q (fX2_fail n T) := bc_b hLK hBC
        have hMC1 : MC Z (bw Z w n cap q (fX2_fail n T)) r M := mc_b hLK hMC
        refine lv_aload_n S.1 S.2.1 dL_law_205 rfl (lv_at hl 3 rfl) ?_
        refine c_V S hA (wm_of hW hMC1) hS (kX3_fail l Z _ r M (fm_of hLK hMC1)  hI) ok_X3_fail tm_L_40 tn_X3_fail tl_X3_fail (fo_mem (E := mE Z r M) (fm_of hLK hMC1) 0 (by decide)) rfl rfl ⟨Nat.le_of_ble_eq_true rfl, Nat.le_of_ble_eq_true rfl⟩ rfl hl.1 rfl (Nat.le_of_ble_eq_true rfl) dL_law_206 ⟨by show 25 + 4 * i + 0 + 0 ≤ 600000; omega, by show 631 + 59 * i + 0 + 0 ≤ 7302250; omega⟩ (kk_v fun H locs hW hS => ?_)
        obtain ⟨hRl1, hI1⟩ := rl_fail hRl hI
        refine lv_goto (tgt := 294) S.1 S.2.1 dL_law_209 (by decide) ?_
        refine W.widen (k := 25 + 4 * (i + 1)) (n := 631 + 59 * (i + 1)) (by omega) (by omega) ?_
        exact K n cap q (fX2_fail n T) (fX3_fail M) _ H locs hLK (bc_m hLK hBC1) (mc_m hLK hMC1) hRl1 hI1 hW hS hl
      by_cases c_6 : k = 6
      · refine lv_tableIn (off := 180) (tgt := 212) S.1 S.2.1 dL_law_32 (by rw [c_6]; decide) (by rw [c_6]; decide) (by rw [c_6]; rfl) (by decide) ?_
        refine lv_aload_n S.1 S.2.1 dL_law_212 rfl (lv_at hl 2 rfl) ?_
        refine lv_aload_n S.1 S.2.1 dL_law_213 rfl (lv_at hl 1 rfl) ?_
        refine lv_iload_n S.1 S.2.1 dL_law_214 rfl (lv_at hl 0 rfl) ?_
        refine lv_iconst (v := 1) S.1 S.2.1 dL_law_215 (by decide) ?_
        refine lv_iadd S.1 S.2.1 dL_law_216 ?_
        rw [nI_1]
        refine va_sld S.1 S.2.1 hX hbl hbA hS (vp_in_nI (by omega) (by omega)) dL_law_217 ?_
        rw [nI_clamp (by omega)]
        refine c_V S hA (wb_of hW hBC) hS (kX2_commission l Z w n cap q T hB (xs (3 * i + 1))) ok_X2_commission tm_L_41 tn_X2_commission tl_X2_commission (fo_mem (E := bE Z n cap q T) hB.1 0 (bN_0 n)) rfl rfl ⟨Nat.le_of_ble_eq_true rfl, Nat.le_of_ble_eq_true rfl⟩ rfl hl.1 rfl (Nat.le_of_ble_eq_true rfl) dL_law_218 ⟨by show 25 + 4 * i + 0 ≤ 600000; omega, by show 631 + 59 * i + 0 ≤ 7302250; omega⟩ (kk_i fun H locs hW hS => ?_)
        have hBC1 : BC Z (bw Z w n cap q (fX2_commission n T (xs (3 * i + 1))).2) n cap q (fX2_commission n T (xs (3 * i + 1))).2 := bc_b hLK hBC
        have hMC1 : MC Z (bw Z w n cap q (fX2_commission n T (xs (3 * i + 1))).2) r M := mc_b hLK hMC
        refine lv_aload_n S.1 S.2.1 dL_law_221 rfl (lv_at hl 3 rfl) ?_
        refine lv_aload_n S.1 S.2.1 dL_law_222 rfl (lv_at hl 1 rfl) ?_
        refine lv_iload_n S.1 S.2.1 dL_law_223 rfl (lv_at hl 0 rfl) ?_
        refine lv_iconst (v := 1) S.1 S.2.1 dL_law_224 (by decide) ?_
        refine lv_iadd S.1 S.2.1 dL_law_225 ?_
        rw [nI_1]
        refine va_sld S.1 S.2.1 hX hbl hbA hS (vp_in_nI (by omega) (by omega)) dL_law_226 ?_
        rw [nI_clamp (by omega)]
        refine c_V S hA (wm_of hW hMC1) hS (kX3_commission l Z _ r M (fm_of hLK hMC1) (xs (3 * i + 1)) hI) ok_X3_commission tm_L_44 tn_X3_commission tl_X3_commission (fo_mem (E := mE Z r M) (fm_of hLK hMC1) 0 (by decide)) rfl rfl ⟨Nat.le_of_ble_eq_true rfl, Nat.le_of_ble_eq_true rfl⟩ rfl hl.1 rfl (Nat.le_of_ble_eq_true rfl) dL_law_227 ⟨by show 25 + 4 * i + 0 + 0 ≤ 600000; omega, by show 631 + 59 * i + 0 + 0 ≤ 7302250; omega⟩ (kk_i fun H locs hW hS => ?_)
        obtain ⟨ea, hRl1⟩ := rl_commission (a := xs (3 * i + 1)) hRl hI
        have hI1 : MInv n (fX3_commission M (xs (3 * i + 1))).2 := mi_commission hI
        refine lv_icmp_eq (tgt := 294) S.1 S.2.1 dL_law_230 (by decide) (fun c2 => ?_) (fun c2 => absurd ea c2)
        refine W.widen (k := 25 + 4 * (i + 1)) (n := 631 + 59 * (i + 1)) (by omega) (by omega) ?_
        exact K n cap q (fX2_commission n T (xs (3 * i + 1))).2 (fX3_commission M (xs (3 * i + 1))).2 _ H locs hLK (bc_m hLK hBC1) (mc_m hLK hMC1) hRl1 hI1 hW hS hl
      by_cases c_7 : k = 7
      · refine lv_tableIn (off := 203) (tgt := 235) S.1 S.2.1 dL_law_32 (by rw [c_7]; decide) (by rw [c_7]; decide) (by rw [c_7]; rfl) (by decide) ?_
        refine lv_aload_n S.1 S.2.1 dL_law_235 rfl (lv_at hl 2 rfl) ?_
        refine c_V S hA (wb_of hW hBC) hS (kX2_compares l Z w n cap q T hB ) ok_X2_compares tm_L_45 tn_X2_compares tl_X2_compares (fo_mem (E := bE Z n cap q T) hB.1 0 (bN_0 n)) rfl rfl ⟨Nat.le_of_ble_eq_true rfl, Nat.le_of_ble_eq_true rfl⟩ rfl hl.1 rfl (Nat.le_of_ble_eq_true rfl) dL_law_236 ⟨by show 25 + 4 * i + 0 ≤ 600000; omega, by show 631 + 59 * i + 0 ≤ 7302250; omega⟩ (kk_i fun H locs hW hS => ?_)
        have hBC1 : BC Z (bw Z w n cap q T) n cap q T := bc_b hLK hBC
        have hMC1 : MC Z (bw Z w n cap q T) r M := mc_b hLK hMC
        refine lv_aload_n S.1 S.2.1 dL_law_239 rfl (lv_at hl 3 rfl) ?_
        refine c_V S hA (wm_of hW hMC1) hS (kX3_compares l Z _ r M (fm_of hLK hMC1)  ) ok_X3_compares tm_L_48 tn_X3_compares tl_X3_compares (fo_mem (E := mE Z r M) (fm_of hLK hMC1) 0 (by decide)) rfl rfl ⟨Nat.le_of_ble_eq_true rfl, Nat.le_of_ble_eq_true rfl⟩ rfl hl.1 rfl (Nat.le_of_ble_eq_true rfl) dL_law_240 ⟨by show 25 + 4 * i + 0 + 0 ≤ 600000; omega, by show 631 + 59 * i + 0 + 0 ≤ 7302250; omega⟩ (kk_i fun H locs hW hS => ?_)
        have ea := rl_compares hRl
        have hRl1 := hRl
        have hI1 := hI
        refine lv_icmp_eq (tgt := 294) S.1 S.2.1 dL_law_243 (by decide) (fun c2 => ?_) (fun c2 => absurd ea c2)
        refine W.widen (k := 25 + 4 * (i + 1)) (n := 631 + 59 * (i + 1)) (by omega) (by omega) ?_
        exact K n cap q T M _ H locs hLK (bc_m hLK hBC1) (mc_m hLK hMC1) hRl1 hI1 hW hS hl
      by_cases c_8 : k = 8
      · refine lv_tableIn (off := 216) (tgt := 248) S.1 S.2.1 dL_law_32 (by rw [c_8]; decide) (by rw [c_8]; decide) (by rw [c_8]; rfl) (by decide) ?_
        refine lv_aload_n S.1 S.2.1 dL_law_248 rfl (lv_at hl 2 rfl) ?_
        refine lv_aload_n S.1 S.2.1 dL_law_249 rfl (lv_at hl 1 rfl) ?_
        refine lv_iload_n S.1 S.2.1 dL_law_250 rfl (lv_at hl 0 rfl) ?_
        refine lv_iconst (v := 1) S.1 S.2.1 dL_law_251 (by decide) ?_
        refine lv_iadd S.1 S.2.1 dL_law_252 ?_
        rw [nI_1]
        refine va_sld S.1 S.2.1 hX hbl hbA hS (vp_in_nI (by omega) (by omega)) dL_law_253 ?_
        rw [nI_clamp (by omega)]
        refine lv_aload_n S.1 S.2.1 dL_law_254 rfl (lv_at hl 1 rfl) ?_
        refine lv_iload_n S.1 S.2.1 dL_law_255 rfl (lv_at hl 0 rfl) ?_
        refine lv_iconst (v := 2) S.1 S.2.1 dL_law_256 (by decide) ?_
        refine lv_iadd S.1 S.2.1 dL_law_257 ?_
        rw [nI_p2]
        refine va_sld S.1 S.2.1 hX hbl hbA hS (vp_in_nI (by omega) (by omega)) dL_law_258 ?_
        rw [nI_clamp (by omega)]
        refine c_V S hA (wb_of hW hBC) hS (kX2_told l Z w n cap q T hB (xs (3 * i + 1)) (xs (3 * i + 2))) ok_X2_told tm_L_49 tn_X2_told tl_X2_told (fo_mem (E := bE Z n cap q T) hB.1 0 (bN_0 n)) rfl rfl ⟨Nat.le_of_ble_eq_true rfl, Nat.le_of_ble_eq_true rfl⟩ rfl hl.1 rfl (Nat.le_of_ble_eq_true rfl) dL_law_259 ⟨by show 25 + 4 * i + 0 ≤ 600000; omega, by show 631 + 59 * i + 0 ≤ 7302250; omega⟩ (kk_i fun H locs hW hS => ?_)
        have hBC1 : BC Z (bw Z w n cap q T) n cap q T := bc_b hLK hBC
        have hMC1 : MC Z (bw Z w n cap q T) r M := mc_b hLK hMC
        refine lv_aload_n S.1 S.2.1 dL_law_262 rfl (lv_at hl 3 rfl) ?_
        refine lv_aload_n S.1 S.2.1 dL_law_263 rfl (lv_at hl 1 rfl) ?_
        refine lv_iload_n S.1 S.2.1 dL_law_264 rfl (lv_at hl 0 rfl) ?_
        refine lv_iconst (v := 1) S.1 S.2.1 dL_law_265 (by decide) ?_
        refine lv_iadd S.1 S.2.1 dL_law_266 ?_
        rw [nI_1]
        refine va_sld S.1 S.2.1 hX hbl hbA hS (vp_in_nI (by omega) (by omega)) dL_law_267 ?_
        rw [nI_clamp (by omega)]
        refine lv_aload_n S.1 S.2.1 dL_law_268 rfl (lv_at hl 1 rfl) ?_
        refine lv_iload_n S.1 S.2.1 dL_law_269 rfl (lv_at hl 0 rfl) ?_
        refine lv_iconst (v := 2) S.1 S.2.1 dL_law_270 (by decide) ?_
        refine lv_iadd S.1 S.2.1 dL_law_271 ?_
        rw [nI_p2]
        refine va_sld S.1 S.2.1 hX hbl hbA hS (vp_in_nI (by omega) (by omega)) dL_law_272 ?_
        rw [nI_clamp (by omega)]
        refine c_V S hA (wm_of hW hMC1) hS (kX3_told l Z _ r M (fm_of hLK hMC1) (xs (3 * i + 1)) (xs (3 * i + 2)) hI) ok_X3_told tm_L_52 tn_X3_told tl_X3_told (fo_mem (E := mE Z r M) (fm_of hLK hMC1) 0 (by decide)) rfl rfl ⟨Nat.le_of_ble_eq_true rfl, Nat.le_of_ble_eq_true rfl⟩ rfl hl.1 rfl (Nat.le_of_ble_eq_true rfl) dL_law_273 ⟨by show 25 + 4 * i + 0 + 0 ≤ 600000; omega, by show 631 + 59 * i + 0 + 0 ≤ 7302250; omega⟩ (kk_i fun H locs hW hS => ?_)
        have ea := rl_told (a := xs (3 * i + 1)) (b := xs (3 * i + 2)) hRl hI
        have hRl1 := hRl
        have hI1 := hI
        refine lv_icmp_eq (tgt := 294) S.1 S.2.1 dL_law_276 (by decide) (fun c2 => ?_) (fun c2 => absurd ea c2)
        refine W.widen (k := 25 + 4 * (i + 1)) (n := 631 + 59 * (i + 1)) (by omega) (by omega) ?_
        exact K n cap q T M _ H locs hLK (bc_m hLK hBC1) (mc_m hLK hMC1) hRl1 hI1 hW hS hl
      by_cases c_9 : k = 9
      · refine lv_tableIn (off := 249) (tgt := 281) S.1 S.2.1 dL_law_32 (by rw [c_9]; decide) (by rw [c_9]; decide) (by rw [c_9]; rfl) (by decide) ?_
        refine lv_aload_n S.1 S.2.1 dL_law_281 rfl (lv_at hl 2 rfl) ?_
        refine c_V S hA (wb_of hW hBC) hS (kX2_frames l Z w n cap q T hB ) ok_X2_frames tm_L_53 tn_X2_frames tl_X2_frames (fo_mem (E := bE Z n cap q T) hB.1 0 (bN_0 n)) rfl rfl ⟨Nat.le_of_ble_eq_true rfl, Nat.le_of_ble_eq_true rfl⟩ rfl hl.1 rfl (Nat.le_of_ble_eq_true rfl) dL_law_282 ⟨by show 25 + 4 * i + 0 ≤ 600000; omega, by show 631 + 59 * i + 0 ≤ 7302250; omega⟩ (kk_i fun H locs hW hS => ?_)
        have hBC1 : BC Z (bw Z w n cap q T) n cap q T := bc_b hLK hBC
        have hMC1 : MC Z (bw Z w n cap q T) r M := mc_b hLK hMC
        refine lv_aload_n S.1 S.2.1 dL_law_285 rfl (lv_at hl 3 rfl) ?_
        refine c_V S hA (wm_of hW hMC1) hS (kX3_frames l Z _ r M (fm_of hLK hMC1)  ) ok_X3_frames tm_L_56 tn_X3_frames tl_X3_frames (fo_mem (E := mE Z r M) (fm_of hLK hMC1) 0 (by decide)) rfl rfl ⟨Nat.le_of_ble_eq_true rfl, Nat.le_of_ble_eq_true rfl⟩ rfl hl.1 rfl (Nat.le_of_ble_eq_true rfl) dL_law_286 ⟨by show 25 + 4 * i + 0 + 0 ≤ 600000; omega, by show 631 + 59 * i + 0 + 0 ≤ 7302250; omega⟩ (kk_i fun H locs hW hS => ?_)
        have ea := rl_frames hRl
        have hRl1 := hRl
        have hI1 := hI
        refine lv_icmp_eq (tgt := 294) S.1 S.2.1 dL_law_289 (by decide) (fun c2 => ?_) (fun c2 => absurd ea c2)
        refine W.widen (k := 25 + 4 * (i + 1)) (n := 631 + 59 * (i + 1)) (by omega) (by omega) ?_
        exact K n cap q T M _ H locs hLK (bc_m hLK hBC1) (mc_m hLK hMC1) hRl1 hI1 hW hS hl
      refine sw_tab (tgt := 294) [0, 1, 2, 3, 4, 5, 6, 7, 8, 9] S.1 S.2.1 dL_law_32 (by decide) (List.forall_mem_cons.mpr ⟨c_0, List.forall_mem_cons.mpr ⟨c_1, List.forall_mem_cons.mpr ⟨c_2, List.forall_mem_cons.mpr ⟨c_3, List.forall_mem_cons.mpr ⟨c_4, List.forall_mem_cons.mpr ⟨c_5, List.forall_mem_cons.mpr ⟨c_6, List.forall_mem_cons.mpr ⟨c_7, List.forall_mem_cons.mpr ⟨c_8, List.forall_mem_cons.mpr ⟨c_9, fun _ h => absurd h List.not_mem_nil⟩⟩⟩⟩⟩⟩⟩⟩⟩⟩) (by decide +kernel) ?_
      refine W.widen (k := 25 + 4 * (i + 1)) (n := 631 + 59 * (i + 1)) (by omega) (by omega) ?_
      exact K n cap q T M w H locs hLK hBC hMC hRl hI hW hS hl
