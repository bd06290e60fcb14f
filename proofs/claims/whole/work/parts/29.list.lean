/-! THE LIST: making room and adding -/
theorem te_same : Cond.sameField "java/util/ArrayList" "java/util/AbstractList" "modCount" "I" ∈ TB := List.mem_filter.mpr ⟨List.mem_append_right _ (List.mem_of_getElem? (i := 40) (by decide +kernel)), by decide +kernel⟩
theorem te_gc : Cond.methodLink RJ7 86 ⟨"java/lang/Object", "getClass", "()Ljava/lang/Class;"⟩ ∈ TB := List.mem_filter.mpr ⟨List.mem_append_right _ (List.mem_of_getElem? (i := 211) (by decide +kernel)), by decide +kernel⟩
theorem te_gi : Cond.instanceMethod ⟨"java/lang/Object", "getClass", "()Ljava/lang/Class;"⟩ ∈ TB := List.mem_filter.mpr ⟨List.mem_append_right _ (List.mem_of_getElem? (i := 212) (by decide +kernel)), by decide +kernel⟩
theorem te_gs : Cond.selects "[Ljava/lang/Object;" ⟨"java/lang/Object", "getClass", "()Ljava/lang/Class;"⟩ ⟨"java/lang/Object", "getClass", "()Ljava/lang/Class;"⟩ ∈ TB := List.mem_filter.mpr ⟨List.mem_append_right _ (List.mem_of_getElem? (i := 670) (by decide +kernel)), by decide +kernel⟩
theorem te_gn : Cond.native ⟨"java/lang/Object", "getClass", "()Ljava/lang/Class;"⟩ ∈ TB := List.mem_filter.mpr ⟨List.mem_append_right _ (List.mem_of_getElem? (i := 219) (by decide +kernel)), by decide +kernel⟩
theorem te_al : Cond.methodLink RJ7 150 arraycopyName ∈ TB := List.mem_filter.mpr ⟨List.mem_append_right _ (List.mem_of_getElem? (i := 229) (by decide +kernel)), by decide +kernel⟩
theorem te_as : Cond.static arraycopyName ∈ TB := List.mem_filter.mpr ⟨List.mem_append_right _ (List.mem_of_getElem? (i := 230) (by decide +kernel)), by decide +kernel⟩
theorem te_an : Cond.native arraycopyName ∈ TB := List.mem_filter.mpr ⟨List.mem_append_right _ (List.mem_of_getElem? (i := 231) (by decide +kernel)), by decide +kernel⟩
theorem te_c110 : Cond.classLink RJ7 110 "[Ljava/lang/Object;" ∈ TB := List.mem_filter.mpr ⟨List.mem_append_right _ (List.mem_of_getElem? (i := 223) (by decide +kernel)), by decide +kernel⟩
theorem te_c2 : Cond.classLink RJ7 2 "java/lang/Object" ∈ TB := List.mem_filter.mpr ⟨List.mem_append_right _ (List.mem_of_getElem? (i := 225) (by decide +kernel)), by decide +kernel⟩
theorem te_c7 : Cond.classLink RJx4a65c 7 "java/lang/Object" ∈ TB := List.mem_filter.mpr ⟨List.mem_append_right _ (List.mem_of_getElem? (i := 233) (by decide +kernel)), by decide +kernel⟩
theorem ex_set {A : Nat → Prop} {w : va_W} {i a : Nat} {e0 e : va_E} (hD : va_D A w) (hi : w[i]? = some (a, e0)) : Ex w a e (w.set i (a, e)) := by
  have hl : i < w.length := (List.getElem?_eq_some_iff.mp hi).1
  refine ⟨List.mem_of_getElem? (i := i) (List.getElem?_set_self hl), fun b x hb hx => ?_, fun b x hx => ?_⟩
  · obtain ⟨j, hj⟩ := List.getElem?_of_mem hx
    have hij : i ≠ j := fun z => by subst z; exact hb (congrArg Prod.fst (Option.some.inj (hj.symm.trans hi)))
    exact List.mem_of_getElem? (i := j) (by rw [List.getElem?_set_ne hij]; exact hj)
  · obtain ⟨j, hj⟩ := List.getElem?_of_mem hx
    by_cases c : i = j
    · subst c
      rw [List.getElem?_set_self hl] at hj
      cases hj
      exact ⟨e0, List.mem_of_getElem? hi⟩
    · rw [List.getElem?_set_ne c] at hj
      exact ⟨x, List.mem_of_getElem? hj⟩
/-- an array of references -/
abbrev refs (Z : Zt) (n : Nat) (f : Nat → Option Nat) : va_E := .inl (zO Z, n, .inr (.inr (.inr (.inr f))))
theorem kk_rp {p : Program} {l : Launch} {e : Env} {R : Room} {s : State} {m : MethodId} {args : Array Value} {below : List Frame} {meth : Method} {c : Code} {cells slots : Nat} {Q : State → Prop} {pc : Nat} {ls : Array Slot} {rest : List Value} {Z : Zt} {P : Nat → va_W → Prop} (k : ∀ (b : Nat) (w : va_W) (H1 : Heap) (locs1 : List Loc), P b w → Wd Z w H1 → va_S (zA Z) s.heap H1 locs1 → W p l e R s m args below meth c H1 locs1 cells slots Q (F0 m pc ls (.ref b :: rest))) : ∀ (r : Option Value) (w : va_W) (H1 : Heap) (locs1 : List Loc), (∃ b, r = some (.ref b) ∧ P b w) → Wd Z w H1 → va_S (zA Z) s.heap H1 locs1 → W p l e R s m args below meth c H1 locs1 cells slots Q (F0 m pc ls (r.toList ++ rest)) := by
  rintro r w H1 locs1 ⟨b, rfl, hP⟩ h1 h2
  exact k b w H1 locs1 hP h1 h2
section AL
variable {p : Program} {l : Launch} {e : Env} {R : Room} {s : State} {m : MethodId} {args : Array Value} {below : List Frame} {meth : Method} {c : Code} {H : Heap} {locs : List Loc} {cells slots : Nat} {Q : State → Prop}
variable {cc : ByteArray} {nL pc : Nat} {ls : Array Slot} {rest : List Value} {own : String} {Z : Zt} {w : va_W}
theorem r_alenN (S : CallFix p m c cc nL s args TB own) (hA : Amb Z s) (hW : Wd Z w H) {a N : Nat} {f : Nat → Option Nat} (ha : (a, refs Z N f) ∈ w) (hdg : decode cc pc = .ok (.arraylength, 1))
    (kk : W p l e R s m args below meth c H locs cells slots Q (F0 m (pc + 1) ls (.int (nI N) :: rest))) : W p l e R s m args below meth c H locs cells slots Q (F0 m pc ls (.ref a :: rest)) := r_alen (t0 := 2) S hA hW ha rfl hdg kk
theorem r_alenE (S : CallFix p m c cc nL s args TB own) (hA : Amb Z s) (hS : va_S (zA Z) s.heap H locs) (hdg : decode cc pc = .ok (.arraylength, 1))
    (kk : W p l e R s m args below meth c H locs cells slots Q (F0 m (pc + 1) ls (.int 0 :: rest))) : W p l e R s m args below meth c H locs cells slots Q (F0 m pc ls (.ref (zE Z) :: rest)) := by
  exact va_tlen S.1 S.2.1 hA.2.2.2.2.2.2.2.2.2.1 hS rfl hdg kk
end AL
set_option maxRecDepth 100000 in
set_option maxHeartbeats 4000000 in
theorem kJ_newLength (l : Launch) (Z : Zt) (ws : va_W) (a1 a2 a3 : Int32) (h1 : ¬ (a1 + fmax a2 a3) ≤ 0) (h2 : ¬ 2147483639 < (a1 + fmax a2 a3)) : Ct l Z yJ8_newLength_cabcc cJ8_newLength_cabcc 4 (some .int) 1 21 0 0 ws [.int a1, .int a2, .int a3] (fun r w => r = some (.int (a1 + fmax a2 a3)) ∧ w = ws) := by
  refine Ct.start (by decide) (Nat.le_of_ble_eq_true rfl) ?_
  intro p e s m below meth c S hr hlk hnm hA hW hS ls hl
  replace S : CallFix p m c cJ8_newLength_cabcc 4 s _ TB RJ8 := S
  replace hl : lv_has ls 4 [(0, .int a1), (1, .int a2), (2, .int a3)] := hl
  refine lv_iload_n S.1 S.2.1 dJ8_newLength_cabcc_0 rfl (lv_at hl 0 rfl) ?_
  refine lv_iload_n S.1 S.2.1 dJ8_newLength_cabcc_1 rfl (lv_at hl 1 rfl) ?_
  refine lv_iload_n S.1 S.2.1 dJ8_newLength_cabcc_2 rfl (lv_at hl 2 rfl) ?_
  refine m_max S tm_J8_194 hl.1 (Nat.le_of_ble_eq_true rfl) (Nat.le_of_ble_eq_true rfl) (Nat.le_of_ble_eq_true rfl) (Nat.le_of_ble_eq_true rfl) dJ8_newLength_cabcc_3 ?_
  refine lv_iadd S.1 S.2.1 dJ8_newLength_cabcc_6 ?_
  refine lv_istore_n (lv' := [(3, .int (a1 + fmax a2 a3)), (0, .int a1), (1, .int a2), (2, .int a3)]) S.1 S.2.1 dJ8_newLength_cabcc_7 rfl hl (by decide) rfl (fun ls hl => ?_)
  refine lv_iconst (v := 0) S.1 S.2.1 dJ8_newLength_cabcc_8 (by decide) ?_
  refine lv_iload_n S.1 S.2.1 dJ8_newLength_cabcc_9 rfl (lv_at hl 0 rfl) ?_
  refine lv_icmp_ge (tgt := 21) S.1 S.2.1 dJ8_newLength_cabcc_10 (by decide) (fun c1 => absurd c1 h1) (fun c1 => ?_)
  refine lv_iload_n S.1 S.2.1 dJ8_newLength_cabcc_13 rfl (lv_at hl 0 rfl) ?_
  refine r_ldc S tk_J8_200 dJ8_newLength_cabcc_14 ?_
  refine lv_icmp_gt (tgt := 21) S.1 S.2.1 dJ8_newLength_cabcc_16 (by decide) (fun c2 => absurd c2 h2) (fun c2 => ?_)
  refine lv_iload_n S.1 S.2.1 dJ8_newLength_cabcc_19 rfl (lv_at hl 0 rfl) ?_
  exact r_iret S hr hlk hW hS ⟨rfl, rfl⟩ dJ8_newLength_cabcc_20
set_option maxRecDepth 100000 in
set_option maxHeartbeats 4000000 in
theorem kJ_copy3 (l : Launch) (Z : Zt) (w : va_W) (a0 n0 K : Nat) (f : Nat → Option Nat) (hm : (a0, refs Z n0 f) ∈ w) (hel : ∀ i, i < n0 → ∀ y, f i = some y → ∃ fs, (y, .inr (1, fs)) ∈ w) (hK : n0 ≤ K) (hK2 : K ≤ 22) : Ct l Z yJ7_copyOf_6403c cJ7_copyOf_6403c 4 (some (.array (.object "java/lang/Object"))) 1 40 1 22 w [.ref a0, .int (nI K), .ref (zM Z)] (fun r w1 => ∃ b, r = some (.ref b) ∧ (∀ y, (b, y) ∉ w) ∧ (b, refs Z K (va_cpy f (fun _ => none) 0 0 n0)) ∈ w1 ∧ (∀ a x, (a, x) ∈ w → (a, x) ∈ w1)) := by
  refine Ct.start (by decide) (Nat.le_of_ble_eq_true rfl) ?_
  intro p e s m below meth c S hr hlk hnm hA hW hS ls hl
  replace S : CallFix p m c cJ7_copyOf_6403c 4 s _ TB RJ7 := S
  replace hl : lv_has ls 4 [(0, .ref a0), (1, .int (nI K)), (2, .ref (zM Z))] := hl
  have hts := S.2.2.2.2
  refine lv_aload_n S.1 S.2.1 dJ7_copyOf_6403c_0 rfl (lv_at hl 2 rfl) ?_
  refine va_ldcM (mi := zM Z) S.1 S.2.1 S.2.2.2.1 (hts _ te_c110) hA.2.2.2.2.2.2.2.2.2.2.2.2 dJ7_copyOf_6403c_1 ?_
  refine lv_acmp_ne (rx := some (zM Z)) (ry := some (zM Z)) (tgt := 13) S.1 S.2.1 dJ7_copyOf_6403c_3 (by decide) (fun c1 => absurd rfl c1) (fun c1 => ?_)
  refine lv_iload_n S.1 S.2.1 dJ7_copyOf_6403c_6 rfl (lv_at hl 1 rfl) ?_
  refine W.widen (k := 0) (n := 22 - K) (Nat.le_refl _) (Nat.zero_le _) ?_
  refine r_newO (K := K) S hA hW hS te_c2 (nI_pos (by omega)) (nI_clamp (by omega)) (by omega) (Nat.le_of_ble_eq_true rfl) (by show 22 - K + K ≤ 22; omega) dJ7_copyOf_6403c_7 (fun b H hfb hW hS => ?_)
  refine W.widen (k := 1) (n := 22) (Nat.le_refl _) (by omega) ?_
  refine lv_goto (tgt := 24) S.1 S.2.1 dJ7_copyOf_6403c_10 (by decide) ?_
  refine lv_astore_n (lv' := [(3, .ref b), (0, .ref a0), (1, .int (nI K)), (2, .ref (zM Z))]) S.1 S.2.1 dJ7_copyOf_6403c_24 rfl hl (by decide) rfl (fun ls hl => ?_)
  refine lv_aload_n S.1 S.2.1 dJ7_copyOf_6403c_25 rfl (lv_at hl 1 rfl) ?_
  refine lv_iconst (v := 0) S.1 S.2.1 dJ7_copyOf_6403c_26 (by decide) ?_
  refine lv_aload_n S.1 S.2.1 dJ7_copyOf_6403c_27 rfl (lv_at hl 0 rfl) ?_
  refine lv_iconst (v := 0) S.1 S.2.1 dJ7_copyOf_6403c_28 (by decide) ?_
  refine lv_aload_n S.1 S.2.1 dJ7_copyOf_6403c_29 rfl (lv_at hl 1 rfl) ?_
  refine r_alenN S hA hW (List.mem_append_left _ hm) dJ7_copyOf_6403c_30 ?_
  refine lv_iload_n S.1 S.2.1 dJ7_copyOf_6403c_31 rfl (lv_at hl 2 rfl) ?_
  refine m_min S tm_J7_304 hl.1 (Nat.le_of_ble_eq_true rfl) (Nat.le_of_ble_eq_true rfl) (Nat.le_of_ble_eq_true rfl) (Nat.le_of_ble_eq_true rfl) dJ7_copyOf_6403c_32 ?_
  rw [show fmin (nI n0) (nI K) = nI n0 by unfold fmin; rw [if_neg (nI_nlt hK (by omega))]]
  obtain ⟨i0, hi0⟩ := List.getElem?_of_mem (List.mem_append_left [(b, refs Z K (fun _ => none))] hm)
  obtain ⟨i1, hi1⟩ := List.getElem?_of_mem (List.mem_append_right w (List.mem_cons_self : (b, refs Z K (fun _ => none)) ∈ [(b, refs Z K (fun _ => none))]))
  refine va_copyq (E0 := "java/lang/Object") (E1 := "java/lang/Object") (C := "LampBus$Gear") S.1 S.2.1 (S.2.2.1.trans hl.1.symm) S.2.2.2.1 (hts _ te_al) (hts _ te_an) (hts _ te_as) (hts _ ti_J10) hA.1 hW.1 hW.2 hS i0 i1 2 2 hi0 hi1 rfl rfl (by decide) (by decide) (nI_pos (by omega)) (by rw [nI_clamp (by omega), sb_cl0]; omega) (by rw [nI_clamp (by omega), sb_cl0]; omega) ?_ ?_ (Nat.le_of_ble_eq_true rfl) (Nat.le_of_ble_eq_true rfl) dJ7_copyOf_6403c_35 (fun H1 locs1 hP1 hD1 hS1 => ?_)
  · intro i hi y hy
    rw [nI_clamp (by omega)] at hi
    rw [sb_cl0, Nat.zero_add] at hy
    obtain ⟨fs, hfs⟩ := hel i hi y hy
    obtain ⟨k, hk⟩ := List.getElem?_of_mem (List.mem_append_left [(b, refs Z K (fun _ => none))] hfs)
    exact va_recv hA.1 hW.1 (ci := 1) rfl hk
  · intro comp c0 h1 h2
    obtain ⟨x, t1, f1, f2, f3⟩ := Cond.castable_spec (va_Nw.use (A := #[]) rfl (hA.2.1 _ nc_X0_Obj))
    cases h2.symm.trans f1
    cases h1.symm.trans f2
    exact f3
  · have hE := ex_set (e := refs Z K (va_cpy f (fun _ => none) 0 0 n0)) hW.2 hi1
    rw [nI_clamp (by omega), sb_cl0] at hP1 hD1
    refine lv_aload_n S.1 S.2.1 dJ7_copyOf_6403c_38 rfl (lv_at hl 0 rfl) ?_
    exact r_aret S hr (Or.inr ⟨_, rfl⟩) hlk ⟨hP1, hD1⟩ hS1 ⟨b, rfl, hfb, hE.1, fun a x hx => hE.2.1 a x (fun z => hfb x (z ▸ hx)) (List.mem_append_left _ hx)⟩ dJ7_copyOf_6403c_39
set_option maxRecDepth 100000 in
set_option maxHeartbeats 4000000 in
theorem kJ_copy2 (l : Launch) (Z : Zt) (w : va_W) (a0 n0 K : Nat) (f : Nat → Option Nat) (hm : (a0, refs Z n0 f) ∈ w) (hel : ∀ i, i < n0 → ∀ y, f i = some y → ∃ fs, (y, .inr (1, fs)) ∈ w) (hK : n0 ≤ K) (hK2 : K ≤ 22) : Ct l Z yJ7_copyOf_1904c cJ7_copyOf_1904c 2 (some (.array (.object "java/lang/Object"))) 2 63 1 22 w [.ref a0, .int (nI K)] (fun r w1 => ∃ b, r = some (.ref b) ∧ (∀ y, (b, y) ∉ w) ∧ (b, refs Z K (va_cpy f (fun _ => none) 0 0 n0)) ∈ w1 ∧ (∀ a x, (a, x) ∈ w → (a, x) ∈ w1)) := by
  refine Ct.start (by decide) (Nat.le_of_ble_eq_true rfl) ?_
  intro p e s m below meth c S hr hlk hnm hA hW hS ls hl
  replace S : CallFix p m c cJ7_copyOf_1904c 2 s _ TB RJ7 := S
  replace hl : lv_has ls 2 [(0, .ref a0), (1, .int (nI K))] := hl
  have hts := S.2.2.2.2
  refine lv_aload_n S.1 S.2.1 dJ7_copyOf_1904c_0 rfl (lv_at hl 0 rfl) ?_
  refine lv_iload_n S.1 S.2.1 dJ7_copyOf_1904c_1 rfl (lv_at hl 1 rfl) ?_
  refine lv_aload_n S.1 S.2.1 dJ7_copyOf_1904c_2 rfl (lv_at hl 0 rfl) ?_
  obtain ⟨i0, hi0⟩ := List.getElem?_of_mem hm
  have hr9 : ∃ cell : Cell, s.heap[a0]? = some cell ∧ cell.vm.isStatics = false ∧ s.vm.findClass "[Ljava/lang/Object;" = some cell.cls := by
    obtain ⟨_, _, _, _, _, f2⟩ := (hA.1.2 2 (zO Z, .object "java/lang/Object") rfl).2
    exact ⟨_, hW.1 i0 _ hi0, rfl, f2⟩
  refine va_getC (C := "[Ljava/lang/Object;") (mi := zM Z) S.1 S.2.1 (S.2.2.1.trans hl.1.symm) S.2.2.2.1 (hts _ te_gc) (va_Dc.use hA.2.2.2.2.2.2.2.2.2.2.2.1) (hts _ te_gs) (hts _ te_gi) (hts _ te_gn) hA.2.2.2.2.2.2.2.2.2.2.2.2 hr9 (Nat.le_of_ble_eq_true rfl) (Nat.le_of_ble_eq_true rfl) dJ7_copyOf_1904c_3 ?_
  refine c_S S hA hW hS (kJ_copy3 l Z w a0 n0 K f hm hel hK hK2) ok_J7_copyOf_6403c tm_J7_300 ts_J7_copyOf_6403c ⟨Nat.le_of_ble_eq_true rfl, Nat.le_of_ble_eq_true rfl⟩ rfl hl.1 rfl (Nat.le_of_ble_eq_true rfl) dJ7_copyOf_1904c_6 ⟨Nat.le_of_ble_eq_true rfl, Nat.le_of_ble_eq_true rfl⟩ (kk_rp fun b w1 H locs hP hW hS => ?_)
  exact r_aret S hr (Or.inr ⟨_, rfl⟩) hlk hW hS ⟨b, rfl, hP⟩ dJ7_copyOf_1904c_9
set_option maxRecDepth 100000 in
set_option maxHeartbeats 4000000 in
theorem kJ_grow0 (l : Launch) (Z : Zt) (w : va_W) (h : Nat) (mc sz : Int32) (hm : (h, .inr (0, [.int mc, .ref (zE Z), .int sz])) ∈ w) : Ct l Z yJx4a65c_grow_92f84 cJx4a65c_grow_92f84 4 (some (.array (.object "java/lang/Object"))) 3 84 1 22 w [.ref h, .int 1] (fun r w1 => ∃ b, r = some (.ref b) ∧ (∀ y, (b, y) ∉ w) ∧ (h, .inr (0, [.int mc, .ref b, .int sz])) ∈ w1 ∧ (b, refs Z 10 (fun _ => none)) ∈ w1 ∧ (∀ a x, a ≠ h → (a, x) ∈ w → (a, x) ∈ w1)) := by
  refine Ct.start (by decide) (Nat.le_of_ble_eq_true rfl) ?_
  intro p e s m below meth c S hr hlk hnm hA hW hS ls hl
  replace S : CallFix p m c cJx4a65c_grow_92f84 4 s _ TB RJx4a65c := S
  replace hl : lv_has ls 4 [(0, .ref h), (1, .int 1)] := hl
  have hts := S.2.2.2.2
  refine lv_aload_n S.1 S.2.1 dJx4a65c_grow_92f84_0 rfl (lv_at hl 0 rfl) ?_
  refine r_get (v := .ref (zE Z)) S hA hW hm (T := TJx4a65c) rfl iu_Jx4a65c 1 (by decide) tf_Jx4a65c_9 rfl dJx4a65c_grow_92f84_1 ?_
  refine r_alenE S hA hS dJx4a65c_grow_92f84_4 ?_
  refine lv_istore_n (lv' := [(2, .int 0), (0, .ref h), (1, .int 1)]) S.1 S.2.1 dJx4a65c_grow_92f84_5 rfl hl (by decide) rfl (fun ls hl => ?_)
  refine lv_iload_n S.1 S.2.1 dJx4a65c_grow_92f84_6 rfl (lv_at hl 0 rfl) ?_
  refine lv_if_gt (tgt := 20) S.1 S.2.1 dJx4a65c_grow_92f84_7 (by decide) (fun c1 => absurd c1 (by decide)) (fun c1 => ?_)
  refine lv_aload_n S.1 S.2.1 dJx4a65c_grow_92f84_10 rfl (lv_at hl 1 rfl) ?_
  refine r_get (v := .ref (zE Z)) S hA hW hm (T := TJx4a65c) rfl iu_Jx4a65c 1 (by decide) tf_Jx4a65c_9 rfl dJx4a65c_grow_92f84_11 ?_
  refine va_gets S.1 S.2.1 hA.2.2.2.2.2.2.2.1 hS S.2.2.2.1 (S.2.2.2.2 _ tf_Jx4a65c_39) (fun _ h => h) dJx4a65c_grow_92f84_14 ?_
  refine lv_acmp_eq (rx := some (zE Z)) (ry := some (zE Z)) (tgt := 45) S.1 S.2.1 dJx4a65c_grow_92f84_17 (by decide) (fun c2 => ?_) (fun c2 => absurd rfl c2)
  refine lv_aload_n S.1 S.2.1 dJx4a65c_grow_92f84_45 rfl (lv_at hl 1 rfl) ?_
  refine lv_bipush (v := 10) S.1 S.2.1 dJx4a65c_grow_92f84_46 (by decide) ?_
  refine lv_iload_n S.1 S.2.1 dJx4a65c_grow_92f84_48 rfl (lv_at hl 2 rfl) ?_
  refine m_max S tm_Jx4a65c_79 hl.1 (Nat.le_of_ble_eq_true rfl) (Nat.le_of_ble_eq_true rfl) (Nat.le_of_ble_eq_true rfl) (Nat.le_of_ble_eq_true rfl) dJx4a65c_grow_92f84_49 ?_
  rw [show fmax 10 1 = 10 from by decide]
  refine r_newO (K := 10) S hA hW hS te_c7 (by decide) (by decide) (by decide) (Nat.le_of_ble_eq_true rfl) (Nat.le_of_ble_eq_true rfl) dJx4a65c_grow_92f84_52 (fun b H hfb hW hS => ?_)
  refine lv_dup_x1 S.1 S.2.1 dJx4a65c_grow_92f84_55 rfl rfl ?_
  refine r_putX (v := .ref b) S hA hW hS (List.mem_append_left _ hm) (T := TJx4a65c) rfl iu_Jx4a65c tyJx4a65c tyJx4a65c_ok nmJx4a65c 1 (by decide) tf_Jx4a65c_9 rfl rfl rfl (Nat.le_of_ble_eq_true rfl) dJx4a65c_grow_92f84_56 (fun w1 H locs hE hW hS => ?_)
  refine W.widen (k := 1) (n := 22) (Nat.le_of_ble_eq_true rfl) (Nat.le_of_ble_eq_true rfl) ?_
  exact r_aret S hr (Or.inr ⟨_, rfl⟩) hlk hW hS ⟨b, rfl, hfb, hE.1, hE.2.1 b _ (fun z => hfb _ (z ▸ hm)) (List.mem_append_right _ List.mem_cons_self), fun a x ha hx => hE.2.1 a x ha (List.mem_append_left _ hx)⟩ dJx4a65c_grow_92f84_59
set_option maxRecDepth 100000 in
set_option maxHeartbeats 4000000 in
theorem kJ_grow1 (l : Launch) (Z : Zt) (w : va_W) (h a0 n0 : Nat) (mc sz : Int32) (f : Nat → Option Nat) (hm : (h, .inr (0, [.int mc, .ref a0, .int sz])) ∈ w) (hma : (a0, refs Z n0 f) ∈ w) (hel : ∀ i, i < n0 → ∀ y, f i = some y → ∃ fs, (y, .inr (1, fs)) ∈ w) (hn0 : n0 = 10 ∨ n0 = 15) : Ct l Z yJx4a65c_grow_92f84 cJx4a65c_grow_92f84 4 (some (.array (.object "java/lang/Object"))) 3 84 1 22 w [.ref h, .int (nI (n0 + 1))] (fun r w1 => ∃ b, r = some (.ref b) ∧ (∀ y, (b, y) ∉ w) ∧ (h, .inr (0, [.int mc, .ref b, .int sz])) ∈ w1 ∧ (b, refs Z (n0 + n0 / 2) (va_cpy f (fun _ => none) 0 0 n0)) ∈ w1 ∧ (∀ a x, a ≠ h → (a, x) ∈ w → (a, x) ∈ w1)) := by
  refine Ct.start (by decide) (Nat.le_of_ble_eq_true rfl) ?_
  intro p e s m below meth c S hr hlk hnm hA hW hS ls hl
  replace S : CallFix p m c cJx4a65c_grow_92f84 4 s _ TB RJx4a65c := S
  replace hl : lv_has ls 4 [(0, .ref h), (1, .int (nI (n0 + 1)))] := hl
  have hts := S.2.2.2.2
  refine lv_aload_n S.1 S.2.1 dJx4a65c_grow_92f84_0 rfl (lv_at hl 0 rfl) ?_
  refine r_get (v := .ref a0) S hA hW hm (T := TJx4a65c) rfl iu_Jx4a65c 1 (by decide) tf_Jx4a65c_9 rfl dJx4a65c_grow_92f84_1 ?_
  refine r_alenN S hA hW hma dJx4a65c_grow_92f84_4 ?_
  refine lv_istore_n (lv' := [(2, .int (nI n0)), (0, .ref h), (1, .int (nI (n0 + 1)))]) S.1 S.2.1 dJx4a65c_grow_92f84_5 rfl hl (by decide) rfl (fun ls hl => ?_)
  refine lv_iload_n S.1 S.2.1 dJx4a65c_grow_92f84_6 rfl (lv_at hl 0 rfl) ?_
  refine lv_if_gt (tgt := 20) S.1 S.2.1 dJx4a65c_grow_92f84_7 (by decide) (fun c1 => ?_) (fun c1 => absurd (by rcases hn0 with rfl | rfl <;> decide) c1)
  refine lv_iload_n S.1 S.2.1 dJx4a65c_grow_92f84_20 rfl (lv_at hl 0 rfl) ?_
  refine lv_iload_n S.1 S.2.1 dJx4a65c_grow_92f84_21 rfl (lv_at hl 2 rfl) ?_
  refine lv_iload_n S.1 S.2.1 dJx4a65c_grow_92f84_22 rfl (lv_at hl 0 rfl) ?_
  refine lv_isub S.1 S.2.1 dJx4a65c_grow_92f84_23 ?_
  refine lv_iload_n S.1 S.2.1 dJx4a65c_grow_92f84_24 rfl (lv_at hl 0 rfl) ?_
  refine lv_iconst (v := 1) S.1 S.2.1 dJx4a65c_grow_92f84_25 (by decide) ?_
  refine lv_ishr S.1 S.2.1 dJx4a65c_grow_92f84_26 ?_
  have eL : nI n0 + fmax (nI (n0 + 1) - nI n0) (nI n0 >>> ((1 : Int32) &&& 31)) = nI (n0 + n0 / 2) := by rcases hn0 with rfl | rfl <;> decide
  refine c_S S hA hW hS (kJ_newLength l Z w (nI n0) (nI (n0 + 1) - nI n0) (nI n0 >>> ((1 : Int32) &&& 31)) (by rw [eL]; rcases hn0 with rfl | rfl <;> decide) (by rw [eL]; rcases hn0 with rfl | rfl <;> decide)) ok_J8_newLength_cabcc tm_Jx4a65c_73 ts_J8_newLength_cabcc ⟨Nat.le_of_ble_eq_true rfl, Nat.le_of_ble_eq_true rfl⟩ rfl hl.1 rfl (Nat.le_of_ble_eq_true rfl) dJx4a65c_grow_92f84_27 ⟨Nat.le_of_ble_eq_true rfl, Nat.le_of_ble_eq_true rfl⟩ (kk_i fun H locs hW hS => ?_)
  rw [eL]
  refine lv_istore_n (lv' := [(3, .int (nI (n0 + n0 / 2))), (2, .int (nI n0)), (0, .ref h), (1, .int (nI (n0 + 1)))]) S.1 S.2.1 dJx4a65c_grow_92f84_30 rfl hl (by decide) rfl (fun ls hl => ?_)
  refine lv_aload_n S.1 S.2.1 dJx4a65c_grow_92f84_31 rfl (lv_at hl 2 rfl) ?_
  refine lv_aload_n S.1 S.2.1 dJx4a65c_grow_92f84_32 rfl (lv_at hl 2 rfl) ?_
  refine r_get (v := .ref a0) S hA hW hm (T := TJx4a65c) rfl iu_Jx4a65c 1 (by decide) tf_Jx4a65c_9 rfl dJx4a65c_grow_92f84_33 ?_
  refine lv_iload_n S.1 S.2.1 dJx4a65c_grow_92f84_36 rfl (lv_at hl 0 rfl) ?_
  refine c_S S hA hW hS (kJ_copy2 l Z w a0 n0 (n0 + n0 / 2) f hma hel (by omega) (by omega)) ok_J7_copyOf_1904c tm_Jx4a65c_66 ts_J7_copyOf_1904c ⟨Nat.le_of_ble_eq_true rfl, Nat.le_of_ble_eq_true rfl⟩ rfl hl.1 rfl (Nat.le_of_ble_eq_true rfl) dJx4a65c_grow_92f84_37 ⟨Nat.le_of_ble_eq_true rfl, Nat.le_of_ble_eq_true rfl⟩ (kk_rp fun b w1 H locs hP hW hS => ?_)
  obtain ⟨hfb, hb1, hold⟩ := hP
  refine lv_dup_x1 S.1 S.2.1 dJx4a65c_grow_92f84_40 rfl rfl ?_
  refine r_putX (v := .ref b) S hA hW hS (hold _ _ hm) (T := TJx4a65c) rfl iu_Jx4a65c tyJx4a65c tyJx4a65c_ok nmJx4a65c 1 (by decide) tf_Jx4a65c_9 rfl rfl rfl (Nat.le_of_ble_eq_true rfl) dJx4a65c_grow_92f84_41 (fun w2 H locs hE hW hS => ?_)
  exact r_aret S hr (Or.inr ⟨_, rfl⟩) hlk hW hS ⟨b, rfl, hfb, hE.1, hE.2.1 b _ (fun z => hfb _ (z ▸ hm)) hb1, fun a x ha hx => hE.2.1 a x ha (hold a x hx)⟩ dJx4a65c_grow_92f84_44
set_option maxRecDepth 100000 in
set_option maxHeartbeats 4000000 in
theorem kJ_growA (l : Launch) (Z : Zt) (w : va_W) (h : Nat) (mc : Int32) (hm : (h, .inr (0, [.int mc, .ref (zE Z), .int 0])) ∈ w) : Ct l Z yJx4a65c_grow_d5877 cJx4a65c_grow_d5877 1 (some (.array (.object "java/lang/Object"))) 4 107 1 22 w [.ref h] (fun r w1 => ∃ b, r = some (.ref b) ∧ (∀ y, (b, y) ∉ w) ∧ (h, .inr (0, [.int mc, .ref b, .int 0])) ∈ w1 ∧ (b, refs Z 10 (fun _ => none)) ∈ w1 ∧ (∀ a x, a ≠ h → (a, x) ∈ w → (a, x) ∈ w1)) := by
  refine Ct.start (by decide) (Nat.le_of_ble_eq_true rfl) ?_
  intro p e s m below meth c S hr hlk hnm hA hW hS ls hl
  replace S : CallFix p m c cJx4a65c_grow_d5877 1 s _ TB RJx4a65c := S
  replace hl : lv_has ls 1 [(0, .ref h)] := hl
  refine lv_aload_n S.1 S.2.1 dJx4a65c_grow_d5877_0 rfl (lv_at hl 0 rfl) ?_
  refine lv_aload_n S.1 S.2.1 dJx4a65c_grow_d5877_1 rfl (lv_at hl 0 rfl) ?_
  refine r_get (v := .int 0) S hA hW hm (T := TJx4a65c) rfl iu_Jx4a65c 2 (by decide) tf_Jx4a65c_48 rfl dJx4a65c_grow_d5877_2 ?_
  refine lv_iconst (v := 1) S.1 S.2.1 dJx4a65c_grow_d5877_5 (by decide) ?_
  refine lv_iadd S.1 S.2.1 dJx4a65c_grow_d5877_6 ?_
  rw [show (0 : Int32) + 1 = 1 from by decide]
  refine c_V S hA hW hS (kJ_grow0 l Z w h mc 0 hm) ok_Jx4a65c_grow_92f84 tm_Jx4a65c_69 tn_Jx4a65c_grow_92f84 tl_Jx4a65c_grow_92f84 hm rfl rfl ⟨Nat.le_of_ble_eq_true rfl, Nat.le_of_ble_eq_true rfl⟩ rfl hl.1 rfl (Nat.le_of_ble_eq_true rfl) dJx4a65c_grow_d5877_7 ⟨Nat.le_of_ble_eq_true rfl, Nat.le_of_ble_eq_true rfl⟩ (kk_rp fun b w1 H locs hP hW hS => ?_)
  exact r_aret S hr (Or.inr ⟨_, rfl⟩) hlk hW hS ⟨b, rfl, hP⟩ dJx4a65c_grow_d5877_10
set_option maxRecDepth 100000 in
set_option maxHeartbeats 4000000 in
theorem kJ_growB (l : Launch) (Z : Zt) (w : va_W) (h a0 n0 : Nat) (mc : Int32) (f : Nat → Option Nat) (hm : (h, .inr (0, [.int mc, .ref a0, .int (nI n0)])) ∈ w) (hma : (a0, refs Z n0 f) ∈ w) (hel : ∀ i, i < n0 → ∀ y, f i = some y → ∃ fs, (y, .inr (1, fs)) ∈ w) (hn0 : n0 = 10 ∨ n0 = 15) : Ct l Z yJx4a65c_grow_d5877 cJx4a65c_grow_d5877 1 (some (.array (.object "java/lang/Object"))) 4 107 1 22 w [.ref h] (fun r w1 => ∃ b, r = some (.ref b) ∧ (∀ y, (b, y) ∉ w) ∧ (h, .inr (0, [.int mc, .ref b, .int (nI n0)])) ∈ w1 ∧ (b, refs Z (n0 + n0 / 2) (va_cpy f (fun _ => none) 0 0 n0)) ∈ w1 ∧ (∀ a x, a ≠ h → (a, x) ∈ w → (a, x) ∈ w1)) := by
  refine Ct.start (by decide) (Nat.le_of_ble_eq_true rfl) ?_
  intro p e s m below meth c S hr hlk hnm hA hW hS ls hl
  replace S : CallFix p m c cJx4a65c_grow_d5877 1 s _ TB RJx4a65c := S
  replace hl : lv_has ls 1 [(0, .ref h)] := hl
  refine lv_aload_n S.1 S.2.1 dJx4a65c_grow_d5877_0 rfl (lv_at hl 0 rfl) ?_
  refine lv_aload_n S.1 S.2.1 dJx4a65c_grow_d5877_1 rfl (lv_at hl 0 rfl) ?_
  refine r_get (v := .int (nI n0)) S hA hW hm (T := TJx4a65c) rfl iu_Jx4a65c 2 (by decide) tf_Jx4a65c_48 rfl dJx4a65c_grow_d5877_2 ?_
  refine lv_iconst (v := 1) S.1 S.2.1 dJx4a65c_grow_d5877_5 (by decide) ?_
  refine lv_iadd S.1 S.2.1 dJx4a65c_grow_d5877_6 ?_
  rw [nI_1]
  refine c_V S hA hW hS (kJ_grow1 l Z w h a0 n0 mc (nI n0) f hm hma hel hn0) ok_Jx4a65c_grow_92f84 tm_Jx4a65c_69 tn_Jx4a65c_grow_92f84 tl_Jx4a65c_grow_92f84 hm rfl rfl ⟨Nat.le_of_ble_eq_true rfl, Nat.le_of_ble_eq_true rfl⟩ rfl hl.1 rfl (Nat.le_of_ble_eq_true rfl) dJx4a65c_grow_d5877_7 ⟨Nat.le_of_ble_eq_true rfl, Nat.le_of_ble_eq_true rfl⟩ (kk_rp fun b w1 H locs hP hW hS => ?_)
  exact r_aret S hr (Or.inr ⟨_, rfl⟩) hlk hW hS ⟨b, rfl, hP⟩ dJx4a65c_grow_d5877_10
theorem cpy_same {n : Nat} {f : Nat → Option Nat} (h : ∀ j, n ≤ j → f j = none) : va_cpy f (fun _ => none) 0 0 n = f := by
  funext j
  unfold va_cpy
  by_cases c : j < n
  · rw [if_pos ⟨Nat.zero_le _, by omega⟩, Nat.sub_zero, Nat.zero_add]
  · rw [if_neg (by omega), h j (by omega)]
/-- a list of n gears, its array at a0 -/
def LI (Z : Zt) (w : va_W) (h n cap a0 : Nat) (mc : Int32) (f : Nat → Option Nat) : Prop :=
  (h, .inr (0, [.int mc, .ref a0, .int (nI n)])) ∈ w ∧ n < 16 ∧ (∀ j, n ≤ j → f j = none) ∧ ((n = 0 ∧ a0 = zE Z) ∨ (0 < n ∧ n ≤ cap ∧ (cap = 10 ∨ cap = 15 ∨ cap = 22) ∧ (a0, refs Z cap f) ∈ w ∧ ∀ i, i < n → ∀ y, f i = some y → ∃ fs, (y, .inr (1, fs)) ∈ w))
def AD (Z : Zt) (w : va_W) (h n a0 g : Nat) (mc : Int32) (f : Nat → Option Nat) (w1 : va_W) : Prop := ∃ b cap, (h, .inr (0, [.int mc, .ref b, .int (nI (n + 1))])) ∈ w1 ∧ (b, refs Z cap (va_up f n (some g))) ∈ w1 ∧ n + 1 ≤ cap ∧ (cap = 10 ∨ cap = 15 ∨ cap = 22) ∧ ((0 < n ∧ b = a0) ∨ ∀ y, (b, y) ∉ w) ∧ (∀ a x, a ≠ h → a ≠ b → (a, x) ∈ w → (a, x) ∈ w1)
set_option maxRecDepth 100000 in
set_option maxHeartbeats 4000000 in
theorem kJ_add3 (l : Launch) (Z : Zt) (w : va_W) (h n cap a0 g : Nat) (mc : Int32) (f : Nat → Option Nat) (hL : LI Z w h n cap a0 mc f) (gs : List Value) (hg : (g, .inr (1, gs)) ∈ w) : Ct l Z yJx4a65c_add_72be8 cJx4a65c_add_72be8 4 none 5 127 1 22 w [.ref h, .ref g, .ref a0, .int (nI n)] (fun r w1 => r = none ∧ AD Z w h n a0 g mc f w1) := by
  refine Ct.start (by decide) (Nat.le_of_ble_eq_true rfl) ?_
  intro p e s m below meth c S hr hlk hnm hA hW hS ls hl
  replace S : CallFix p m c cJx4a65c_add_72be8 4 s _ TB RJx4a65c := S
  replace hl : lv_has ls 4 [(0, .ref h), (1, .ref g), (2, .ref a0), (3, .int (nI n))] := hl
  obtain ⟨hm, hn, hfn, hc⟩ := hL
  have hgh : g ≠ h := fun z => by
    obtain ⟨i, hi⟩ := List.getElem?_of_mem hg
    obtain ⟨j, hj⟩ := List.getElem?_of_mem hm
    have := hW.2.1 i j _ _ hi hj z
    subst this
    cases hi.symm.trans hj
  -- from the store on, with the array at b
  have fin : ∀ (b K : Nat) (w1 : va_W) (H : Heap) (locs : List Loc) (ls : Array Slot), Wd Z w1 H → va_S (zA Z) s.heap H locs → lv_has ls 4 [(2, .ref b), (0, .ref h), (1, .ref g), (3, .int (nI n))] → (h, .inr (0, [.int mc, .ref b, .int (nI n)])) ∈ w1 → (b, refs Z K f) ∈ w1 → (g, .inr (1, gs)) ∈ w1 → n + 1 ≤ K → (K = 10 ∨ K = 15 ∨ K = 22) → ((0 < n ∧ b = a0) ∨ ∀ y, (b, y) ∉ w) → (∀ a x, a ≠ h → a ≠ b → (a, x) ∈ w → (a, x) ∈ w1) → W p l e { frames := 5, cells := 1, slots := 22, locals := 127 } s m ([.ref h, .ref g, .ref a0, .int (nI n)] : List Value).toArray below meth c H locs 1 22 (MQ below (Cq Z (fun r w1 => r = none ∧ AD Z w h n a0 g mc f w1)) ([.ref h, .ref g, .ref a0, .int (nI n)] : List Value).toArray s 1 22 (zA Z)) (F0 m 11 ls []) := by
    intro b K w1 H locs ls hW hS hl hm1 hb1 hg1 hK hK3 hbw hold
    have hbh : b ≠ h := fun z => by
      obtain ⟨i, hi⟩ := List.getElem?_of_mem hb1
      obtain ⟨j, hj⟩ := List.getElem?_of_mem hm1
      have := hW.2.1 i j _ _ hi hj z
      subst this
      cases hi.symm.trans hj
    refine lv_aload_n S.1 S.2.1 dJx4a65c_add_72be8_11 rfl (lv_at hl 0 rfl) ?_
    refine lv_iload_n S.1 S.2.1 dJx4a65c_add_72be8_12 rfl (lv_at hl 3 rfl) ?_
    refine lv_aload_n S.1 S.2.1 dJx4a65c_add_72be8_13 rfl (lv_at hl 2 rfl) ?_
    obtain ⟨i0, hi0⟩ := List.getElem?_of_mem hb1
    obtain ⟨i1, hi1⟩ := List.getElem?_of_mem hg1
    refine va_astqO (E := "java/lang/Object") (r := (RX0, TX0, 12)) S.1 S.2.1 hA.1 hW.1 hW.2 hS i0 2 i1 1 hi0 rfl (hA.2.1 _ nc_X0_Obj) hi1 rfl (vp_in_nI (by omega) (by omega)) dJx4a65c_add_72be8_14 (fun H1 locs1 hP1 hD1 hS1 => ?_)
    have hE := ex_set (e := refs Z K (va_up f n (some g))) hW.2 hi0
    rw [nI_clamp (by omega)] at hP1 hD1
    generalize w1.set i0 (b, refs Z K (va_up f n (some g))) = w2 at hP1 hD1 hE
    refine lv_aload_n S.1 S.2.1 dJx4a65c_add_72be8_15 rfl (lv_at hl 1 rfl) ?_
    refine lv_iload_n S.1 S.2.1 dJx4a65c_add_72be8_16 rfl (lv_at hl 3 rfl) ?_
    refine lv_iconst (v := 1) S.1 S.2.1 dJx4a65c_add_72be8_17 (by decide) ?_
    refine lv_iadd S.1 S.2.1 dJx4a65c_add_72be8_18 ?_
    rw [nI_1]
    refine r_putX (v := .int (nI (n + 1))) S hA ⟨hP1, hD1⟩ hS1 (hE.2.1 h _ (fun z => hbh z.symm) hm1) (T := TJx4a65c) rfl iu_Jx4a65c tyJx4a65c tyJx4a65c_ok nmJx4a65c 2 (by decide) tf_Jx4a65c_48 rfl rfl rfl (Nat.le_of_ble_eq_true rfl) dJx4a65c_add_72be8_19 (fun w3 H locs hE3 hW hS => ?_)
    exact r_vret S hr hlk hW hS ⟨rfl, b, K, hE3.1, hE3.2.1 b _ hbh hE.1, hK, hK3, hbw, fun a x ha hb hx => hE3.2.1 a x ha (hE.2.1 a x hb (hold a x ha hb hx))⟩ dJx4a65c_add_72be8_22
  refine lv_iload_n S.1 S.2.1 dJx4a65c_add_72be8_0 rfl (lv_at hl 3 rfl) ?_
  refine lv_aload_n S.1 S.2.1 dJx4a65c_add_72be8_1 rfl (lv_at hl 2 rfl) ?_
  rcases hc with ⟨rfl, rfl⟩ | ⟨hn0, hnc, hcap, hma, hel⟩
  · refine r_alenE S hA hS dJx4a65c_add_72be8_2 ?_
    refine lv_icmp_ne (x := nI 0) (y := 0) (tgt := 11) S.1 S.2.1 dJx4a65c_add_72be8_3 (by decide) (fun c1 => absurd (by decide) c1) (fun c1 => ?_)
    refine lv_aload_n S.1 S.2.1 dJx4a65c_add_72be8_6 rfl (lv_at hl 0 rfl) ?_
    refine c_V S hA hW hS (kJ_growA l Z w h mc hm) ok_Jx4a65c_grow_d5877 tm_Jx4a65c_129 tn_Jx4a65c_grow_d5877 tl_Jx4a65c_grow_d5877 hm rfl rfl ⟨Nat.le_of_ble_eq_true rfl, Nat.le_of_ble_eq_true rfl⟩ rfl hl.1 rfl (Nat.le_of_ble_eq_true rfl) dJx4a65c_add_72be8_7 ⟨Nat.le_of_ble_eq_true rfl, Nat.le_of_ble_eq_true rfl⟩ (kk_rp fun b w1 H locs hP hW hS => ?_)
    obtain ⟨hfb, hm1, hb1, hold⟩ := hP
    refine lv_astore_n (lv' := [(2, .ref b), (0, .ref h), (1, .ref g), (3, .int (nI 0))]) S.1 S.2.1 dJx4a65c_add_72be8_10 rfl hl (by decide) rfl (fun ls hl => ?_)
    have ef : f = fun _ => none := funext (fun j => hfn j (Nat.zero_le _))
    exact fin b 10 w1 H locs ls hW hS hl hm1 (by rw [ef]; exact hb1) (hold g _ hgh hg) (by decide) (Or.inl rfl) (Or.inr hfb) (fun a x ha _ hx => hold a x ha hx)
  · refine r_alenN S hA hW hma dJx4a65c_add_72be8_2 ?_
    refine lv_icmp_ne (x := nI n) (y := nI cap) (tgt := 11) S.1 S.2.1 dJx4a65c_add_72be8_3 (by decide) (fun c1 => ?_) (fun c1 => ?_)
    · have hne : n ≠ cap := fun z => c1 (by rw [z])
      refine W.widen (k := 1) (n := 22) (Nat.le_of_ble_eq_true rfl) (Nat.le_of_ble_eq_true rfl) ?_
      exact fin a0 cap w _ _ ls hW hS (lv_sub hl [2, 0, 1, 3] rfl) hm hma hg (by omega) hcap (Or.inl ⟨hn0, rfl⟩) (fun a x _ _ hx => hx)
    · have he : n = cap := (nI_eq (by omega) (by omega)).mp c1
      subst he
      refine lv_aload_n S.1 S.2.1 dJx4a65c_add_72be8_6 rfl (lv_at hl 0 rfl) ?_
      refine c_V S hA hW hS (kJ_growB l Z w h a0 n mc f hm hma hel (by omega)) ok_Jx4a65c_grow_d5877 tm_Jx4a65c_129 tn_Jx4a65c_grow_d5877 tl_Jx4a65c_grow_d5877 hm rfl rfl ⟨Nat.le_of_ble_eq_true rfl, Nat.le_of_ble_eq_true rfl⟩ rfl hl.1 rfl (Nat.le_of_ble_eq_true rfl) dJx4a65c_add_72be8_7 ⟨Nat.le_of_ble_eq_true rfl, Nat.le_of_ble_eq_true rfl⟩ (kk_rp fun b w1 H locs hP hW hS => ?_)
      obtain ⟨hfb, hm1, hb1, hold⟩ := hP
      refine lv_astore_n (lv' := [(2, .ref b), (0, .ref h), (1, .ref g), (3, .int (nI n))]) S.1 S.2.1 dJx4a65c_add_72be8_10 rfl hl (by decide) rfl (fun ls hl => ?_)
      rw [cpy_same hfn] at hb1
      exact fin b (n + n / 2) w1 H locs ls hW hS hl hm1 hb1 (hold g _ hgh hg) (by omega) (by omega) (Or.inr hfb) (fun a x ha _ hx => hold a x ha hx)
set_option maxRecDepth 100000 in
set_option maxHeartbeats 4000000 in
theorem kJ_add (l : Launch) (Z : Zt) (w : va_W) (h n cap a0 g : Nat) (mc : Int32) (f : Nat → Option Nat) (hL : LI Z w h n cap a0 mc f) (gs : List Value) (hg : (g, .inr (1, gs)) ∈ w) (hma : 0 < n → a0 ≠ h) : Ct l Z yJx4a65c_add_9ea2d cJx4a65c_add_9ea2d 2 (some .boolean) 6 150 1 22 w [.ref h, .ref g] (fun r w1 => r = some (.int 1) ∧ AD Z w h n a0 g (mc + 1) f w1) := by
  refine Ct.start (by decide) (Nat.le_of_ble_eq_true rfl) ?_
  intro p e s m below meth c S hr hlk hnm hA hW hS ls hl
  replace S : CallFix p m c cJx4a65c_add_9ea2d 2 s _ TB RJx4a65c := S
  replace hl : lv_has ls 2 [(0, .ref h), (1, .ref g)] := hl
  have hm := hL.1
  have hts := S.2.2.2.2
  have hsame : ∀ x, s.fieldFound? (TJx4a65c 0).1 (TJx4a65c 0).2.1 (TJx4a65c 0).2.2.1 = some x → s.fieldFound? "java/util/ArrayList" (TJx4a65c 0).2.1 (TJx4a65c 0).2.2.1 = some x := fun x hx => u_same (hts _ te_same) x hx
  have hgh : g ≠ h := fun z => by
    obtain ⟨i, hi⟩ := List.getElem?_of_mem hg
    obtain ⟨j, hj⟩ := List.getElem?_of_mem hm
    have := hW.2.1 i j _ _ hi hj z
    subst this
    cases hi.symm.trans hj
  refine lv_aload_n S.1 S.2.1 dJx4a65c_add_9ea2d_0 rfl (lv_at hl 0 rfl) ?_
  refine lv_dup S.1 S.2.1 dJx4a65c_add_9ea2d_1 rfl ?_
  obtain ⟨i0, hi0⟩ := List.getElem?_of_mem hm
  refine va_get (v := .int mc) (ref := "java/util/ArrayList") S.1 S.2.1 hts iu_Jx4a65c S.2.2.2.1 hA.1 hW.1 i0 hi0 rfl 0 (by decide) (hts _ tf_Jx4a65c_63) hsame rfl dJx4a65c_add_9ea2d_2 ?_
  refine lv_iconst (v := 1) S.1 S.2.1 dJx4a65c_add_9ea2d_5 (by decide) ?_
  refine lv_iadd S.1 S.2.1 dJx4a65c_add_9ea2d_6 ?_
  refine va_put (v := .int (mc + 1)) (ty := .int) (ref := "java/util/ArrayList") S.1 S.2.1 hts iu_Jx4a65c tyJx4a65c tyJx4a65c_ok nmJx4a65c S.2.2.2.1 hA.1 hW.1 hW.2 hS i0 hi0 rfl 0 (by decide) (hts _ tf_Jx4a65c_63) hsame rfl rfl rfl rfl (Nat.le_of_ble_eq_true rfl) dJx4a65c_add_9ea2d_7 (fun H1 locs1 hP1 hD1 hS1 => ?_)
  have hE := ex_set (e := .inr (0, [.int (mc + 1), .ref a0, .int (nI n)])) hW.2 hi0
  have hW1 : Wd Z (w.set i0 (h, .inr (0, [.int (mc + 1), .ref a0, .int (nI n)]))) H1 := ⟨hP1, hD1⟩
  clear hP1 hD1
  generalize w.set i0 (h, .inr (0, [.int (mc + 1), .ref a0, .int (nI n)])) = w1 at hW1 hE
  have hL1 : LI Z w1 h n cap a0 (mc + 1) f := by
    obtain ⟨_, h2, h3, h4⟩ := hL
    refine ⟨hE.1, h2, h3, ?_⟩
    rcases h4 with h4 | ⟨k1, k2, k3, k4, k5⟩
    · exact Or.inl h4
    · refine Or.inr ⟨k1, k2, k3, hE.2.1 a0 _ (hma k1) k4, fun i hi y hy => ?_⟩
      obtain ⟨fs, hfs⟩ := k5 i hi y hy
      refine ⟨fs, hE.2.1 y _ (fun z => ?_) hfs⟩
      obtain ⟨i, hi⟩ := List.getElem?_of_mem hfs
      have := hW.2.1 i i0 _ _ hi hi0 z
      subst this
      cases hi.symm.trans hi0
  have hg1 := hE.2.1 g _ hgh hg
  refine lv_aload_n S.1 S.2.1 dJx4a65c_add_9ea2d_10 rfl (lv_at hl 0 rfl) ?_
  refine lv_aload_n S.1 S.2.1 dJx4a65c_add_9ea2d_11 rfl (lv_at hl 1 rfl) ?_
  refine lv_aload_n S.1 S.2.1 dJx4a65c_add_9ea2d_12 rfl (lv_at hl 0 rfl) ?_
  refine r_get (v := .ref a0) S hA hW1 hE.1 (T := TJx4a65c) rfl iu_Jx4a65c 1 (by decide) tf_Jx4a65c_9 rfl dJx4a65c_add_9ea2d_13 ?_
  refine lv_aload_n S.1 S.2.1 dJx4a65c_add_9ea2d_16 rfl (lv_at hl 0 rfl) ?_
  refine r_get (v := .int (nI n)) S hA hW1 hE.1 (T := TJx4a65c) rfl iu_Jx4a65c 2 (by decide) tf_Jx4a65c_48 rfl dJx4a65c_add_9ea2d_17 ?_
  refine c_V S hA hW1 hS1 (kJ_add3 l Z w1 h n cap a0 g (mc + 1) f hL1 gs hg1) ok_Jx4a65c_add_72be8 tm_Jx4a65c_131 tn_Jx4a65c_add_72be8 tl_Jx4a65c_add_72be8 hE.1 rfl rfl ⟨Nat.le_of_ble_eq_true rfl, Nat.le_of_ble_eq_true rfl⟩ rfl hl.1 rfl (Nat.le_of_ble_eq_true rfl) dJx4a65c_add_9ea2d_20 ⟨Nat.le_of_ble_eq_true rfl, Nat.le_of_ble_eq_true rfl⟩ (kk_p fun w2 H locs hP hW hS => ?_)
  refine lv_iconst (v := 1) S.1 S.2.1 dJx4a65c_add_9ea2d_23 (by decide) ?_
  obtain ⟨b, K, p1, p2, p3, p4, p5, p6⟩ := hP
  exact r_zret S hr hlk hW hS rfl ⟨rfl, b, K, p1, p2, p3, p4, p5.elim Or.inl (fun hh => Or.inr (fun y hy => by
    by_cases z : b = h
    · exact hh _ (z ▸ hE.1)
    · exact hh y (hE.2.1 b y z hy))), fun a x ha hb hx => p6 a x ha hb (hE.2.1 a x ha hx)⟩ dJx4a65c_add_9ea2d_24
