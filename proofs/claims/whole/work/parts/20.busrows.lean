/-! THE BUS: cell 0 the bus, 1 the list, 2 the list's array, 3 + 3 i + r the cells of gear i. T i k: number k of gear i; T 100 k: the bus's own field k -/
def qg (q : Nat → Nat) (i r : Nat) : Nat := q (3 + 3 * i + r)
def bN (n : Nat) : Nat := if n = 0 then 2 else 3 + 3 * n
def busV (q : Nat → Nat) (T : Nat → Nat → Int32) (k : Nat) : Value := if k = 0 then .ref (q 1) else .int (T 100 k)
def listV (Z : Zt) (n : Nat) (q : Nat → Nat) (k : Nat) : Value := if k = 1 then .ref (if n = 0 then zE Z else q 2) else .int (nI n)
def arrF (n : Nat) (q : Nat → Nat) (j : Nat) : Option Nat := if j < n then some (q (3 + 3 * j)) else none
def bE (Z : Zt) (n cap : Nat) (q : Nat → Nat) (T : Nat → Nat → Int32) (k : Nat) : va_E :=
  if k = 0 then .inr (3, (List.range 6).map (busV q T)) else if k = 1 then .inr (0, (List.range 3).map (listV Z n q)) else if k = 2 then .inl (zO Z, cap, .inr (.inr (.inr (.inr (arrF n q))))) else gE Z (qg q ((k - 3) / 3)) (T ((k - 3) / 3)) ((k - 3) % 3)
noncomputable abbrev bw (Z : Zt) (ws : va_W) (n cap : Nat) (q : Nat → Nat) (T : Nat → Nat → Int32) : va_W := fo ws (bN n) q (bE Z n cap q T)
theorem bE_0 {Z : Zt} {n cap : Nat} {q : Nat → Nat} {T : Nat → Nat → Int32} : bE Z n cap q T 0 = .inr (3, (List.range 6).map (busV q T)) := rfl
theorem bE_1 {Z : Zt} {n cap : Nat} {q : Nat → Nat} {T : Nat → Nat → Int32} : bE Z n cap q T 1 = .inr (0, (List.range 3).map (listV Z n q)) := rfl
theorem bE_2 {Z : Zt} {n cap : Nat} {q : Nat → Nat} {T : Nat → Nat → Int32} : bE Z n cap q T 2 = .inl (zO Z, cap, .inr (.inr (.inr (.inr (arrF n q))))) := rfl
theorem bE_g {Z : Zt} {n cap i r : Nat} {q : Nat → Nat} {T : Nat → Nat → Int32} (hr : r < 3) : bE Z n cap q T (3 + 3 * i + r) = gE Z (qg q i) (T i) r := by
  unfold bE
  rw [if_neg (by omega), if_neg (by omega), if_neg (by omega), show (3 + 3 * i + r - 3) / 3 = i by omega, show (3 + 3 * i + r - 3) % 3 = r by omega]
theorem bN_1 (n : Nat) : 1 < bN n := by unfold bN; split <;> omega
theorem bN_0 (n : Nat) : 0 < bN n := by unfold bN; split <;> omega
theorem bN_g {n i r : Nat} (hi : i < n) (hr : r < 3) : 3 + 3 * i + r < bN n := by unfold bN; rw [if_neg (by omega)]; omega
theorem bN_2 {n i : Nat} (hi : i < n) : 2 < bN n := by unfold bN; rw [if_neg (by omega)]; omega
def upG (T : Nat → Nat → Int32) (i : Nat) (G : Nat → Int32) : Nat → Nat → Int32 := fun j => if j = i then G else T j
theorem upG_at {T : Nat → Nat → Int32} {i : Nat} {G : Nat → Int32} : upG T i G i = G := by unfold upG; rw [if_pos rfl]
theorem upG_ne {T : Nat → Nat → Int32} {i j : Nat} {G : Nat → Int32} (h : j ≠ i) : upG T i G j = T j := by unfold upG; rw [if_neg h]
theorem FI_g {ws : va_W} {n i : Nat} {q : Nat → Nat} (hF : FI ws (bN n) q) (hi : i < n) : FI ws 3 (qg q i) := by
  refine ⟨fun r hr => hF.1 _ (bN_g hi hr), fun j k hj hk h => ?_⟩
  have := hF.2 _ _ (bN_g hi hj) (bN_g hi hk) h
  omega
theorem bw_in {Z : Zt} {ws : va_W} {n cap i : Nat} {q : Nat → Nat} {T : Nat → Nat → Int32} {H : Heap} (hF : FI ws (bN n) q) (hi : i < n) (hW : Wd Z (bw Z ws n cap q T) H) : Wd Z (gw Z (bw Z ws n cap q T) (qg q i) (T i)) H := by
  have e : gw Z (bw Z ws n cap q T) (qg q i) (T i) = bw Z ws n cap q T := fo_self hW.2 (fun r hr => by
    have h := fo_mem (E := bE Z n cap q T) hF _ (bN_g hi hr)
    rw [bE_g hr] at h
    exact h)
  rw [e]
  exact hW
theorem bw_out {Z : Zt} {ws : va_W} {n cap i : Nat} {q : Nat → Nat} {T : Nat → Nat → Int32} {G : Nat → Int32} (hF : FI ws (bN n) q) (hi : i < n) (hn : n ≤ 16) : gw Z (bw Z ws n cap q T) (qg q i) G = bw Z ws n cap q (upG T i G) := by
  refine fo_in hF.2 (FI_g hF hi).2 (fun r => 3 + 3 * i + r) (fun r hr => ⟨bN_g hi hr, rfl⟩) (fun r hr => ?_) (fun k hk hne => ?_)
  · rw [bE_g hr, upG_at]
  · unfold bE
    by_cases c0 : k = 0
    · rw [if_pos c0, if_pos c0]
      congr 2
      refine List.map_congr_left (fun j _ => ?_)
      unfold busV
      rw [upG_ne (by omega)]
    · by_cases c1 : k = 1
      · rw [if_neg c0, if_neg c0, if_pos c1, if_pos c1]
      · by_cases c2 : k = 2
        · rw [if_neg c0, if_neg c0, if_neg c1, if_neg c1, if_pos c2, if_pos c2]
        · rw [if_neg c0, if_neg c0, if_neg c1, if_neg c1, if_neg c2, if_neg c2, upG_ne]
          intro z
          exact hne ((k - 3) % 3) (Nat.mod_lt _ (by decide)) (by omega)
section BUS
variable {p : Program} {l : Launch} {e : Env} {R : Room} {s : State} {m : MethodId} {args : Array Value} {below : List Frame} {meth : Method} {c : Code} {H : Heap} {locs : List Loc} {cells slots : Nat} {Q : State → Prop}
variable {cc : ByteArray} {nL pc index : Nat} {ls : Array Slot} {rest : List Value} {own : String} {Z : Zt} {ws : va_W} {q : Nat → Nat} {n cap : Nat} {T : Nat → Nat → Int32} {x : Int32}
theorem b_get (S : CallFix p m c cc nL s args TB own) (hA : Amb Z s) (hF : FI ws (bN n) q) (hW : Wd Z (bw Z ws n cap q T) H) (k : Nat) (h1 : 1 ≤ k) (hk : k < 6) (hl : Cond.fieldLink own index (TX2 k).1 (TX2 k).2.1 (TX2 k).2.2.1 ∈ TB) (hx : T 100 k = x) (hdg : decode cc pc = .ok (.getfield index, 3))
    (kk : W p l e R s m args below meth c H locs cells slots Q (F0 m (pc + 3) ls (.int x :: rest))) : W p l e R s m args below meth c H locs cells slots Q (F0 m pc ls (.ref (q 0) :: rest)) := by
  subst hx
  exact r_get S hA hW (fo_mem (E := bE Z n cap q T) hF 0 (bN_0 n)) (T := TX2) rfl iu_X2 k hk hl ((rm_get hk).trans (by unfold busV; rw [if_neg (by omega)])) hdg kk
theorem b_getL (S : CallFix p m c cc nL s args TB own) (hA : Amb Z s) (hF : FI ws (bN n) q) (hW : Wd Z (bw Z ws n cap q T) H) (hl : Cond.fieldLink own index (TX2 0).1 (TX2 0).2.1 (TX2 0).2.2.1 ∈ TB) (hdg : decode cc pc = .ok (.getfield index, 3))
    (kk : W p l e R s m args below meth c H locs cells slots Q (F0 m (pc + 3) ls (.ref (q 1) :: rest))) : W p l e R s m args below meth c H locs cells slots Q (F0 m pc ls (.ref (q 0) :: rest)) :=
  r_get S hA hW (fo_mem (E := bE Z n cap q T) hF 0 (bN_0 n)) (T := TX2) rfl iu_X2 0 (by decide) hl ((rm_get (by decide)).trans rfl) hdg kk
theorem b_put (S : CallFix p m c cc nL s args TB own) (hA : Amb Z s) (hF : FI ws (bN n) q) (hn16 : n ≤ 16) (hW : Wd Z (bw Z ws n cap q T) H) (hS : va_S (zA Z) s.heap H locs) (k : Nat) (h1 : 1 ≤ k) (hk : k < 6) (hl : Cond.fieldLink own index (TX2 k).1 (TX2 k).2.1 (TX2 k).2.2.1 ∈ TB) (hfin : (TX2 k).2.2.2 = false) (hn : narrow (tyX2 k) (.int x) = .int x) (hfit : fits (tyX2 k) (.int x) = true) (hdg : decode cc pc = .ok (.putfield index, 3))
    (kk : ∀ (H1 : Heap) (locs1 : List Loc), Wd Z (bw Z ws n cap q (up2 T 100 k x)) H1 → va_S (zA Z) s.heap H1 locs1 → W p l e R s m args below meth c H1 locs1 cells slots Q (F0 m (pc + 3) ls rest)) : W p l e R s m args below meth c H locs cells slots Q (F0 m pc ls (.int x :: .ref (q 0) :: rest)) := by
  refine r_put (E' := bE Z n cap q (up2 T 100 k x)) S hA hF hW hS 0 (bN_0 n) bE_0 (T := TX2) rfl iu_X2 tyX2 tyX2_ok nmX2 k hk hl hfin hn hfit (by simpa using hk) ?_ ?_ hdg kk
  · rw [bE_0, rm_set (F := busV q T) (k := k) (v := .int x)]
    intro j
    unfold busV
    by_cases c : j = k
    · subst c
      rw [if_neg (by omega), if_pos rfl, up2_at, upd_eq]
    · rw [if_neg c, up2_at, upd_ne c]
  · intro i hi hne
    unfold bE
    rw [if_neg hne, if_neg hne]
    by_cases c1 : i = 1
    · rw [if_pos c1, if_pos c1]
    · by_cases c2 : i = 2
      · rw [if_neg c1, if_neg c1, if_pos c2, if_pos c2]
      · rw [if_neg c1, if_neg c1, if_neg c2, if_neg c2, up2_ne]
        unfold bN at hi
        split at hi <;> omega
end BUS
set_option maxRecDepth 100000 in
set_option maxHeartbeats 4000000 in
theorem kJ_size (l : Launch) (Z : Zt) (ws : va_W) (n cap : Nat) (q : Nat → Nat) (T : Nat → Nat → Int32) (hF : FI ws (bN n) q) : Ct l Z yJx4a65c_size_8abf5 cJx4a65c_size_8abf5 1 (some .int) 0 0 0 0 (bw Z ws n cap q T) [.ref (q 1)] (fun r w => r = some (.int (nI n)) ∧ w = bw Z ws n cap q T) := by
  refine Ct.start (by decide) (Nat.le_of_ble_eq_true rfl) ?_
  intro p e s m below meth c S hr hlk hnm hA hW hS ls hl
  replace S : CallFix p m c cJx4a65c_size_8abf5 1 s _ TB RJx4a65c := S
  replace hl : lv_has ls 1 [(0, .ref (q 1))] := hl
  refine lv_aload_n S.1 S.2.1 dJx4a65c_size_8abf5_0 rfl (lv_at hl 0 rfl) ?_
  refine r_get S hA hW (fo_mem (E := bE Z n cap q T) hF 1 (bN_1 n)) (T := TJx4a65c) rfl iu_Jx4a65c 2 (by decide) tf_Jx4a65c_48 ((rm_get (by decide)).trans rfl) dJx4a65c_size_8abf5_1 ?_
  exact r_iret S hr hlk hW hS ⟨rfl, rfl⟩ dJx4a65c_size_8abf5_4
set_option maxRecDepth 100000 in
set_option maxHeartbeats 4000000 in
theorem kJ_check3 (l : Launch) (Z : Zt) (ws : va_W) {i n : Nat} (hi : i < n) (hn : n < 2 ^ 31) : Ct l Z yJ3_checkIndex_8e157 cJ3_checkIndex_8e157 3 (some .int) 0 0 0 0 ws [.int (nI i), .int (nI n), .null] (fun r w => r = some (.int (nI i)) ∧ w = ws) := by
  refine Ct.start (by decide) (Nat.le_of_ble_eq_true rfl) ?_
  intro p e s m below meth c S hr hlk hnm hA hW hS ls hl
  replace S : CallFix p m c cJ3_checkIndex_8e157 3 s _ TB RJ3 := S
  replace hl : lv_has ls 3 [(0, .int (nI i)), (1, .int (nI n)), (2, .null)] := hl
  refine lv_iload_n S.1 S.2.1 dJ3_checkIndex_8e157_0 rfl (lv_at hl 0 rfl) ?_
  refine lv_if_lt (tgt := 9) S.1 S.2.1 dJ3_checkIndex_8e157_1 (by decide) (fun c1 => absurd c1 (nI_pos (by omega))) (fun c1 => ?_)
  refine lv_iload_n S.1 S.2.1 dJ3_checkIndex_8e157_4 rfl (lv_at hl 0 rfl) ?_
  refine lv_iload_n S.1 S.2.1 dJ3_checkIndex_8e157_5 rfl (lv_at hl 1 rfl) ?_
  refine lv_icmp_lt (tgt := 16) S.1 S.2.1 dJ3_checkIndex_8e157_6 (by decide) (fun c2 => ?_) (fun c2 => absurd (nI_lt hi hn) c2)
  refine lv_iload_n S.1 S.2.1 dJ3_checkIndex_8e157_16 rfl (lv_at hl 0 rfl) ?_
  exact r_iret S hr hlk hW hS ⟨rfl, rfl⟩ dJ3_checkIndex_8e157_17
set_option maxRecDepth 100000 in
set_option maxHeartbeats 4000000 in
theorem kJ_check15 (l : Launch) (Z : Zt) (ws : va_W) {i n : Nat} (hi : i < n) (hn : n < 2 ^ 31) : Ct l Z yJ15_checkIndex_7cf53 cJ15_checkIndex_7cf53 2 (some .int) 1 22 0 0 ws [.int (nI i), .int (nI n)] (fun r w => r = some (.int (nI i)) ∧ w = ws) := by
  refine Ct.start (by decide) (Nat.le_of_ble_eq_true rfl) ?_
  intro p e s m below meth c S hr hlk hnm hA hW hS ls hl
  replace S : CallFix p m c cJ15_checkIndex_7cf53 2 s _ TB RJ15 := S
  replace hl : lv_has ls 2 [(0, .int (nI i)), (1, .int (nI n))] := hl
  refine lv_iload_n S.1 S.2.1 dJ15_checkIndex_7cf53_0 rfl (lv_at hl 0 rfl) ?_
  refine lv_iload_n S.1 S.2.1 dJ15_checkIndex_7cf53_1 rfl (lv_at hl 1 rfl) ?_
  refine lv_null S.1 S.2.1 dJ15_checkIndex_7cf53_2 ?_
  refine c_S S hA hW hS (kJ_check3 l Z ws hi hn) ok_J3_checkIndex_8e157 tm_J15_105 ts_J3_checkIndex_8e157 ⟨Nat.le_of_ble_eq_true rfl, Nat.le_of_ble_eq_true rfl⟩ rfl hl.1 rfl (Nat.le_of_ble_eq_true rfl) dJ15_checkIndex_7cf53_3 ⟨Nat.le_of_ble_eq_true rfl, Nat.le_of_ble_eq_true rfl⟩ (kk_i fun H locs hW hS => ?_)
  exact r_iret S hr hlk hW hS ⟨rfl, rfl⟩ dJ15_checkIndex_7cf53_6
theorem kk_r {p : Program} {l : Launch} {e : Env} {R : Room} {s : State} {m : MethodId} {args : Array Value} {below : List Frame} {meth : Method} {c : Code} {cells slots : Nat} {Q : State → Prop} {pc : Nat} {ls : Array Slot} {rest : List Value} {Z : Zt} {w' : va_W} {v : Nat} (k : ∀ (H1 : Heap) (locs1 : List Loc), Wd Z w' H1 → va_S (zA Z) s.heap H1 locs1 → W p l e R s m args below meth c H1 locs1 cells slots Q (F0 m pc ls (.ref v :: rest))) : ∀ (r : Option Value) (w : va_W) (H1 : Heap) (locs1 : List Loc), (r = some (.ref v) ∧ w = w') → Wd Z w H1 → va_S (zA Z) s.heap H1 locs1 → W p l e R s m args below meth c H1 locs1 cells slots Q (F0 m pc ls (r.toList ++ rest)) := by
  rintro r w H1 locs1 ⟨rfl, rfl⟩ h1 h2
  exact k H1 locs1 h1 h2
set_option maxRecDepth 100000 in
set_option maxHeartbeats 4000000 in
theorem kJ_elem (l : Launch) (Z : Zt) (ws : va_W) (n cap : Nat) (q : Nat → Nat) (T : Nat → Nat → Int32) (hF : FI ws (bN n) q) (hcap : n ≤ cap) (hcap2 : cap < 2 ^ 31) {i : Nat} (hi : i < n) : Ct l Z yJx4a65c_elementData_915e3 cJx4a65c_elementData_915e3 2 (some (.object "java/lang/Object")) 0 0 0 0 (bw Z ws n cap q T) [.ref (q 1), .int (nI i)] (fun r w => r = some (.ref (qg q i 0)) ∧ w = bw Z ws n cap q T) := by
  refine Ct.start (by decide) (Nat.le_of_ble_eq_true rfl) ?_
  intro p e s m below meth c S hr hlk hnm hA hW hS ls hl
  replace S : CallFix p m c cJx4a65c_elementData_915e3 2 s _ TB RJx4a65c := S
  replace hl : lv_has ls 2 [(0, .ref (q 1)), (1, .int (nI i))] := hl
  refine lv_aload_n S.1 S.2.1 dJx4a65c_elementData_915e3_0 rfl (lv_at hl 0 rfl) ?_
  refine r_get (v := .ref (q 2)) S hA hW (fo_mem (E := bE Z n cap q T) hF 1 (bN_1 n)) (T := TJx4a65c) rfl iu_Jx4a65c 1 (by decide) tf_Jx4a65c_9 ((rm_get (by decide)).trans (by unfold listV; rw [if_pos rfl, if_neg (by omega)])) dJx4a65c_elementData_915e3_1 ?_
  refine lv_iload_n S.1 S.2.1 dJx4a65c_elementData_915e3_4 rfl (lv_at hl 1 rfl) ?_
  obtain ⟨k, hk⟩ := List.getElem?_of_mem (fo_mem (E := bE Z n cap q T) hF 2 (bN_2 hi))
  refine va_aldq (C := "java/lang/Object") S.1 S.2.1 hA.1 hW.1 k 2 hk rfl (vp_in_nI (Nat.lt_of_lt_of_le hi hcap) hcap2) dJx4a65c_elementData_915e3_5 ?_
  rw [nI_clamp (by omega), show arrF n q i = some (q (3 + 3 * i)) by unfold arrF; rw [if_pos hi]]
  exact r_aret S hr (Or.inl ⟨_, rfl⟩) hlk hW hS ⟨rfl, rfl⟩ dJx4a65c_elementData_915e3_6
set_option maxRecDepth 100000 in
set_option maxHeartbeats 4000000 in
theorem kJ_get (l : Launch) (Z : Zt) (ws : va_W) (n cap : Nat) (q : Nat → Nat) (T : Nat → Nat → Int32) (hF : FI ws (bN n) q) (hcap : n ≤ cap) (hcap2 : cap < 2 ^ 31) {i : Nat} (hi : i < n) : Ct l Z yJx4a65c_get_915e3 cJx4a65c_get_915e3 2 (some (.object "java/lang/Object")) 2 43 0 0 (bw Z ws n cap q T) [.ref (q 1), .int (nI i)] (fun r w => r = some (.ref (qg q i 0)) ∧ w = bw Z ws n cap q T) := by
  refine Ct.start (by decide) (Nat.le_of_ble_eq_true rfl) ?_
  intro p e s m below meth c S hr hlk hnm hA hW hS ls hl
  replace S : CallFix p m c cJx4a65c_get_915e3 2 s _ TB RJx4a65c := S
  replace hl : lv_has ls 2 [(0, .ref (q 1)), (1, .int (nI i))] := hl
  refine lv_iload_n S.1 S.2.1 dJx4a65c_get_915e3_0 rfl (lv_at hl 1 rfl) ?_
  refine lv_aload_n S.1 S.2.1 dJx4a65c_get_915e3_1 rfl (lv_at hl 0 rfl) ?_
  refine r_get (v := .int (nI n)) S hA hW (fo_mem (E := bE Z n cap q T) hF 1 (bN_1 n)) (T := TJx4a65c) rfl iu_Jx4a65c 2 (by decide) tf_Jx4a65c_48 ((rm_get (by decide)).trans rfl) dJx4a65c_get_915e3_2 ?_
  refine c_S S hA hW hS (kJ_check15 l Z _ hi (by omega)) ok_J15_checkIndex_7cf53 tm_Jx4a65c_118 ts_J15_checkIndex_7cf53 ⟨Nat.le_of_ble_eq_true rfl, Nat.le_of_ble_eq_true rfl⟩ rfl hl.1 rfl (Nat.le_of_ble_eq_true rfl) dJx4a65c_get_915e3_5 ⟨Nat.le_of_ble_eq_true rfl, Nat.le_of_ble_eq_true rfl⟩ (kk_i fun H locs hW hS => ?_)
  refine lv_pop S.1 S.2.1 dJx4a65c_get_915e3_8 rfl ?_
  refine lv_aload_n S.1 S.2.1 dJx4a65c_get_915e3_9 rfl (lv_at hl 0 rfl) ?_
  refine lv_iload_n S.1 S.2.1 dJx4a65c_get_915e3_10 rfl (lv_at hl 1 rfl) ?_
  refine c_V S hA hW hS (kJ_elem l Z ws n cap q T hF hcap hcap2 hi) ok_Jx4a65c_elementData_915e3 tm_Jx4a65c_123 tn_Jx4a65c_elementData_915e3 tl_Jx4a65c_elementData_915e3 (fo_mem (E := bE Z n cap q T) hF 1 (bN_1 n)) rfl rfl ⟨Nat.le_of_ble_eq_true rfl, Nat.le_of_ble_eq_true rfl⟩ rfl hl.1 rfl (Nat.le_of_ble_eq_true rfl) dJx4a65c_get_915e3_11 ⟨Nat.le_of_ble_eq_true rfl, Nat.le_of_ble_eq_true rfl⟩ (kk_r fun H locs hW hS => ?_)
  exact r_aret S hr (Or.inl ⟨_, rfl⟩) hlk hW hS ⟨rfl, rfl⟩ dJx4a65c_get_915e3_14
theorem b_cast {p : Program} {l : Launch} {e : Env} {R : Room} {s : State} {m : MethodId} {args : Array Value} {below : List Frame} {meth : Method} {c : Code} {H : Heap} {locs : List Loc} {cells slots : Nat} {Q : State → Prop} {cc : ByteArray} {nL pc index : Nat} {ls : Array Slot} {rest : List Value} {own : String} {Z : Zt} {ws : va_W} {q : Nat → Nat} {n cap : Nat} {T : Nat → Nat → Int32} (S : CallFix p m c cc nL s args TB own) (hA : Amb Z s) (hF : FI ws (bN n) q) {i : Nat} (hi : i < n) (hW : Wd Z (bw Z ws n cap q T) H) (hl : Cond.classLink own index RX0 ∈ TB) (hdg : decode cc pc = .ok (.checkcast index, 3))
    (kk : W p l e R s m args below meth c H locs cells slots Q (F0 m (pc + 3) ls (.ref (qg q i 0) :: rest))) : W p l e R s m args below meth c H locs cells slots Q (F0 m pc ls (.ref (qg q i 0) :: rest)) := by
  have h := fo_mem (E := bE Z n cap q T) hF _ (bN_g hi (r := 0) (by decide))
  rw [bE_g (by decide)] at h
  obtain ⟨k, hk⟩ := List.getElem?_of_mem h
  exact va_castY S.1 S.2.1 S.2.2.2.1 (S.2.2.2.2 _ hl) (hA.2.1 _ nc_X0_X0) (va_recv hA.1 hW.1 (ci := 1) rfl hk) hdg kk
/-- what every method of the bus asks of its cells -/
def BK (ws : va_W) (n cap : Nat) (q : Nat → Nat) : Prop := FI ws (bN n) q ∧ n ≤ 16 ∧ n ≤ cap ∧ cap < 1000
