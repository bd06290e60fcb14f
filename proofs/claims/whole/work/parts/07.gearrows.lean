/-! ONE GEAR: three cells (gear, lamp, scenes) and their numbers G: 0..8 the lamp's fields, 9..18 the gear's, 32.. its scenes -/
theorem rm_get {N k : Nat} {F : Nat → Value} (h : k < N) : ((List.range N).map F)[k]? = some (F k) := by
  simp [List.getElem?_map, List.getElem?_range, h]
theorem rm_len {N : Nat} {F : Nat → Value} : ((List.range N).map F).length = N := by simp
theorem rm_set {N k : Nat} {F F' : Nat → Value} {v : Value} (h : ∀ j, F' j = if j = k then v else F j) : (List.range N).map F' = ((List.range N).map F).set k v := by
  apply List.ext_getElem?
  intro j
  by_cases c : j < N
  · by_cases d : k = j
    · subst d
      rw [rm_get c, List.getElem?_set_self (by simpa using c), h, if_pos rfl]
    · rw [rm_get c, List.getElem?_set_ne d, rm_get c, h, if_neg (fun z => d z.symm)]
  · have h1 : ((List.range N).map F')[j]? = none := List.getElem?_eq_none (by simpa using c)
    have h2 : (((List.range N).map F).set k v)[j]? = none := List.getElem?_eq_none (by simpa using c)
    rw [h1, h2]
def lampV (G : Nat → Int32) (k : Nat) : Value := .int (G k)
def gearV (q : Nat → Nat) (G : Nat → Int32) (k : Nat) : Value := if k = 0 then .ref (q 1) else if k = 1 then .ref (q 2) else .int (G (k + 7))
def gE (Z : Zt) (q : Nat → Nat) (G : Nat → Int32) (k : Nat) : va_E :=
  if k = 0 then .inr (1, (List.range 12).map (gearV q G)) else if k = 1 then .inr (2, (List.range 9).map (lampV G)) else .inl (zI Z, 16, .inl (fun j => G (32 + j)))
noncomputable abbrev gw (Z : Zt) (ws : va_W) (q : Nat → Nat) (G : Nat → Int32) : va_W := fo ws 3 q (gE Z q G)
theorem gE_0 {Z : Zt} {q : Nat → Nat} {G : Nat → Int32} : gE Z q G 0 = .inr (1, (List.range 12).map (gearV q G)) := rfl
theorem gE_1 {Z : Zt} {q : Nat → Nat} {G : Nat → Int32} : gE Z q G 1 = .inr (2, (List.range 9).map (lampV G)) := rfl
theorem gE_2 {Z : Zt} {q : Nat → Nat} {G : Nat → Int32} : gE Z q G 2 = .inl (zI Z, 16, .inl (fun j => G (32 + j))) := rfl
/-- the three cells, said of two numberings that agree on their part -/
theorem gE_eq {Z : Zt} {q : Nat → Nat} {G G' : Nat → Int32} (j : Nat) (hj : j < 3) (h0 : j = 0 → ∀ k, 9 ≤ k → k < 19 → G' k = G k) (h1 : j = 1 → ∀ k, k < 9 → G' k = G k) (h2 : j = 2 → ∀ k, 32 ≤ k → G' k = G k) : gE Z q G' j = gE Z q G j := by
  rcases (show j = 0 ∨ j = 1 ∨ j = 2 by omega) with rfl | rfl | rfl
  · rw [gE_0, gE_0]
    congr 2
    refine List.map_congr_left (fun k hk => ?_)
    have hk := List.mem_range.mp hk
    unfold gearV
    by_cases c : k = 0
    · rw [if_pos c, if_pos c]
    · by_cases d : k = 1
      · rw [if_neg c, if_neg c, if_pos d, if_pos d]
      · rw [if_neg c, if_neg c, if_neg d, if_neg d, h0 rfl _ (by omega) (by omega)]
  · rw [gE_1, gE_1]
    congr 2
    refine List.map_congr_left (fun k hk => ?_)
    unfold lampV
    rw [h1 rfl _ (List.mem_range.mp hk)]
  · rw [gE_2, gE_2]
    congr 4
    funext j
    exact h2 rfl _ (by omega)
theorem upd_ne {G : Nat → Int32} {k j : Nat} {x : Int32} (h : j ≠ k) : upd G k x j = G j := by unfold upd; rw [if_neg h]
theorem upd_eq {G : Nat → Int32} {k : Nat} {x : Int32} : upd G k x k = x := by unfold upd; rw [if_pos rfl]
theorem gE_oL {Z : Zt} {q : Nat → Nat} {G : Nat → Int32} {k : Nat} {x : Int32} (hk : k < 9) : ∀ i, i < 3 → i ≠ 1 → gE Z q (upd G k x) i = gE Z q G i := fun i hi hn =>
  gE_eq i hi (fun _ j h1 h2 => upd_ne (by omega)) (fun e => absurd e hn) (fun _ j h1 => upd_ne (by omega))
theorem gE_oG {Z : Zt} {q : Nat → Nat} {G : Nat → Int32} {k : Nat} {x : Int32} (hk : 2 ≤ k) (hk2 : k < 12) : ∀ i, i < 3 → i ≠ 0 → gE Z q (upd G (k + 7) x) i = gE Z q G i := fun i hi hn =>
  gE_eq i hi (fun e => absurd e hn) (fun _ j h1 => upd_ne (by omega)) (fun _ j h1 => upd_ne (by omega))
theorem gE_oS {Z : Zt} {q : Nat → Nat} {G : Nat → Int32} {k : Nat} {x : Int32} : ∀ i, i < 3 → i ≠ 2 → gE Z q (upd G (32 + k) x) i = gE Z q G i := fun i hi hn =>
  gE_eq i hi (fun _ j h1 h2 => upd_ne (by omega)) (fun _ j h1 => upd_ne (by omega)) (fun e => absurd e hn)
theorem gE_sL {Z : Zt} {q : Nat → Nat} {G : Nat → Int32} {k : Nat} {x : Int32} : gE Z q (upd G k x) 1 = .inr (2, ((List.range 9).map (lampV G)).set k (.int x)) := by
  rw [gE_1, rm_set (F := lampV G) (k := k) (v := .int x)]
  intro j
  unfold lampV upd
  by_cases c : j = k
  · rw [if_pos c, if_pos c]
  · rw [if_neg c, if_neg c]
theorem gE_sG {Z : Zt} {q : Nat → Nat} {G : Nat → Int32} {k : Nat} {x : Int32} (hk : 2 ≤ k) : gE Z q (upd G (k + 7) x) 0 = .inr (1, ((List.range 12).map (gearV q G)).set k (.int x)) := by
  rw [gE_0, rm_set (F := gearV q G) (k := k) (v := .int x)]
  intro j
  unfold gearV upd
  by_cases c : j = k
  · rw [if_neg (by omega), if_neg (by omega), if_pos (by omega), if_pos c]
  · rw [if_neg (show ¬ j + 7 = k + 7 by omega), if_neg c]
theorem gE_sS {Z : Zt} {q : Nat → Nat} {G : Nat → Int32} {k : Nat} {x : Int32} : gE Z q (upd G (32 + k) x) 2 = .inl (zI Z, 16, .inl (upd (fun j => G (32 + j)) k x)) := by
  rw [gE_2]
  congr 4
  funext j
  unfold upd
  by_cases c : j = k
  · rw [if_pos (by omega), if_pos c]
  · rw [if_neg (by omega), if_neg c]
section GEAR
variable {p : Program} {l : Launch} {e : Env} {R : Room} {s : State} {m : MethodId} {args : Array Value} {below : List Frame} {meth : Method} {c : Code} {H : Heap} {locs : List Loc} {cells slots : Nat} {Q : State → Prop}
variable {cc : ByteArray} {nL pc index : Nat} {ls : Array Slot} {rest : List Value} {own host : String} {Z : Zt} {ws : va_W} {q : Nat → Nat} {G : Nat → Int32} {x : Int32}
theorem g_getL (S : CallFix p m c cc nL s args TB own) (hA : Amb Z s) (hF : FI ws 3 q) (hW : Wd Z (gw Z ws q G) H) (k : Nat) (hk : k < 9) (hl : Cond.fieldLink own index (TX1 k).1 (TX1 k).2.1 (TX1 k).2.2.1 ∈ TB) (hx : G k = x) (hdg : decode cc pc = .ok (.getfield index, 3))
    (kk : W p l e R s m args below meth c H locs cells slots Q (F0 m (pc + 3) ls (.int x :: rest))) : W p l e R s m args below meth c H locs cells slots Q (F0 m pc ls (.ref (q 1) :: rest)) := by
  subst hx
  exact r_get S hA hW (fo_mem hF 1 (by decide)) (T := TX1) rfl iu_X1 k hk hl (rm_get hk) hdg kk
theorem g_getLN (S : CallFix p m c cc nL s args TB own) (hA : Amb Z s) (hF : FI ws 3 q) (hW : Wd Z (gw Z ws q G) H) (k : Nat) (hk : k < 9) (hl : Cond.fieldLinkNest own index (TX1 k).1 (TX1 k).2.1 (TX1 k).2.2.1 host ∈ NW) (hx : G k = x) (hdg : decode cc pc = .ok (.getfield index, 3))
    (kk : W p l e R s m args below meth c H locs cells slots Q (F0 m (pc + 3) ls (.int x :: rest))) : W p l e R s m args below meth c H locs cells slots Q (F0 m pc ls (.ref (q 1) :: rest)) := by
  subst hx
  exact r_getN S hA hW (fo_mem hF 1 (by decide)) (T := TX1) rfl iu_X1 k hk hl (rm_get hk) hdg kk
theorem g_getG (S : CallFix p m c cc nL s args TB own) (hA : Amb Z s) (hF : FI ws 3 q) (hW : Wd Z (gw Z ws q G) H) (k : Nat) (h2 : 2 ≤ k) (hk : k < 12) (hl : Cond.fieldLink own index (TX0 k).1 (TX0 k).2.1 (TX0 k).2.2.1 ∈ TB) (hx : G (k + 7) = x) (hdg : decode cc pc = .ok (.getfield index, 3))
    (kk : W p l e R s m args below meth c H locs cells slots Q (F0 m (pc + 3) ls (.int x :: rest))) : W p l e R s m args below meth c H locs cells slots Q (F0 m pc ls (.ref (q 0) :: rest)) := by
  subst hx
  exact r_get S hA hW (fo_mem hF 0 (by decide)) (T := TX0) rfl iu_X0 k hk hl ((rm_get hk).trans (by unfold gearV; rw [if_neg (by omega), if_neg (by omega)])) hdg kk
theorem g_getGN (S : CallFix p m c cc nL s args TB own) (hA : Amb Z s) (hF : FI ws 3 q) (hW : Wd Z (gw Z ws q G) H) (k : Nat) (h2 : 2 ≤ k) (hk : k < 12) (hl : Cond.fieldLinkNest own index (TX0 k).1 (TX0 k).2.1 (TX0 k).2.2.1 host ∈ NW) (hx : G (k + 7) = x) (hdg : decode cc pc = .ok (.getfield index, 3))
    (kk : W p l e R s m args below meth c H locs cells slots Q (F0 m (pc + 3) ls (.int x :: rest))) : W p l e R s m args below meth c H locs cells slots Q (F0 m pc ls (.ref (q 0) :: rest)) := by
  subst hx
  exact r_getN S hA hW (fo_mem hF 0 (by decide)) (T := TX0) rfl iu_X0 k hk hl ((rm_get hk).trans (by unfold gearV; rw [if_neg (by omega), if_neg (by omega)])) hdg kk
theorem g_getR (S : CallFix p m c cc nL s args TB own) (hA : Amb Z s) (hF : FI ws 3 q) (hW : Wd Z (gw Z ws q G) H) (k : Nat) (hk : k < 2) (hl : Cond.fieldLink own index (TX0 k).1 (TX0 k).2.1 (TX0 k).2.2.1 ∈ TB) (hdg : decode cc pc = .ok (.getfield index, 3))
    (kk : W p l e R s m args below meth c H locs cells slots Q (F0 m (pc + 3) ls (.ref (q (k + 1)) :: rest))) : W p l e R s m args below meth c H locs cells slots Q (F0 m pc ls (.ref (q 0) :: rest)) :=
  r_get S hA hW (fo_mem hF 0 (by decide)) (T := TX0) rfl iu_X0 k (by omega) hl ((rm_get (by omega)).trans (by rcases (show k = 0 ∨ k = 1 by omega) with rfl | rfl <;> rfl)) hdg kk
theorem g_getRN (S : CallFix p m c cc nL s args TB own) (hA : Amb Z s) (hF : FI ws 3 q) (hW : Wd Z (gw Z ws q G) H) (k : Nat) (hk : k < 2) (hl : Cond.fieldLinkNest own index (TX0 k).1 (TX0 k).2.1 (TX0 k).2.2.1 host ∈ NW) (hdg : decode cc pc = .ok (.getfield index, 3))
    (kk : W p l e R s m args below meth c H locs cells slots Q (F0 m (pc + 3) ls (.ref (q (k + 1)) :: rest))) : W p l e R s m args below meth c H locs cells slots Q (F0 m pc ls (.ref (q 0) :: rest)) :=
  r_getN S hA hW (fo_mem hF 0 (by decide)) (T := TX0) rfl iu_X0 k (by omega) hl ((rm_get (by omega)).trans (by rcases (show k = 0 ∨ k = 1 by omega) with rfl | rfl <;> rfl)) hdg kk
theorem g_putL (S : CallFix p m c cc nL s args TB own) (hA : Amb Z s) (hF : FI ws 3 q) (hW : Wd Z (gw Z ws q G) H) (hS : va_S (zA Z) s.heap H locs) (k : Nat) (hk : k < 9) (hl : Cond.fieldLink own index (TX1 k).1 (TX1 k).2.1 (TX1 k).2.2.1 ∈ TB) (hfin : (TX1 k).2.2.2 = false) (hn : narrow (tyX1 k) (.int x) = .int x) (hfit : fits (tyX1 k) (.int x) = true) (hdg : decode cc pc = .ok (.putfield index, 3))
    (kk : ∀ (H1 : Heap) (locs1 : List Loc), Wd Z (gw Z ws q (upd G k x)) H1 → va_S (zA Z) s.heap H1 locs1 → W p l e R s m args below meth c H1 locs1 cells slots Q (F0 m (pc + 3) ls rest)) : W p l e R s m args below meth c H locs cells slots Q (F0 m pc ls (.int x :: .ref (q 1) :: rest)) :=
  r_put S hA hF hW hS 1 (by decide) gE_1 (T := TX1) rfl iu_X1 tyX1 tyX1_ok nmX1 k hk hl hfin hn hfit (by simpa using hk) gE_sL (gE_oL hk) hdg kk
theorem g_putG (S : CallFix p m c cc nL s args TB own) (hA : Amb Z s) (hF : FI ws 3 q) (hW : Wd Z (gw Z ws q G) H) (hS : va_S (zA Z) s.heap H locs) (k : Nat) (h2 : 2 ≤ k) (hk : k < 12) (hl : Cond.fieldLink own index (TX0 k).1 (TX0 k).2.1 (TX0 k).2.2.1 ∈ TB) (hfin : (TX0 k).2.2.2 = false) (hn : narrow (tyX0 k) (.int x) = .int x) (hfit : fits (tyX0 k) (.int x) = true) (hdg : decode cc pc = .ok (.putfield index, 3))
    (kk : ∀ (H1 : Heap) (locs1 : List Loc), Wd Z (gw Z ws q (upd G (k + 7) x)) H1 → va_S (zA Z) s.heap H1 locs1 → W p l e R s m args below meth c H1 locs1 cells slots Q (F0 m (pc + 3) ls rest)) : W p l e R s m args below meth c H locs cells slots Q (F0 m pc ls (.int x :: .ref (q 0) :: rest)) :=
  r_put S hA hF hW hS 0 (by decide) gE_0 (T := TX0) rfl iu_X0 tyX0 tyX0_ok nmX0 k hk hl hfin hn hfit (by simpa using hk) (gE_sG h2) (gE_oG h2 hk) hdg kk
theorem g_putGN (S : CallFix p m c cc nL s args TB own) (hA : Amb Z s) (hF : FI ws 3 q) (hW : Wd Z (gw Z ws q G) H) (hS : va_S (zA Z) s.heap H locs) (k : Nat) (h2 : 2 ≤ k) (hk : k < 12) (hl : Cond.fieldLinkNest own index (TX0 k).1 (TX0 k).2.1 (TX0 k).2.2.1 host ∈ NW) (hfin : (TX0 k).2.2.2 = false) (hn : narrow (tyX0 k) (.int x) = .int x) (hfit : fits (tyX0 k) (.int x) = true) (hdg : decode cc pc = .ok (.putfield index, 3))
    (kk : ∀ (H1 : Heap) (locs1 : List Loc), Wd Z (gw Z ws q (upd G (k + 7) x)) H1 → va_S (zA Z) s.heap H1 locs1 → W p l e R s m args below meth c H1 locs1 cells slots Q (F0 m (pc + 3) ls rest)) : W p l e R s m args below meth c H locs cells slots Q (F0 m pc ls (.int x :: .ref (q 0) :: rest)) :=
  r_putN S hA hF hW hS 0 (by decide) gE_0 (T := TX0) rfl iu_X0 tyX0 tyX0_ok nmX0 k hk hl hfin hn hfit (by simpa using hk) (gE_sG h2) (gE_oG h2 hk) hdg kk
theorem g_ald (S : CallFix p m c cc nL s args TB own) (hA : Amb Z s) (hF : FI ws 3 q) (hW : Wd Z (gw Z ws q G) H) {i : Int32} (hin : vp_in i 16) (hx : G (32 + i.toNatClampNeg) = x) (hdg : decode cc pc = .ok (.iaload, 1))
    (kk : W p l e R s m args below meth c H locs cells slots Q (F0 m (pc + 1) ls (.int x :: rest))) : W p l e R s m args below meth c H locs cells slots Q (F0 m pc ls (.int i :: .ref (q 2) :: rest)) :=
  r_iald S hA hW (fo_mem (E := gE Z q G) hF 2 (by decide)) hin hx hdg kk
theorem g_ast (S : CallFix p m c cc nL s args TB own) (hA : Amb Z s) (hF : FI ws 3 q) (hW : Wd Z (gw Z ws q G) H) (hS : va_S (zA Z) s.heap H locs) {i : Int32} (hin : vp_in i 16) (hdg : decode cc pc = .ok (.iastore, 1))
    (kk : ∀ (H1 : Heap) (locs1 : List Loc), Wd Z (gw Z ws q (upd G (32 + i.toNatClampNeg) x)) H1 → va_S (zA Z) s.heap H1 locs1 → W p l e R s m args below meth c H1 locs1 cells slots Q (F0 m (pc + 1) ls rest)) : W p l e R s m args below meth c H locs cells slots Q (F0 m pc ls (.int x :: .int i :: .ref (q 2) :: rest)) :=
  r_iast S hA hF hW hS 2 (by decide) gE_2 hin gE_sS gE_oS hdg kk
/-- what a call comes back with -/
theorem kk_i {w' : va_W} {v : Int32} (k : ∀ (H1 : Heap) (locs1 : List Loc), Wd Z w' H1 → va_S (zA Z) s.heap H1 locs1 → W p l e R s m args below meth c H1 locs1 cells slots Q (F0 m pc ls (.int v :: rest))) : ∀ (r : Option Value) (w : va_W) (H1 : Heap) (locs1 : List Loc), (r = some (.int v) ∧ w = w') → Wd Z w H1 → va_S (zA Z) s.heap H1 locs1 → W p l e R s m args below meth c H1 locs1 cells slots Q (F0 m pc ls (r.toList ++ rest)) := by
  rintro r w H1 locs1 ⟨rfl, rfl⟩ h1 h2
  exact k H1 locs1 h1 h2
theorem kk_v {w' : va_W} (k : ∀ (H1 : Heap) (locs1 : List Loc), Wd Z w' H1 → va_S (zA Z) s.heap H1 locs1 → W p l e R s m args below meth c H1 locs1 cells slots Q (F0 m pc ls rest)) : ∀ (r : Option Value) (w : va_W) (H1 : Heap) (locs1 : List Loc), (r = none ∧ w = w') → Wd Z w H1 → va_S (zA Z) s.heap H1 locs1 → W p l e R s m args below meth c H1 locs1 cells slots Q (F0 m pc ls (r.toList ++ rest)) := by
  rintro r w H1 locs1 ⟨rfl, rfl⟩ h1 h2
  exact k H1 locs1 h1 h2
/-- where the value is none of the cases -/
theorem sw_tab {dflt lo hi : Int} {offs : Array Int} {len tgt : Nat} (L : List Int32) (hexec : p.tables.exec = Jvm.exec) (hb : c.code = cc) (hdg : decode cc pc = .ok (.tableswitch dflt lo hi offs, len)) (ht : (pc : Int) + dflt = (tgt : Int)) (hL : ∀ v ∈ L, ¬ x = v) (ho : ((List.range (hi - lo + 1).toNat).all fun i => offs[i]? == some dflt || L.contains (Int32.ofInt (lo + i))) = true)
    (k : W p l e R s m args below meth c H locs cells slots Q (F0 m tgt ls rest)) : W p l e R s m args below meth c H locs cells slots Q (F0 m pc ls (.int x :: rest)) := by
  by_cases h1 : x.toInt < lo
  · exact lv_tableOut hexec hb hdg (Or.inl h1) ht k
  · by_cases h2 : hi < x.toInt
    · exact lv_tableOut hexec hb hdg (Or.inr h2) ht k
    · refine lv_tableIn (off := dflt) hexec hb hdg h1 h2 ?_ ht k
      have h3 := List.all_eq_true.mp ho (x.toInt - lo).toNat (List.mem_range.mpr (by omega))
      rcases (Bool.or_eq_true _ _).mp h3 with h | h
      · exact eq_of_beq h
      · have e : lo + (((x.toInt - lo).toNat : Nat) : Int) = x.toInt := by omega
        rw [e, Int32.ofInt_toInt] at h
        exact absurd rfl (hL x (List.contains_iff_mem.mp h))
theorem sw_lookD {dflt : Int} {ps : List (Int × Int)} (L : List Int32) (hL : ∀ v ∈ L, ¬ x = v) (ho : ps.all (fun a => L.contains (Int32.ofInt a.1)) = true) : Op.lookupswitch.offset ps dflt x.toInt = dflt := by
  induction ps with
  | nil => rfl
  | cons a r ih =>
    obtain ⟨a, o⟩ := a
    rw [Op.lookupswitch.offset_cons]
    have h := List.all_eq_true.mp ho (a, o) List.mem_cons_self
    rw [if_neg, ih (List.all_eq_true.mpr fun y hy => List.all_eq_true.mp ho y (List.mem_cons_of_mem _ hy))]
    intro z
    subst z
    rw [Int32.ofInt_toInt] at h
    exact absurd rfl (hL x (List.contains_iff_mem.mp h))
theorem sw_look {dflt : Int} {ps : Array (Int × Int)} {len tgt : Nat} (L : List Int32) (hexec : p.tables.exec = Jvm.exec) (hb : c.code = cc) (hdg : decode cc pc = .ok (.lookupswitch dflt ps, len)) (hp : (ps.toList.zip (ps.toList.drop 1)).all (fun (a, next) => a.1 < next.1) = true) (ht : (pc : Int) + dflt = (tgt : Int)) (hL : ∀ v ∈ L, ¬ x = v) (ho : ps.toList.all (fun a => L.contains (Int32.ofInt a.1)) = true)
    (k : W p l e R s m args below meth c H locs cells slots Q (F0 m tgt ls rest)) : W p l e R s m args below meth c H locs cells slots Q (F0 m pc ls (.int x :: rest)) :=
  lv_lookup hexec hb hdg hp (sw_lookD L hL ho) ht k
theorem and15 (x : Int32) : vp_in (x &&& 15) 16 := pk_andIn x 4 (by decide) (by decide)
end GEAR
