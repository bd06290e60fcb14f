/-! THE WORLD: one list of cells; families of cells overlaid on it by number -/
abbrev vwCl : List vw_C := [(RJx4a65c, TJx4a65c, 3), (RX0, TX0, 12), (RX1, TX1, 9), (RX2, TX2, 6), (RX3, TX3, 30)]
def TB : List Cond := lw_tbl.filter goodWord
theorem TB_good : ∀ w ∈ TB, (w.onTables && w.keeps) = true ∨ ∃ ty, w = .arrayClass ty := fun w h => good_of_word (List.mem_filter.mp h).2
def wz (y : MethodName) (cc : ByteArray) (n : Nat) (r : Option FieldType) : List Cond := .code y cc n r :: TB
theorem wz_good {y : MethodName} {cc : ByteArray} {n : Nat} {r : Option FieldType} (h : Cond.code y cc n r ∈ TB) : GoodIn TB (wz y cc n r) := fun w hw =>
  (List.mem_cons.mp hw).elim (fun e => by subst e; exact ⟨h, TB_good _ h⟩) (fun h => ⟨h, TB_good _ h⟩)
theorem wz_hts {y : MethodName} {cc : ByteArray} {n : Nat} {r : Option FieldType} {args : Array Value} {s : State} (h : ∀ w ∈ wz y cc n r, w.before args s = true) : ∀ w ∈ TB, w.before args s = true := fun w hw => h w (List.mem_cons_of_mem _ hw)
theorem TB_tbl : ∀ w ∈ TB, w ∈ lw_tbl := fun w h => (List.mem_filter.mp h).1
/-- words that hold at every warmed state, though they do not go along with calls by themselves -/
def isNw : Cond → Bool
  | .fieldLinkNest .. => true
  | .methodLinkNest .. => true
  | .castable .. => true
  | _ => false
def NW : List Cond := lw_tbl.filter isNw
theorem nw_on {w : Cond} (h : isNw w = true) : w.onTables = true := by
  cases w <;> first | rfl | (simp [isNw] at h)
theorem nw_warm {w : Cond} (h : isNw w = true) {s U : State} (hW : s.WarmedH U.vm) (hZ : va_Nw w s) : va_Nw w U := by
  cases w <;> first | exact va_Nw.warmF hW hZ | exact va_Nw.warmM hW hZ | exact va_Nw.warmC hW hZ | (simp [isNw] at h)
/-- what stays the same all along: tables of classes, the classes of arrays, where the start's heap ends, the addresses of the two static tables and of the empty array -/
abbrev Zt : Type := va_G × ClassId × ClassId × ClassId × Nat × Nat × Nat × Nat × Nat
def zD (Z : Zt) : va_G := Z.1
def zI (Z : Zt) : ClassId := Z.2.1
def zZ (Z : Zt) : ClassId := Z.2.2.1
def zO (Z : Zt) : ClassId := Z.2.2.2.1
def zN (Z : Zt) : Nat := Z.2.2.2.2.1
def zT (Z : Zt) : Nat := Z.2.2.2.2.2.1
def zR (Z : Zt) : Nat := Z.2.2.2.2.2.2.1
def zE (Z : Zt) : Nat := Z.2.2.2.2.2.2.2.1
def zM (Z : Zt) : Nat := Z.2.2.2.2.2.2.2.2
def zA (Z : Zt) : Nat → Prop := fun q => zN Z ≤ q
def tabT : Nat → Int32 := fun k => ([0, 7, 10, 14, 20, 28, 40, 57, 80, 113, 160, 226, 320, 453, 640, 905] : List Int32).getD k 0
def tabR : Nat → Int32 := fun k => ([0, 72, 51, 36, 25, 18, 13, 9, 6, 4, 3, 2, 2, 1, 1, 1] : List Int32).getD k 0
abbrev zty (Z : Zt) : List (ClassId × FieldType) := [(zI Z, .int), (zZ Z, .boolean), (zO Z, .object "java/lang/Object")]
def Amb (Z : Zt) (U : State) : Prop :=
  va_K (zD Z) vwCl (zty Z) U ∧ (∀ w ∈ NW, va_Nw w U) ∧ zN Z ≤ U.heap.size ∧
  va_Z "LampBus$Lamp" "FADE_TICKS" "[I" (.ref (zT Z)) (zA Z) U U.heap ∧ va_T .int (zT Z) 16 (fun j => .int (tabT j)) (zA Z) U U.heap ∧
  va_Z "LampBus$Lamp" "RATE_STEPS" "[I" (.ref (zR Z)) (zA Z) U U.heap ∧ va_T .int (zR Z) 16 (fun j => .int (tabR j)) (zA Z) U U.heap ∧
  va_Z "java/util/ArrayList" "DEFAULTCAPACITY_EMPTY_ELEMENTDATA" "[Ljava/lang/Object;" (.ref (zE Z)) (zA Z) U U.heap ∧ zE Z < zN Z ∧ va_T (.object "java/lang/Object") (zE Z) 0 (fun _ => .null) (zA Z) U U.heap ∧ va_AO "java/lang/Object" U ∧ va_Dc U ∧ va_Mi "[Ljava/lang/Object;" (zM Z) U
theorem Amb.to {Z : Zt} {s U : State} {H : Heap} {locs : List Loc} (h : Amb Z s) (hS : va_S (zA Z) s.heap H locs) (hU : U.heap = H) (hW : s.WarmedH U.vm) : Amb Z U := by
  obtain ⟨h1, h2, h3, h4, h5, h6, h7, h8, h9, h10, h11, h12, h13⟩ := h
  have hk : ∀ a : Nat, a < s.heap.size → ¬ zA Z a → U.heap[a]? = s.heap[a]? := fun a q1 q2 => by rw [hU]; exact hS.2.1 a q1 q2
  have hal := hW.alike
  refine ⟨va_K.moved hal h1, fun w hw => nw_warm (List.mem_filter.mp hw).2 hW (h2 w hw), ?_, (va_Z.moved hal h4).kept hk, (va_T.moved hal h5).kept hk, (va_Z.moved hal h6).kept hk, (va_T.moved hal h7).kept hk, (va_Z.moved hal h8).kept hk, h9, (va_T.moved hal h10).kept hk, va_AO.moved hal h11, va_Dc.moved hal h12, va_Mi.moved hal h13⟩
  rw [hU]
  exact Nat.le_trans h3 hS.1
theorem Amb.calling {Z : Zt} {U : State} {g : JFrame} {mk : MethodId} {a : Array Value} (h : Amb Z U) : Amb Z (U.calling g mk a) := by
  obtain ⟨h1, h2, h3, h4, h5, h6, h7, h8, h9, h10, h11, h12, h13⟩ := h
  have hal := Vm.Alike.refl U.vm
  exact ⟨va_K.moved (u := U) (U := U.calling g mk a) hal h1, fun w hw => va_Nw.same (nw_on (List.mem_filter.mp hw).2) (u := U) (U := U.calling g mk a) rfl (h2 w hw), h3, va_Z.moved (u := U) (U := U.calling g mk a) hal h4, va_T.moved (u := U) (U := U.calling g mk a) hal h5, va_Z.moved (u := U) (U := U.calling g mk a) hal h6, va_T.moved (u := U) (U := U.calling g mk a) hal h7, va_Z.moved (u := U) (U := U.calling g mk a) hal h8, h9, va_T.moved (u := U) (U := U.calling g mk a) hal h10, va_AO.moved (u := U) (U := U.calling g mk a) hal h11, va_Dc.moved (u := U) (U := U.calling g mk a) hal h12, va_Mi.moved (u := U) (U := U.calling g mk a) hal h13⟩
/-- the world holds -/
def Wd (Z : Zt) (ws : va_W) (H : Heap) : Prop := va_P (zD Z) vwCl ws H ∧ va_D (zA Z) ws
/-- a contract's start and end -/
def Cin (Z : Zt) (ws : va_W) (as : List Value) : Array Value → State → Prop := va_Pc as (fun U => Amb Z U ∧ Wd Z ws U.heap)
def Cq (Z : Zt) (P : Option Value → va_W → Prop) : Array Value → State → Outcome → State → Prop := fun _ st oc t => ∃ (r : Option Value) (w : va_W), oc = .returned r ∧ P r w ∧ Wd Z w t.heap ∧ va_F (zA Z) st t
def Co (Z : Zt) (r : Option Value) (w : va_W) : Array Value → State → Outcome → State → Prop := Cq Z (fun r' w' => r' = r ∧ w' = w)
/-- one method's contract -/
def Ct (l : Launch) (Z : Zt) (y : MethodName) (cc : ByteArray) (n : Nat) (rt : Option FieldType) (f lo mc ms : Nat) (ws : va_W) (as : List Value) (P : Option Value → va_W → Prop) : Prop :=
  Met l y (wz y cc n rt) { frames := f, cells := mc, slots := ms, locals := lo } (Cin Z ws as) (Cq Z P) mc ms (zA Z)
/-- overlay of n cells, by number -/
noncomputable def fam (n : Nat) (q : Nat → Nat) (E : Nat → va_E) (a : Nat) : Option va_E := by
  classical exact if h : ∃ k, k < n ∧ q k = a then some (E h.choose) else none
noncomputable def fo (ws : va_W) (n : Nat) (q : Nat → Nat) (E : Nat → va_E) : va_W := ws.map (fun p => (p.1, (fam n q E p.1).getD p.2))
def FI (ws : va_W) (n : Nat) (q : Nat → Nat) : Prop := (∀ k, k < n → ∃ e, (q k, e) ∈ ws) ∧ ∀ j k, j < n → k < n → q j = q k → j = k
theorem fam_at {n : Nat} {q : Nat → Nat} {E : Nat → va_E} {k : Nat} (hi : ∀ j k, j < n → k < n → q j = q k → j = k) (hk : k < n) : fam n q E (q k) = some (E k) := by
  have h : ∃ j, j < n ∧ q j = q k := ⟨k, hk, rfl⟩
  unfold fam
  rw [dif_pos h]
  have h2 := h.choose_spec
  rw [hi _ _ h2.1 hk h2.2]
theorem fam_no {n : Nat} {q : Nat → Nat} {E : Nat → va_E} {a : Nat} (h : ∀ k, k < n → q k ≠ a) : fam n q E a = none := by
  unfold fam
  rw [dif_neg (fun ⟨k, h1, h2⟩ => h k h1 h2)]
theorem fo_mem {ws : va_W} {n : Nat} {q : Nat → Nat} {E : Nat → va_E} (hF : FI ws n q) (k : Nat) (hk : k < n) : (q k, E k) ∈ fo ws n q E := by
  obtain ⟨e, he⟩ := hF.1 k hk
  exact List.mem_map.mpr ⟨(q k, e), he, by simp only [fam_at hF.2 hk, Option.getD_some]⟩
theorem fo_out {ws : va_W} {n : Nat} {q : Nat → Nat} {E : Nat → va_E} {a : Nat} {e : va_E} (h : (a, e) ∈ ws) (ho : ∀ k, k < n → q k ≠ a) : (a, e) ∈ fo ws n q E :=
  List.mem_map.mpr ⟨(a, e), h, by simp only [fam_no ho, Option.getD_none]⟩
theorem fo_adr {ws : va_W} {n : Nat} {q : Nat → Nat} {E : Nat → va_E} {a : Nat} : (∃ e, (a, e) ∈ fo ws n q E) ↔ ∃ e, (a, e) ∈ ws := by
  constructor
  · intro ⟨e, h⟩
    obtain ⟨⟨b, e'⟩, h1, h2⟩ := List.mem_map.mp h
    cases h2
    exact ⟨_, h1⟩
  · intro ⟨e, h⟩
    exact ⟨_, List.mem_map.mpr ⟨(a, e), h, rfl⟩⟩
theorem FI_fo {ws : va_W} {n m : Nat} {q r : Nat → Nat} {E : Nat → va_E} (h : FI ws n q) : FI (fo ws m r E) n q := ⟨fun k hk => fo_adr.mpr (h.1 k hk), h.2⟩
theorem FI_of {ws : va_W} {n m : Nat} {q r : Nat → Nat} {E : Nat → va_E} (h : FI (fo ws m r E) n q) : FI ws n q := ⟨fun k hk => fo_adr.mp (h.1 k hk), h.2⟩
theorem fam_congr {n : Nat} {q : Nat → Nat} {E E' : Nat → va_E} (h : ∀ k, k < n → E k = E' k) (a : Nat) : fam n q E a = fam n q E' a := by
  unfold fam
  by_cases c : ∃ k, k < n ∧ q k = a
  · rw [dif_pos c, dif_pos c, h _ c.choose_spec.1]
  · rw [dif_neg c, dif_neg c]
theorem fo_congr {ws : va_W} {n : Nat} {q : Nat → Nat} {E E' : Nat → va_E} (h : ∀ k, k < n → E k = E' k) : fo ws n q E = fo ws n q E' := by
  unfold fo
  exact List.map_congr_left (fun p _ => by rw [fam_congr h])
/-- a world that holds the cells already is its own overlay -/
theorem fo_self {A : Nat → Prop} {ws : va_W} {n : Nat} {q : Nat → Nat} {E : Nat → va_E} (hD : va_D A ws) (h : ∀ k, k < n → (q k, E k) ∈ ws) : fo ws n q E = ws := by
  have e : ∀ p ∈ ws, ((p.1, (fam n q E p.1).getD p.2) : Nat × va_E) = p := by
    intro p hp
    by_cases c : ∃ k, k < n ∧ q k = p.1
    · have hs := c.choose_spec
      have hm := h _ hs.1
      rw [hs.2] at hm
      obtain ⟨i, hi⟩ := List.getElem?_of_mem hm
      obtain ⟨j, hj⟩ := List.getElem?_of_mem hp
      have hij := hD.1 i j _ _ hi hj rfl
      subst hij
      have he : (p.1, E c.choose) = p := Option.some.inj (hi.symm.trans hj)
      unfold fam
      rw [dif_pos c]
      exact he
    · unfold fam
      rw [dif_neg c]
      rfl
  unfold fo
  exact (List.map_congr_left e).trans (List.map_id' ws)
/-- a cell of the family is set -/
theorem fo_set {A : Nat → Prop} {ws : va_W} {n : Nat} {q : Nat → Nat} {E E' : Nat → va_E} {k i : Nat} {e0 : va_E} (hF : FI ws n q) (hD : va_D A (fo ws n q E)) (hk : k < n) (hi : (fo ws n q E)[i]? = some (q k, e0)) (hE : ∀ j, j < n → j ≠ k → E' j = E j) : (fo ws n q E).set i (q k, E' k) = fo ws n q E' := by
  apply List.ext_getElem?
  intro j
  by_cases c : i = j
  · subst c
    have hl : i < (fo ws n q E).length := (List.getElem?_eq_some_iff.mp hi).1
    rw [List.getElem?_set_self hl]
    unfold fo at hi ⊢
    rw [List.getElem?_map] at hi ⊢
    cases hw : ws[i]? with
    | none => rw [hw] at hi; cases hi
    | some p =>
      rw [hw] at hi
      have h1 : p.1 = q k := congrArg Prod.fst (Option.some.inj hi)
      simp only [Option.map_some, h1, fam_at hF.2 hk, Option.getD_some]
  · rw [List.getElem?_set_ne c]
    unfold fo
    rw [List.getElem?_map, List.getElem?_map]
    cases hw : ws[j]? with
    | none => rfl
    | some p =>
      have hne : p.1 ≠ q k := by
        intro hp
        have hj : (fo ws n q E)[j]? = some (q k, (fam n q E p.1).getD p.2) := by
          unfold fo
          rw [List.getElem?_map, hw, ← hp]
          rfl
        exact c (hD.1 i j _ _ hi hj rfl)
      simp only [Option.map_some]
      congr 3
      unfold fam
      by_cases d : ∃ k, k < n ∧ q k = p.1
      · rw [dif_pos d, dif_pos d, hE _ d.choose_spec.1 (fun z => hne (by rw [← d.choose_spec.2, z]))]
      · rw [dif_neg d, dif_neg d]
/-- a family laid over another that holds its cells -/
theorem fo_in {ws : va_W} {n m : Nat} {q r : Nat → Nat} {E E2 E' : Nat → va_E} (hq : ∀ j k, j < n → k < n → q j = q k → j = k) (hr : ∀ j k, j < m → k < m → r j = r k → j = k) (g : Nat → Nat) (hg : ∀ j, j < m → g j < n ∧ q (g j) = r j) (h1 : ∀ j, j < m → E' (g j) = E2 j) (h2 : ∀ k, k < n → (∀ j, j < m → g j ≠ k) → E' k = E k) : fo (fo ws n q E) m r E2 = fo ws n q E' := by
  unfold fo
  rw [List.map_map]
  refine List.map_congr_left (fun p _ => ?_)
  simp only [Function.comp]
  congr 1
  by_cases c : ∃ j, j < m ∧ r j = p.1
  · obtain ⟨j, hj, hp⟩ := c
    have e1 : fam m r E2 p.1 = some (E2 j) := by rw [← hp]; exact fam_at hr hj
    have e2 : fam n q E' p.1 = some (E' (g j)) := by rw [← hp, ← (hg j hj).2]; exact fam_at hq (hg j hj).1
    rw [e1, e2, h1 j hj]
    rfl
  · have e1 : fam m r E2 p.1 = none := fam_no (fun k hk z => c ⟨k, hk, z⟩)
    rw [e1]
    by_cases d : ∃ k, k < n ∧ q k = p.1
    · obtain ⟨k, hk, hp⟩ := d
      have e2 : ∀ F : Nat → va_E, fam n q F p.1 = some (F k) := fun F => by rw [← hp]; exact fam_at hq hk
      rw [e2, e2, h2 k hk (fun j hj z => c ⟨j, hj, by rw [← (hg j hj).2, z]; exact hp⟩)]
      rfl
    · have e2 : ∀ F : Nat → va_E, fam n q F p.1 = none := fun F => fam_no (fun k hk z => d ⟨k, hk, z⟩)
      rw [e2, e2]
      rfl
/-- two families apart may be laid in either order -/
theorem fo_comm {ws : va_W} {n m : Nat} {q r : Nat → Nat} {E E2 : Nat → va_E} (h : ∀ j k, j < n → k < m → q j ≠ r k) : fo (fo ws n q E) m r E2 = fo (fo ws m r E2) n q E := by
  unfold fo
  rw [List.map_map, List.map_map]
  refine List.map_congr_left (fun p _ => ?_)
  simp only [Function.comp]
  congr 1
  by_cases c : ∃ j, j < n ∧ q j = p.1
  · obtain ⟨j, hj, hp⟩ := c
    rw [fam_no (n := m) (q := r) (fun k hk z => h j k hj hk (hp.trans z.symm))]
    rfl
  · rw [fam_no (n := n) (q := q) (fun k hk z => c ⟨k, hk, z⟩)]
    rfl
