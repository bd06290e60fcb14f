/-! Making cells; rows that speak of single cells by membership -/
/-- the world w' is w with the cell at a set to e -/
def Ex (w : va_W) (a : Nat) (e : va_E) (w' : va_W) : Prop := (a, e) ∈ w' ∧ (∀ b x, b ≠ a → (b, x) ∈ w → (b, x) ∈ w') ∧ ∀ b x, (b, x) ∈ w' → ∃ y, (b, y) ∈ w
theorem ex_fo {w : va_W} {a : Nat} {e e0 : va_E} (h : (a, e0) ∈ w) : Ex w a e (fo w 1 (fun _ => a) (fun _ => e)) := by
  have hF : FI w 1 (fun _ => a) := ⟨fun _ _ => ⟨e0, h⟩, fun j k hj hk _ => by omega⟩
  exact ⟨fo_mem (E := fun _ => e) hF 0 (by decide), fun b x hb hx => fo_out hx (fun _ _ z => hb z.symm), fun b x hx => fo_adr.mp ⟨x, hx⟩⟩
theorem fo_one {A : Nat → Prop} {w : va_W} {a : Nat} {e : va_E} (hD : va_D A w) (h : (a, e) ∈ w) : fo w 1 (fun _ => a) (fun _ => e) = w := fo_self hD (fun _ _ => h)
section ALLOC
variable {p : Program} {l : Launch} {e : Env} {R : Room} {s : State} {m : MethodId} {args : Array Value} {below : List Frame} {meth : Method} {c : Code} {H : Heap} {locs : List Loc} {cells slots : Nat} {Q : State → Prop}
variable {cc : ByteArray} {nL pc index : Nat} {ls : Array Slot} {rest : List Value} {own host : String} {Z : Zt} {w : va_W} {a ci : Nat} {fs : List Value} {v : Value} {C : String} {T : u_T} {N : Nat}
theorem Amb.A0 (hA : Amb Z s) : ∀ q, s.heap.size ≤ q → zA Z q := fun _ h => Nat.le_trans hA.2.2.1 h
theorem fresh_of {A : Nat → Prop} {q : Nat} {x : va_E} (hD : va_D A (w ++ [(q, x)])) : ∀ y, (q, y) ∉ w := by
  intro y hy
  obtain ⟨i, hi⟩ := List.getElem?_of_mem hy
  have hl : i < w.length := (List.getElem?_eq_some_iff.mp hi).1
  have h1 : (w ++ [(q, x)])[i]? = some (q, y) := by rw [List.getElem?_append_left hl]; exact hi
  have h2 : (w ++ [(q, x)])[w.length]? = some (q, x) := by rw [List.getElem?_append_right (Nat.le_refl _), Nat.sub_self]; rfl
  have := hD.1 i w.length _ _ h1 h2 rfl
  omega
theorem r_new (S : CallFix p m c cc nL s args TB own) (hA : Amb Z s) (hW : Wd Z w H) (hS : va_S (zA Z) s.heap H locs) (hc : vwCl[ci]? = some (C, T, N)) (hin : ∀ w ∈ u_ws C T N, w ∈ TB) (ty : Nat → FieldType) (hty : ∀ k, k < N → parseFieldDescriptor (T k).2.2.1 = some (ty k)) (hcl : Cond.classLink own index C ∈ TB) (hinst : Cond.instantiable C N ∈ TB) (hini : Cond.initialized C ∈ TB) (hfs : ∀ j, j < N → defaultValue (ty j) = vp_V fs j) (hcells : cells + 1 ≤ R.cells) (hslots : slots + N ≤ R.slots) (hdg : decode cc pc = .ok (.new index, 3))
    (kk : ∀ (q : Nat) (H1 : Heap), (∀ y, (q, y) ∉ w) → Wd Z (w ++ [(q, .inr (ci, fs))]) H1 → va_S (zA Z) s.heap H1 locs → W p l e R s m args below meth c H1 locs (cells + 1) (slots + N) Q (F0 m (pc + 3) ls (.ref q :: rest))) : W p l e R s m args below meth c H locs cells slots Q (F0 m pc ls rest) := by
  have hts := S.2.2.2.2
  exact va_new S.1 S.2.1 hts hin ty hty S.2.2.2.1 (hts _ hcl) (hts _ hinst) (hts _ hini) hA.1 hW.1 hW.2 hS hA.A0 hc hfs hcells hslots hdg (fun q H1 hP hD hS => kk q H1 (fresh_of hD) ⟨hP, hD⟩ hS)
theorem r_newI (S : CallFix p m c cc nL s args TB own) (hA : Amb Z s) (hW : Wd Z w H) (hS : va_S (zA Z) s.heap H locs) (harr : Cond.arrayClass .int ∈ TB) {x : Int32} {K : Nat} (hn : ¬ x < 0) (hN : x.toNatClampNeg = K) (hbytes : K * 4 ≤ 536870912) (hcells : cells + 1 ≤ R.cells) (hslots : slots + K ≤ R.slots) (hdg : decode cc pc = .ok (.newarray .int, 2))
    (kk : ∀ (q : Nat) (H1 : Heap), (∀ y, (q, y) ∉ w) → Wd Z (w ++ [(q, .inl (zI Z, K, .inl (fun _ => 0)))]) H1 → va_S (zA Z) s.heap H1 locs → W p l e R s m args below meth c H1 locs (cells + 1) (slots + K) Q (F0 m (pc + 2) ls (.ref q :: rest))) : W p l e R s m args below meth c H locs cells slots Q (F0 m pc ls (.int x :: rest)) := by
  refine va_newa (atype := .int) (ty := .int) (a0 := (K, .inl (fun _ => 0))) S.1 S.2.1 (S.2.2.2.2 _ harr) rfl hA.1 hW.1 hW.2 hS hA.A0 (fun cA => rfl) hn hN hbytes hcells hslots hdg (fun q cA H1 hK hP hD hS => ?_)
  have e1 : s.vm.findClass ("[" ++ FieldType.int.toString) = some cA := (hK.2 3 (cA, .int) rfl).2
  have e2 : s.vm.findClass ("[" ++ FieldType.int.toString) = some (zI Z) := (hA.1.2 0 (zI Z, .int) rfl).2
  have e3 : cA = zI Z := Option.some.inj (e1.symm.trans e2)
  subst e3
  exact kk q H1 (fresh_of hD) ⟨hP, hD⟩ hS
theorem r_newZ (S : CallFix p m c cc nL s args TB own) (hA : Amb Z s) (hW : Wd Z w H) (hS : va_S (zA Z) s.heap H locs) (harr : Cond.arrayClass .boolean ∈ TB) {x : Int32} {K : Nat} (hn : ¬ x < 0) (hN : x.toNatClampNeg = K) (hbytes : K * 1 ≤ 536870912) (hcells : cells + 1 ≤ R.cells) (hslots : slots + K ≤ R.slots) (hdg : decode cc pc = .ok (.newarray .boolean, 2))
    (kk : ∀ (q : Nat) (H1 : Heap), (∀ y, (q, y) ∉ w) → Wd Z (w ++ [(q, .inl (zZ Z, K, .inl (fun _ => 0)))]) H1 → va_S (zA Z) s.heap H1 locs → W p l e R s m args below meth c H1 locs (cells + 1) (slots + K) Q (F0 m (pc + 2) ls (.ref q :: rest))) : W p l e R s m args below meth c H locs cells slots Q (F0 m pc ls (.int x :: rest)) := by
  refine va_newa (atype := .boolean) (ty := .boolean) (a0 := (K, .inl (fun _ => 0))) S.1 S.2.1 (S.2.2.2.2 _ harr) rfl hA.1 hW.1 hW.2 hS hA.A0 (fun cA => rfl) hn hN hbytes hcells hslots hdg (fun q cA H1 hK hP hD hS => ?_)
  have e1 : s.vm.findClass ("[" ++ FieldType.boolean.toString) = some cA := (hK.2 3 (cA, .boolean) rfl).2
  have e2 : s.vm.findClass ("[" ++ FieldType.boolean.toString) = some (zZ Z) := (hA.1.2 1 (zZ Z, .boolean) rfl).2
  have e3 : cA = zZ Z := Option.some.inj (e1.symm.trans e2)
  subst e3
  exact kk q H1 (fresh_of hD) ⟨hP, hD⟩ hS
theorem r_newO (S : CallFix p m c cc nL s args TB own) (hA : Amb Z s) (hW : Wd Z w H) (hS : va_S (zA Z) s.heap H locs) (hcl : Cond.classLink own index "java/lang/Object" ∈ TB) {x : Int32} {K : Nat} (hn : ¬ x < 0) (hN : x.toNatClampNeg = K) (hbytes : K * 4 ≤ 536870912) (hcells : cells + 1 ≤ R.cells) (hslots : slots + K ≤ R.slots) (hdg : decode cc pc = .ok (.anewarray index, 3))
    (kk : ∀ (q : Nat) (H1 : Heap), (∀ y, (q, y) ∉ w) → Wd Z (w ++ [(q, .inl (zO Z, K, .inr (.inr (.inr (.inr (fun _ => none))))))]) H1 → va_S (zA Z) s.heap H1 locs → W p l e R s m args below meth c H1 locs (cells + 1) (slots + K) Q (F0 m (pc + 3) ls (.ref q :: rest))) : W p l e R s m args below meth c H locs cells slots Q (F0 m pc ls (.int x :: rest)) := by
  refine va_newq (C := "java/lang/Object") S.1 S.2.1 S.2.2.2.1 (S.2.2.2.2 _ hcl) hA.2.2.2.2.2.2.2.2.2.2.1 hA.1 hW.1 hW.2 hS hA.A0 hn hN hbytes hcells hslots hdg (fun q cA H1 hK hP hD hS => ?_)
  have e1 := (hK.2 3 (cA, .object "java/lang/Object") rfl).2
  have e2 := (hA.1.2 2 (zO Z, .object "java/lang/Object") rfl).2
  obtain ⟨_, _, _, _, _, f1⟩ := e1
  obtain ⟨_, _, _, _, _, f2⟩ := e2
  have e3 : cA = zO Z := Option.some.inj (f1.symm.trans f2)
  subst e3
  exact kk q H1 (fresh_of hD) ⟨hP, hD⟩ hS
theorem r_putX (S : CallFix p m c cc nL s args TB own) (hA : Amb Z s) (hW : Wd Z w H) (hS : va_S (zA Z) s.heap H locs) (ha : (a, .inr (ci, fs)) ∈ w) (hc : vwCl[ci]? = some (C, T, N)) (hin : ∀ w ∈ u_ws C T N, w ∈ TB) (ty0 : Nat → FieldType) (hty : ∀ k, k < N → parseFieldDescriptor (T k).2.2.1 = some (ty0 k)) (hnm : ∀ a, a < N → ∀ b, b < N → a ≠ b → (T a).2.1 ≠ (T b).2.1) (k : Nat) (hk : k < N) (hl : Cond.fieldLink own index (T k).1 (T k).2.1 (T k).2.2.1 ∈ TB) (hfin : (T k).2.2.2 = false) (hn : narrow (ty0 k) v = v) (hfit : fits (ty0 k) v = true) (hlen : k < fs.length) (hdg : decode cc pc = .ok (.putfield index, 3))
    (kk : ∀ (w' : va_W) (H1 : Heap) (locs1 : List Loc), Ex w a (.inr (ci, fs.set k v)) w' → Wd Z w' H1 → va_S (zA Z) s.heap H1 locs1 → W p l e R s m args below meth c H1 locs1 cells slots Q (F0 m (pc + 3) ls rest)) : W p l e R s m args below meth c H locs cells slots Q (F0 m pc ls (v :: .ref a :: rest)) := by
  have hF : FI w 1 (fun _ => a) := ⟨fun _ _ => ⟨_, ha⟩, fun j k hj hk _ => by omega⟩
  have hW' : Wd Z (fo w 1 (fun _ => a) (fun _ => .inr (ci, fs))) H := by rw [fo_one hW.2 ha]; exact hW
  exact r_put (q := fun _ => a) (E := fun _ => .inr (ci, fs)) (E' := fun _ => .inr (ci, fs.set k v)) S hA hF hW' hS 0 (by decide) rfl hc hin ty0 hty hnm k hk hl hfin hn hfit hlen rfl (fun i hi hne => absurd (by omega) hne) hdg (fun H1 locs1 h1 h2 => kk _ H1 locs1 (ex_fo ha) h1 h2)
theorem r_putFX (S : CallFix p m c cc nL s args TB own) (hA : Amb Z s) (hW : Wd Z w H) (hS : va_S (zA Z) s.heap H locs) (ha : (a, .inr (ci, fs)) ∈ w) (hc : vwCl[ci]? = some (C, T, N)) (hin : ∀ w ∈ u_ws C T N, w ∈ TB) (ty0 : Nat → FieldType) (hty : ∀ k, k < N → parseFieldDescriptor (T k).2.2.1 = some (ty0 k)) (hnm : ∀ a, a < N → ∀ b, b < N → a ≠ b → (T a).2.1 ≠ (T b).2.1) (k : Nat) (hk : k < N) (hl : Cond.fieldLink own index (T k).1 (T k).2.1 (T k).2.2.1 ∈ TB) (hfin : (T k).2.2.2 = true) (hin2 : meth.name = "<init>") (hdecl : (T k).1 = own) (hn : narrow (ty0 k) v = v) (hfit : fits (ty0 k) v = true) (hlen : k < fs.length) (hdg : decode cc pc = .ok (.putfield index, 3))
    (kk : ∀ (w' : va_W) (H1 : Heap) (locs1 : List Loc), Ex w a (.inr (ci, fs.set k v)) w' → Wd Z w' H1 → va_S (zA Z) s.heap H1 locs1 → W p l e R s m args below meth c H1 locs1 cells slots Q (F0 m (pc + 3) ls rest)) : W p l e R s m args below meth c H locs cells slots Q (F0 m pc ls (v :: .ref a :: rest)) := by
  have hF : FI w 1 (fun _ => a) := ⟨fun _ _ => ⟨_, ha⟩, fun j k hj hk _ => by omega⟩
  have hW' : Wd Z (fo w 1 (fun _ => a) (fun _ => .inr (ci, fs))) H := by rw [fo_one hW.2 ha]; exact hW
  exact r_putF (q := fun _ => a) (E := fun _ => .inr (ci, fs)) (E' := fun _ => .inr (ci, fs.set k v)) S hA hF hW' hS 0 (by decide) rfl hc hin ty0 hty hnm k hk hl hfin hin2 hdecl hn hfit hlen rfl (fun i hi hne => absurd (by omega) hne) hdg (fun H1 locs1 h1 h2 => kk _ H1 locs1 (ex_fo ha) h1 h2)
theorem r_iastX (S : CallFix p m c cc nL s args TB own) (hA : Amb Z s) (hW : Wd Z w H) (hS : va_S (zA Z) s.heap H locs) {K : Nat} {f : Nat → Int32} (ha : (a, .inl (zI Z, K, .inl f)) ∈ w) {i x : Int32} (hin : vp_in i K) (hdg : decode cc pc = .ok (.iastore, 1))
    (kk : ∀ (w' : va_W) (H1 : Heap) (locs1 : List Loc), Ex w a (.inl (zI Z, K, .inl (upd f i.toNatClampNeg x))) w' → Wd Z w' H1 → va_S (zA Z) s.heap H1 locs1 → W p l e R s m args below meth c H1 locs1 cells slots Q (F0 m (pc + 1) ls rest)) : W p l e R s m args below meth c H locs cells slots Q (F0 m pc ls (.int x :: .int i :: .ref a :: rest)) := by
  have hF : FI w 1 (fun _ => a) := ⟨fun _ _ => ⟨_, ha⟩, fun j k hj hk _ => by omega⟩
  have hW' : Wd Z (fo w 1 (fun _ => a) (fun _ => .inl (zI Z, K, .inl f))) H := by rw [fo_one hW.2 ha]; exact hW
  exact r_iast (q := fun _ => a) (E := fun _ => .inl (zI Z, K, .inl f)) (E' := fun _ => .inl (zI Z, K, .inl (upd f i.toNatClampNeg x))) S hA hF hW' hS 0 (by decide) rfl hin rfl (fun i hi hne => absurd (by omega) hne) hdg (fun H1 locs1 h1 h2 => kk _ H1 locs1 (ex_fo ha) h1 h2)
/-- Object's constructor -/
theorem r_obj (S : CallFix p m c cc nL s args TB own) (hlk : Cond.methodLink own index objectInit ∈ TB) (hls : ls.size = nL) (hdg : decode cc pc = .ok (.invokespecial index, 3)) (h1 : 1 ≤ R.frames) (h2 : (rest.map fun v => v.category).sum + 12 ≤ R.locals)
    (kk : W p l e R s m args below meth c H locs cells slots Q (F0 m (pc + 3) ls rest)) : W p l e R s m args below meth c H locs cells slots Q (F0 m pc ls (.ref a :: rest)) :=
  W.objInit (g := F0 m pc ls (.ref a :: rest)) S.1 S.2.1 S.2.2.2.1 (S.2.2.2.2 _ hlk) (S.2.2.2.2 _ tn_Obj) (S.2.2.2.2 _ tc_Obj) rfl (by rw [S.2.2.1]; exact hls) rfl hdg h1 (by first | exact h2 | (show 2 * 0 + _ + 12 ≤ _; omega)) kk
end ALLOC
