/-! ROWS over the world: fields, arrays, statics, calls, returns -/
section ROWS
variable {p : Program} {l : Launch} {e : Env} {R : Room} {s : State} {m : MethodId} {args : Array Value} {below : List Frame} {meth : Method} {c : Code} {H : Heap} {locs : List Loc} {cells slots : Nat} {Q : State → Prop}
variable {cc : ByteArray} {nL pc : Nat} {ls : Array Slot} {rest : List Value} {own : String} {Z : Zt} {ws : va_W}
theorem r_get (S : CallFix p m c cc nL s args TB own) (hA : Amb Z s) (hW : Wd Z ws H) {a ci : Nat} {fs : List Value} (ha : (a, .inr (ci, fs)) ∈ ws) {C : String} {T : u_T} {N index : Nat} (hc : vwCl[ci]? = some (C, T, N)) (hin : ∀ w ∈ u_ws C T N, w ∈ TB) (k : Nat) (hk : k < N) (hl : Cond.fieldLink own index (T k).1 (T k).2.1 (T k).2.2.1 ∈ TB) {v : Value} (hv : fs[k]? = some v) (hdg : decode cc pc = .ok (.getfield index, 3))
    (kk : W p l e R s m args below meth c H locs cells slots Q (F0 m (pc + 3) ls (v :: rest))) : W p l e R s m args below meth c H locs cells slots Q (F0 m pc ls (.ref a :: rest)) := by
  obtain ⟨i, hi⟩ := List.getElem?_of_mem ha
  exact va_get S.1 S.2.1 S.2.2.2.2 hin S.2.2.2.1 hA.1 hW.1 i hi hc k hk (S.2.2.2.2 _ hl) (fun _ h => h) hv hdg kk
theorem r_getN (S : CallFix p m c cc nL s args TB own) (hA : Amb Z s) (hW : Wd Z ws H) {a ci : Nat} {fs : List Value} (ha : (a, .inr (ci, fs)) ∈ ws) {C host : String} {T : u_T} {N index : Nat} (hc : vwCl[ci]? = some (C, T, N)) (hin : ∀ w ∈ u_ws C T N, w ∈ TB) (k : Nat) (hk : k < N) (hl : Cond.fieldLinkNest own index (T k).1 (T k).2.1 (T k).2.2.1 host ∈ NW) {v : Value} (hv : fs[k]? = some v) (hdg : decode cc pc = .ok (.getfield index, 3))
    (kk : W p l e R s m args below meth c H locs cells slots Q (F0 m (pc + 3) ls (v :: rest))) : W p l e R s m args below meth c H locs cells slots Q (F0 m pc ls (.ref a :: rest)) := by
  obtain ⟨i, hi⟩ := List.getElem?_of_mem ha
  exact va_getN S.1 S.2.1 S.2.2.2.2 hin S.2.2.2.1 hA.1 hW.1 i hi hc k hk (va_Nw.use rfl (hA.2.1 _ hl)) (fun _ h => h) hv hdg kk
variable {n : Nat} {q : Nat → Nat} {E E' : Nat → va_E}
theorem r_put (S : CallFix p m c cc nL s args TB own) (hA : Amb Z s) (hF : FI ws n q) (hW : Wd Z (fo ws n q E) H) (hS : va_S (zA Z) s.heap H locs) (j : Nat) (hj : j < n) {ci : Nat} {fs : List Value} (hE : E j = .inr (ci, fs)) {C : String} {T : u_T} {N index : Nat} (hc : vwCl[ci]? = some (C, T, N)) (hin : ∀ w ∈ u_ws C T N, w ∈ TB) (ty0 : Nat → FieldType) (hty : ∀ k, k < N → parseFieldDescriptor (T k).2.2.1 = some (ty0 k)) (hnm : ∀ a, a < N → ∀ b, b < N → a ≠ b → (T a).2.1 ≠ (T b).2.1) (k : Nat) (hk : k < N) (hl : Cond.fieldLink own index (T k).1 (T k).2.1 (T k).2.2.1 ∈ TB) (hfin : (T k).2.2.2 = false) {v : Value} (hn : narrow (ty0 k) v = v) (hfit : fits (ty0 k) v = true) (hlen : k < fs.length) (hE1 : E' j = .inr (ci, fs.set k v)) (hE2 : ∀ i, i < n → i ≠ j → E' i = E i) (hdg : decode cc pc = .ok (.putfield index, 3))
    (kk : ∀ (H1 : Heap) (locs1 : List Loc), Wd Z (fo ws n q E') H1 → va_S (zA Z) s.heap H1 locs1 → W p l e R s m args below meth c H1 locs1 cells slots Q (F0 m (pc + 3) ls rest)) : W p l e R s m args below meth c H locs cells slots Q (F0 m pc ls (v :: .ref (q j) :: rest)) := by
  obtain ⟨i, hi⟩ := List.getElem?_of_mem (fo_mem (E := E) hF j hj)
  rw [hE] at hi
  refine va_put S.1 S.2.1 S.2.2.2.2 hin ty0 hty hnm S.2.2.2.1 hA.1 hW.1 hW.2 hS i hi hc k hk (S.2.2.2.2 _ hl) (fun _ h => h) hfin (hty k hk) hn hfit hlen hdg (fun H1 locs1 hP1 hD1 hS1 => ?_)
  have e := fo_set (E' := E') hF hW.2 hj hi hE2
  rw [hE1] at e
  rw [e] at hP1 hD1
  exact kk H1 locs1 ⟨hP1, hD1⟩ hS1
theorem r_putN (S : CallFix p m c cc nL s args TB own) (hA : Amb Z s) (hF : FI ws n q) (hW : Wd Z (fo ws n q E) H) (hS : va_S (zA Z) s.heap H locs) (j : Nat) (hj : j < n) {ci : Nat} {fs : List Value} (hE : E j = .inr (ci, fs)) {C host : String} {T : u_T} {N index : Nat} (hc : vwCl[ci]? = some (C, T, N)) (hin : ∀ w ∈ u_ws C T N, w ∈ TB) (ty0 : Nat → FieldType) (hty : ∀ k, k < N → parseFieldDescriptor (T k).2.2.1 = some (ty0 k)) (hnm : ∀ a, a < N → ∀ b, b < N → a ≠ b → (T a).2.1 ≠ (T b).2.1) (k : Nat) (hk : k < N) (hl : Cond.fieldLinkNest own index (T k).1 (T k).2.1 (T k).2.2.1 host ∈ NW) (hfin : (T k).2.2.2 = false) {v : Value} (hn : narrow (ty0 k) v = v) (hfit : fits (ty0 k) v = true) (hlen : k < fs.length) (hE1 : E' j = .inr (ci, fs.set k v)) (hE2 : ∀ i, i < n → i ≠ j → E' i = E i) (hdg : decode cc pc = .ok (.putfield index, 3))
    (kk : ∀ (H1 : Heap) (locs1 : List Loc), Wd Z (fo ws n q E') H1 → va_S (zA Z) s.heap H1 locs1 → W p l e R s m args below meth c H1 locs1 cells slots Q (F0 m (pc + 3) ls rest)) : W p l e R s m args below meth c H locs cells slots Q (F0 m pc ls (v :: .ref (q j) :: rest)) := by
  obtain ⟨i, hi⟩ := List.getElem?_of_mem (fo_mem (E := E) hF j hj)
  rw [hE] at hi
  refine va_putN S.1 S.2.1 S.2.2.2.2 hin ty0 hty hnm S.2.2.2.1 hA.1 hW.1 hW.2 hS i hi hc k hk (va_Nw.use rfl (hA.2.1 _ hl)) (fun _ h => h) hfin (hty k hk) hn hfit hlen hdg (fun H1 locs1 hP1 hD1 hS1 => ?_)
  have e := fo_set (E' := E') hF hW.2 hj hi hE2
  rw [hE1] at e
  rw [e] at hP1 hD1
  exact kk H1 locs1 ⟨hP1, hD1⟩ hS1
theorem r_putF (S : CallFix p m c cc nL s args TB own) (hA : Amb Z s) (hF : FI ws n q) (hW : Wd Z (fo ws n q E) H) (hS : va_S (zA Z) s.heap H locs) (j : Nat) (hj : j < n) {ci : Nat} {fs : List Value} (hE : E j = .inr (ci, fs)) {C : String} {T : u_T} {N index : Nat} (hc : vwCl[ci]? = some (C, T, N)) (hin : ∀ w ∈ u_ws C T N, w ∈ TB) (ty0 : Nat → FieldType) (hty : ∀ k, k < N → parseFieldDescriptor (T k).2.2.1 = some (ty0 k)) (hnm : ∀ a, a < N → ∀ b, b < N → a ≠ b → (T a).2.1 ≠ (T b).2.1) (k : Nat) (hk : k < N) (hl : Cond.fieldLink own index (T k).1 (T k).2.1 (T k).2.2.1 ∈ TB) (hfin : (T k).2.2.2 = true) (hin2 : meth.name = "<init>") (hdecl : (T k).1 = own) {v : Value} (hn : narrow (ty0 k) v = v) (hfit : fits (ty0 k) v = true) (hlen : k < fs.length) (hE1 : E' j = .inr (ci, fs.set k v)) (hE2 : ∀ i, i < n → i ≠ j → E' i = E i) (hdg : decode cc pc = .ok (.putfield index, 3))
    (kk : ∀ (H1 : Heap) (locs1 : List Loc), Wd Z (fo ws n q E') H1 → va_S (zA Z) s.heap H1 locs1 → W p l e R s m args below meth c H1 locs1 cells slots Q (F0 m (pc + 3) ls rest)) : W p l e R s m args below meth c H locs cells slots Q (F0 m pc ls (v :: .ref (q j) :: rest)) := by
  obtain ⟨i, hi⟩ := List.getElem?_of_mem (fo_mem (E := E) hF j hj)
  rw [hE] at hi
  refine va_putF S.1 S.2.1 S.2.2.2.2 hin ty0 hty hnm S.2.2.2.1 hA.1 hW.1 hW.2 hS i hi hc k hk (S.2.2.2.2 _ hl) (fun _ h => h) hfin hin2 hdecl (hty k hk) hn hfit hlen hdg (fun H1 locs1 hP1 hD1 hS1 => ?_)
  have e := fo_set (E' := E') hF hW.2 hj hi hE2
  rw [hE1] at e
  rw [e] at hP1 hD1
  exact kk H1 locs1 ⟨hP1, hD1⟩ hS1
theorem r_iald (S : CallFix p m c cc nL s args TB own) (hA : Amb Z s) (hW : Wd Z ws H) {a N : Nat} {f : Nat → Int32} (ha : (a, .inl (zI Z, N, .inl f)) ∈ ws) {i x : Int32} (hin : vp_in i N) (hv : f i.toNatClampNeg = x) (hdg : decode cc pc = .ok (.iaload, 1))
    (kk : W p l e R s m args below meth c H locs cells slots Q (F0 m (pc + 1) ls (.int x :: rest))) : W p l e R s m args below meth c H locs cells slots Q (F0 m pc ls (.int i :: .ref a :: rest)) := by
  subst hv
  obtain ⟨k, hk⟩ := List.getElem?_of_mem ha
  exact va_iald S.1 S.2.1 hA.1 hW.1 k 0 hk rfl hin hdg kk
theorem r_zald (S : CallFix p m c cc nL s args TB own) (hA : Amb Z s) (hW : Wd Z ws H) {a N : Nat} {f : Nat → Int32} (ha : (a, .inl (zZ Z, N, .inl f)) ∈ ws) {i x : Int32} (hin : vp_in i N) (hv : f i.toNatClampNeg = x) (hdg : decode cc pc = .ok (.baload, 1))
    (kk : W p l e R s m args below meth c H locs cells slots Q (F0 m (pc + 1) ls (.int x :: rest))) : W p l e R s m args below meth c H locs cells slots Q (F0 m pc ls (.int i :: .ref a :: rest)) := by
  subst hv
  obtain ⟨k, hk⟩ := List.getElem?_of_mem ha
  exact va_zald S.1 S.2.1 hA.1 hW.1 k 1 hk rfl hin hdg kk
theorem r_iast (S : CallFix p m c cc nL s args TB own) (hA : Amb Z s) (hF : FI ws n q) (hW : Wd Z (fo ws n q E) H) (hS : va_S (zA Z) s.heap H locs) (j : Nat) (hj : j < n) {N : Nat} {f : Nat → Int32} (hE : E j = .inl (zI Z, N, .inl f)) {i x : Int32} (hin : vp_in i N) (hE1 : E' j = .inl (zI Z, N, .inl (upd f i.toNatClampNeg x))) (hE2 : ∀ i, i < n → i ≠ j → E' i = E i) (hdg : decode cc pc = .ok (.iastore, 1))
    (kk : ∀ (H1 : Heap) (locs1 : List Loc), Wd Z (fo ws n q E') H1 → va_S (zA Z) s.heap H1 locs1 → W p l e R s m args below meth c H1 locs1 cells slots Q (F0 m (pc + 1) ls rest)) : W p l e R s m args below meth c H locs cells slots Q (F0 m pc ls (.int x :: .int i :: .ref (q j) :: rest)) := by
  obtain ⟨k, hk⟩ := List.getElem?_of_mem (fo_mem (E := E) hF j hj)
  rw [hE] at hk
  refine va_iast S.1 S.2.1 hA.1 hW.1 hW.2 hS k 0 hk rfl hin hdg (fun H1 locs1 hP1 hD1 hS1 => ?_)
  have e := fo_set (E' := E') hF hW.2 hj hk hE2
  rw [hE1] at e
  rw [e] at hP1 hD1
  exact kk H1 locs1 ⟨hP1, hD1⟩ hS1
theorem r_zast (S : CallFix p m c cc nL s args TB own) (hA : Amb Z s) (hF : FI ws n q) (hW : Wd Z (fo ws n q E) H) (hS : va_S (zA Z) s.heap H locs) (j : Nat) (hj : j < n) {N : Nat} {f : Nat → Int32} (hE : E j = .inl (zZ Z, N, .inl f)) {i x : Int32} (hin : vp_in i N) (hx : vp_nar .boolean x = x) (hE1 : E' j = .inl (zZ Z, N, .inl (upd f i.toNatClampNeg x))) (hE2 : ∀ i, i < n → i ≠ j → E' i = E i) (hdg : decode cc pc = .ok (.bastore, 1))
    (kk : ∀ (H1 : Heap) (locs1 : List Loc), Wd Z (fo ws n q E') H1 → va_S (zA Z) s.heap H1 locs1 → W p l e R s m args below meth c H1 locs1 cells slots Q (F0 m (pc + 1) ls rest)) : W p l e R s m args below meth c H locs cells slots Q (F0 m pc ls (.int x :: .int i :: .ref (q j) :: rest)) := by
  obtain ⟨k, hk⟩ := List.getElem?_of_mem (fo_mem (E := E) hF j hj)
  rw [hE] at hk
  refine va_zast S.1 S.2.1 hA.1 hW.1 hW.2 hS k 1 hk rfl hin hdg (fun H1 locs1 hP1 hD1 hS1 => ?_)
  rw [hx] at hP1 hD1
  have e := fo_set (E' := E') hF hW.2 hj hk hE2
  rw [hE1] at e
  rw [e] at hP1 hD1
  exact kk H1 locs1 ⟨hP1, hD1⟩ hS1
/-- the two static tables -/
theorem r_statT (S : CallFix p m c cc nL s args TB own) (hA : Amb Z s) (hS : va_S (zA Z) s.heap H locs) {index : Nat} (hl : Cond.fieldLink own index "LampBus$Lamp" "FADE_TICKS" "[I" ∈ TB) (hdg : decode cc pc = .ok (.getstatic index, 3))
    (kk : W p l e R s m args below meth c H locs cells slots Q (F0 m (pc + 3) ls (.ref (zT Z) :: rest))) : W p l e R s m args below meth c H locs cells slots Q (F0 m pc ls rest) :=
  va_gets S.1 S.2.1 hA.2.2.2.1 hS S.2.2.2.1 (S.2.2.2.2 _ hl) (fun _ h => h) hdg kk
theorem r_statR (S : CallFix p m c cc nL s args TB own) (hA : Amb Z s) (hS : va_S (zA Z) s.heap H locs) {index : Nat} (hl : Cond.fieldLink own index "LampBus$Lamp" "RATE_STEPS" "[I" ∈ TB) (hdg : decode cc pc = .ok (.getstatic index, 3))
    (kk : W p l e R s m args below meth c H locs cells slots Q (F0 m (pc + 3) ls (.ref (zR Z) :: rest))) : W p l e R s m args below meth c H locs cells slots Q (F0 m pc ls rest) :=
  va_gets S.1 S.2.1 hA.2.2.2.2.2.1 hS S.2.2.2.1 (S.2.2.2.2 _ hl) (fun _ h => h) hdg kk
theorem r_taldT (S : CallFix p m c cc nL s args TB own) (hA : Amb Z s) (hS : va_S (zA Z) s.heap H locs) {i : Int32} (hin : vp_in i 16) (hdg : decode cc pc = .ok (.iaload, 1))
    (kk : W p l e R s m args below meth c H locs cells slots Q (F0 m (pc + 1) ls (.int (tabT i.toNatClampNeg) :: rest))) : W p l e R s m args below meth c H locs cells slots Q (F0 m pc ls (.int i :: .ref (zT Z) :: rest)) :=
  va_ti S.1 S.2.1 hA.2.2.2.2.1 hS hin rfl hdg kk
theorem r_taldR (S : CallFix p m c cc nL s args TB own) (hA : Amb Z s) (hS : va_S (zA Z) s.heap H locs) {i : Int32} (hin : vp_in i 16) (hdg : decode cc pc = .ok (.iaload, 1))
    (kk : W p l e R s m args below meth c H locs cells slots Q (F0 m (pc + 1) ls (.int (tabR i.toNatClampNeg) :: rest))) : W p l e R s m args below meth c H locs cells slots Q (F0 m pc ls (.int i :: .ref (zR Z) :: rest)) :=
  va_ti S.1 S.2.1 hA.2.2.2.2.2.2.1 hS hin rfl hdg kk
theorem r_ldc (S : CallFix p m c cc nL s args TB own) {index : Nat} {v : Int32} (hl : Cond.constant own index v ∈ TB) (hdg : decode cc pc = .ok (.ldc index, 2))
    (kk : W p l e R s m args below meth c H locs cells slots Q (F0 m (pc + 2) ls (.int v :: rest))) : W p l e R s m args below meth c H locs cells slots Q (F0 m pc ls rest) :=
  lv_ldc S.1 S.2.1 S.2.2.2.1 (S.2.2.2.2 _ hl) hdg kk
-- returns
variable {P : Option Value → va_W → Prop}
theorem r_iret (S : CallFix p m c cc nL s args TB own) (hr : meth.sig.returnType = some .int) (hlk : meth.locks = false) (hW : Wd Z ws H) (hS : va_S (zA Z) s.heap H locs) {v : Int32} (hP : P (some (.int v)) ws) (hdg : decode cc pc = .ok (.ireturn, 1)) :
    W p l e R s m args below meth c H locs cells slots (MQ below (Cq Z P) args s cells slots (zA Z)) (F0 m pc ls [.int v]) :=
  W.iret S.1 S.2.1 hr (fun t ht hW' => ⟨_, _, rfl, hP, by rw [ht]; exact hW, hS.F ht⟩) hS.2.2 hdg hlk
theorem r_zret (S : CallFix p m c cc nL s args TB own) (hr : meth.sig.returnType = some .boolean) (hlk : meth.locks = false) (hW : Wd Z ws H) (hS : va_S (zA Z) s.heap H locs) {v : Int32} (hn : narrow .boolean (.int v) = .int v) (hP : P (some (.int v)) ws) (hdg : decode cc pc = .ok (.ireturn, 1)) :
    W p l e R s m args below meth c H locs cells slots (MQ below (Cq Z P) args s cells slots (zA Z)) (F0 m pc ls [.int v]) :=
  W.zret S.1 S.2.1 hr hn (fun t ht hW' => ⟨_, _, rfl, hP, by rw [ht]; exact hW, hS.F ht⟩) hS.2.2 hdg hlk
theorem r_vret (S : CallFix p m c cc nL s args TB own) (hr : meth.sig.returnType = none) (hlk : meth.locks = false) (hW : Wd Z ws H) (hS : va_S (zA Z) s.heap H locs) (hP : P none ws) (hdg : decode cc pc = .ok (.return_, 1)) :
    W p l e R s m args below meth c H locs cells slots (MQ below (Cq Z P) args s cells slots (zA Z)) (F0 m pc ls []) :=
  W.vret S.1 S.2.1 hr (fun t ht hW' => ⟨_, _, rfl, hP, by rw [ht]; exact hW, hS.F ht⟩) hS.2.2 hdg hlk
theorem r_aret (S : CallFix p m c cc nL s args TB own) {rt : FieldType} (hr : meth.sig.returnType = some rt) (hrt : (∃ n, rt = .object n) ∨ ∃ t, rt = .array t) (hlk : meth.locks = false) (hW : Wd Z ws H) (hS : va_S (zA Z) s.heap H locs) {a : Nat} (hP : P (some (.ref a)) ws) (hdg : decode cc pc = .ok (.areturn, 1)) :
    W p l e R s m args below meth c H locs cells slots (MQ below (Cq Z P) args s cells slots (zA Z)) (F0 m pc ls [.ref a]) :=
  W.aret S.1 S.2.1 hr hrt (Or.inr ⟨a, rfl⟩) (fun t ht hW' => ⟨_, _, rfl, hP, by rw [ht]; exact hW, hS.F ht⟩) hS.2.2 hdg hlk
/-- a method's beginning -/
theorem Ct.start {y : MethodName} {rt : Option FieldType} {f lo mc ms : Nat} {as : List Value} (hy : plainName y.cls = true) (hlen : (lg_sl as).length ≤ nL)
    (body : ∀ p e s m below meth c, CallFix p m c cc nL s as.toArray TB y.cls → meth.sig.returnType = rt → meth.locks = false → meth.name = y.name → Amb Z s → Wd Z ws s.heap → va_S (zA Z) s.heap s.heap [] → ∀ ls, lv_has ls nL (lv_args 0 as) →
      W p l e { frames := f, cells := mc, slots := ms, locals := lo } s m as.toArray below meth c s.heap [] 0 0 (MQ below (Cq Z P) as.toArray s mc ms (zA Z)) (F0 m 0 ls [])) : Ct l Z y cc nL rt f lo mc ms ws as P := by
  refine Met.ofW (cc := cc) (maxL := nL) (ret := rt) hy rfl ?_
  intro p e s m args below meth c s₁ B hml hv
  obtain ⟨rfl, hA, hW⟩ := hv
  have hts := wz_hts (atoms_spec (ws := wz y cc nL rt) B.pre)
  have hown : s.vm.findClass y.cls = some m.cls := findClass_of_methodNamed B.named
  have hin : meth.name = y.name := (name_of_methodNamed B.named B.method).1
  rw [lg_entry_eq]
  exact body p e s m below meth c ⟨B.exec, B.bytes, hml, hown, hts⟩ B.returns B.notSynchronized hin hA hW va_S.rf _ (lv_entry as hlen)
-- calls
def Cok (y : MethodName) (bytes : ByteArray) (maxL : Nat) (ret : Option FieldType) (k : Nat) : Prop := Cond.code y bytes maxL ret ∈ TB ∧ Cond.initialized y.cls ∈ TB ∧ (y.cls ≠ "java/lang/invoke/MethodHandle" ∧ y.cls ≠ "java/lang/invoke/VarHandle" ∧ (parseMethodDescriptor y.desc).map (fun d => d.parameters.length) = some k)
variable {y : MethodName} {bytes : ByteArray} {maxL k index f lo mc ms : Nat} {ret : Option FieldType} {b : Nat} {As st0 : List Value}
theorem Cin_blind {as : List Value} : FrameBlind (Cin Z ws as) := fun a U g mk h => ⟨h.1, h.2.1.calling, h.2.2⟩
theorem run_go {Qr : va_W → va_W} {a : Array Value} (hS : va_S (zA Z) s.heap H locs) (hr : va_Run p l e R s m args below meth c H locs cells slots mc ms (F0 m pc ls st0) rest (Cq Z P a) (zA Z))
    (kk : ∀ (r : Option Value) (w : va_W) (H1 : Heap) (locs1 : List Loc), P r w → Wd Z w H1 → va_S (zA Z) s.heap H1 locs1 → W p l e R s m args below meth c H1 locs1 (cells + mc) (slots + ms) Q (F0 m (pc + 3) ls (r.toList ++ rest))) : W p l e R s m args below meth c H locs cells slots Q (F0 m pc ls st0) := by
  intro T hT X
  obtain ⟨v, st₀, t, T', L, h0, X', hL, e1, e2, ⟨r, w, hv, hp, hw, hz, hk⟩, st⟩ := hr T hT X
  cases hv
  rw [h0] at hz hk
  obtain ⟨t2, a1, b1⟩ := kk v w T'.heap (locs ++ L) hp (by rw [e1]; exact hw)
    ⟨Nat.le_trans hS.1 (by rw [e1]; exact hz), fun q h1 h2 => by rw [e1, hk q (Nat.lt_of_lt_of_le h1 hS.1) h2]; exact hS.2.1 q h1 h2, fun q hq => by
      rcases List.mem_append.mp hq with h | h
      · exact hS.2.2 q h
      · exact hL q h⟩ T' rfl X'
  exact ⟨t2, st t2 a1, b1⟩
theorem c_V (S : CallFix p m c cc nL s args TB own) (hA : Amb Z s) (hW : Wd Z ws H) (hS : va_S (zA Z) s.heap H locs) (hM : Ct l Z y bytes maxL ret f lo mc ms ws (.ref b :: As) P) (hok : Cok y bytes maxL ret k) (hlk : Cond.methodLink own index y ∈ TB) (hin : Cond.instanceMethod y ∈ TB) (hsel : Cond.selects y.cls y y ∈ TB) {ci : Nat} {fs : List Value} {x : vw_C} (ha : (b, .inr (ci, fs)) ∈ ws) (hc : vwCl[ci]? = some x) (hx : x.1 = y.cls) (hR : f + 1 ≤ R.frames ∧ 8 + (maxL + 11) + lo ≤ R.locals) (hn : As.length = k) (hls : ls.size = nL) (hst : st0 = As.reverse ++ .ref b :: rest) (hcat : (rest.map fun v => v.category).sum ≤ 8) (hdg : decode cc pc = .ok (.invokevirtual index, 3)) (hf : cells + mc ≤ R.cells ∧ slots + ms ≤ R.slots)
    (kk : ∀ (r : Option Value) (w : va_W) (H1 : Heap) (locs1 : List Loc), P r w → Wd Z w H1 → va_S (zA Z) s.heap H1 locs1 → W p l e R s m args below meth c H1 locs1 (cells + mc) (slots + ms) Q (F0 m (pc + 3) ls (r.toList ++ rest))) : W p l e R s m args below meth c H locs cells slots Q (F0 m pc ls st0) := by
  obtain ⟨i, hi⟩ := List.getElem?_of_mem ha
  have hts := S.2.2.2.2
  refine run_go (Qr := id) hS (va_runV (C := y.cls) (n := k) (As := As) (b := b) (rest := rest) S hM ⟨callB_of k hts (wz_good hok.1) rfl rfl rfl (hts _ hok.2.1) (hts _ hlk) hok.2.2 hR, hts _ hin, hts _ hsel⟩ ⟨Cin_blind, ?_, fun U hU hW' => ⟨rfl, hA.to hS hU hW', by rw [hU]; exact hW⟩⟩ rfl hn hls hst (lv_room hcat) hdg hf) kk
  have h := va_recv hA.1 hW.1 hc hi
  rw [hx] at h
  exact h
theorem c_VN {host : String} (S : CallFix p m c cc nL s args TB own) (hA : Amb Z s) (hW : Wd Z ws H) (hS : va_S (zA Z) s.heap H locs) (hM : Ct l Z y bytes maxL ret f lo mc ms ws (.ref b :: As) P) (hok : Cok y bytes maxL ret k) (hlk : Cond.methodLinkNest own index y host ∈ NW) (hin : Cond.instanceMethod y ∈ TB) (hsel : Cond.selects y.cls y y ∈ TB) {ci : Nat} {fs : List Value} {x : vw_C} (ha : (b, .inr (ci, fs)) ∈ ws) (hc : vwCl[ci]? = some x) (hx : x.1 = y.cls) (hR : f + 1 ≤ R.frames ∧ 8 + (maxL + 11) + lo ≤ R.locals) (hn : As.length = k) (hls : ls.size = nL) (hst : st0 = As.reverse ++ .ref b :: rest) (hcat : (rest.map fun v => v.category).sum ≤ 8) (hdg : decode cc pc = .ok (.invokevirtual index, 3)) (hf : cells + mc ≤ R.cells ∧ slots + ms ≤ R.slots)
    (kk : ∀ (r : Option Value) (w : va_W) (H1 : Heap) (locs1 : List Loc), P r w → Wd Z w H1 → va_S (zA Z) s.heap H1 locs1 → W p l e R s m args below meth c H1 locs1 (cells + mc) (slots + ms) Q (F0 m (pc + 3) ls (r.toList ++ rest))) : W p l e R s m args below meth c H locs cells slots Q (F0 m pc ls st0) := by
  obtain ⟨i, hi⟩ := List.getElem?_of_mem ha
  have hts := S.2.2.2.2
  refine run_go (Qr := id) hS (va_runVN (C := y.cls) (n := k) (As := As) (b := b) (rest := rest) S hM ⟨va_cnB k hts (wz_good hok.1) rfl rfl rfl (hA.2.1 _ hlk) (hts _ hok.2.1) hok.2.2 hR, hts _ hin, hts _ hsel⟩ ⟨Cin_blind, ?_, fun U hU hW' => ⟨rfl, hA.to hS hU hW', by rw [hU]; exact hW⟩⟩ rfl hn hls hst (lv_room hcat) hdg hf) kk
  have h := va_recv hA.1 hW.1 hc hi
  rw [hx] at h
  exact h
theorem c_S (S : CallFix p m c cc nL s args TB own) (hA : Amb Z s) (hW : Wd Z ws H) (hS : va_S (zA Z) s.heap H locs) (hM : Ct l Z y bytes maxL ret f lo mc ms ws As P) (hok : Cok y bytes maxL ret k) (hlk : Cond.methodLink own index y ∈ TB) (hin : Cond.static y ∈ TB) (hR : f + 1 ≤ R.frames ∧ 8 + (maxL + 11) + lo ≤ R.locals) (hn : As.length = k) (hls : ls.size = nL) (hst : st0 = As.reverse ++ rest) (hcat : (rest.map fun v => v.category).sum ≤ 8) (hdg : decode cc pc = .ok (.invokestatic index, 3)) (hf : cells + mc ≤ R.cells ∧ slots + ms ≤ R.slots)
    (kk : ∀ (r : Option Value) (w : va_W) (H1 : Heap) (locs1 : List Loc), P r w → Wd Z w H1 → va_S (zA Z) s.heap H1 locs1 → W p l e R s m args below meth c H1 locs1 (cells + mc) (slots + ms) Q (F0 m (pc + 3) ls (r.toList ++ rest))) : W p l e R s m args below meth c H locs cells slots Q (F0 m pc ls st0) := by
  have hts := S.2.2.2.2
  exact run_go (Qr := id) hS (va_runS (n := k) (As := As) (rest := rest) S hM ⟨callB_of k hts (wz_good hok.1) rfl rfl rfl (hts _ hok.2.1) (hts _ hlk) hok.2.2 hR, hts _ hin⟩ ⟨Cin_blind, fun U hU hW' => ⟨rfl, hA.to hS hU hW', by rw [hU]; exact hW⟩⟩ rfl hn hls hst (lv_room hcat) hdg hf) kk
theorem c_I (S : CallFix p m c cc nL s args TB own) (hA : Amb Z s) (hW : Wd Z ws H) (hS : va_S (zA Z) s.heap H locs) (hM : Ct l Z y bytes maxL none f lo mc ms ws (.ref b :: As) P) (hok : Cok y bytes maxL none k) (hlk : Cond.methodLink own index y ∈ TB) (hin : Cond.instanceMethod y ∈ TB) (hy : y.name = "<init>") (hR : f + 1 ≤ R.frames ∧ 8 + (maxL + 11) + lo ≤ R.locals) (hn : As.length = k) (hls : ls.size = nL) (hst : st0 = As.reverse ++ .ref b :: rest) (hcat : (rest.map fun v => v.category).sum ≤ 8) (hdg : decode cc pc = .ok (.invokespecial index, 3)) (hf : cells + mc ≤ R.cells ∧ slots + ms ≤ R.slots)
    (kk : ∀ (r : Option Value) (w : va_W) (H1 : Heap) (locs1 : List Loc), P r w → Wd Z w H1 → va_S (zA Z) s.heap H1 locs1 → W p l e R s m args below meth c H1 locs1 (cells + mc) (slots + ms) Q (F0 m (pc + 3) ls (r.toList ++ rest))) : W p l e R s m args below meth c H locs cells slots Q (F0 m pc ls st0) := by
  have hts := S.2.2.2.2
  exact run_go (Qr := id) hS (va_runI (n := k) (As := As) (b := b) (rest := rest) S hM ⟨callB_of k hts (wz_good hok.1) rfl rfl rfl (hts _ hok.2.1) (hts _ hlk) hok.2.2 hR, hy, hts _ hin⟩ ⟨Cin_blind, fun U hU hW' => ⟨rfl, hA.to hS hU hW', by rw [hU]; exact hW⟩⟩ rfl hn hls hst (lv_room hcat) hdg hf) kk
theorem c_IN {host : String} (S : CallFix p m c cc nL s args TB own) (hA : Amb Z s) (hW : Wd Z ws H) (hS : va_S (zA Z) s.heap H locs) (hM : Ct l Z y bytes maxL none f lo mc ms ws (.ref b :: As) P) (hok : Cok y bytes maxL none k) (hlk : Cond.methodLinkNest own index y host ∈ NW) (hin : Cond.instanceMethod y ∈ TB) (hy : y.name = "<init>") (hR : f + 1 ≤ R.frames ∧ 8 + (maxL + 11) + lo ≤ R.locals) (hn : As.length = k) (hls : ls.size = nL) (hst : st0 = As.reverse ++ .ref b :: rest) (hcat : (rest.map fun v => v.category).sum ≤ 8) (hdg : decode cc pc = .ok (.invokespecial index, 3)) (hf : cells + mc ≤ R.cells ∧ slots + ms ≤ R.slots)
    (kk : ∀ (r : Option Value) (w : va_W) (H1 : Heap) (locs1 : List Loc), P r w → Wd Z w H1 → va_S (zA Z) s.heap H1 locs1 → W p l e R s m args below meth c H1 locs1 (cells + mc) (slots + ms) Q (F0 m (pc + 3) ls (r.toList ++ rest))) : W p l e R s m args below meth c H locs cells slots Q (F0 m pc ls st0) := by
  have hts := S.2.2.2.2
  exact run_go (Qr := id) hS (va_runIN (n := k) (As := As) (b := b) (rest := rest) S hM ⟨va_cnB k hts (wz_good hok.1) rfl rfl rfl (hA.2.1 _ hlk) (hts _ hok.2.1) hok.2.2 hR, hy, hts _ hin⟩ ⟨Cin_blind, fun U hU hW' => ⟨rfl, hA.to hS hU hW', by rw [hU]; exact hW⟩⟩ rfl hn hls hst (lv_room hcat) hdg hf) kk
end ROWS
