/-! THE REFERENCE: its object (cell 0) and its 22 arrays (cell j is field j + 1); M k i: field k at place i (a plain field at place 0) -/
def up2 (M : Nat → Nat → Int32) (k i : Nat) (x : Int32) : Nat → Nat → Int32 := fun j => if j = k then upd (M k) i x else M j
def mV (q : Nat → Nat) (M : Nat → Nat → Int32) (k : Nat) : Value := if 2 ≤ k ∧ k < 24 then .ref (q (k - 1)) else .int (M k 0)
def mC (Z : Zt) (j : Nat) : ClassId := if j = 15 ∨ j = 16 then zZ Z else zI Z
def mL (j : Nat) : Nat := if j = 9 then 256 else 16
def mE (Z : Zt) (q : Nat → Nat) (M : Nat → Nat → Int32) (j : Nat) : va_E :=
  if j = 0 then .inr (4, (List.range 30).map (mV q M)) else .inl (mC Z j, mL j, .inl (M (j + 1)))
noncomputable abbrev mw (Z : Zt) (ws : va_W) (q : Nat → Nat) (M : Nat → Nat → Int32) : va_W := fo ws 23 q (mE Z q M)
theorem mE_0 {Z : Zt} {q : Nat → Nat} {M : Nat → Nat → Int32} : mE Z q M 0 = .inr (4, (List.range 30).map (mV q M)) := rfl
theorem mE_a {Z : Zt} {q : Nat → Nat} {M : Nat → Nat → Int32} {j : Nat} (h : 1 ≤ j) : mE Z q M j = .inl (mC Z j, mL j, .inl (M (j + 1))) := by
  unfold mE
  rw [if_neg (by omega)]
theorem up2_at {M : Nat → Nat → Int32} {k i : Nat} {x : Int32} : up2 M k i x k = upd (M k) i x := by unfold up2; rw [if_pos rfl]
theorem up2_ne {M : Nat → Nat → Int32} {k i j : Nat} {x : Int32} (h : j ≠ k) : up2 M k i x j = M j := by unfold up2; rw [if_neg h]
/-- an array's place is set: the other cells stay -/
theorem mE_oA {Z : Zt} {q : Nat → Nat} {M : Nat → Nat → Int32} {j i : Nat} {x : Int32} (h : 1 ≤ j) (h2 : j < 23) : ∀ t, t < 23 → t ≠ j → mE Z q (up2 M (j + 1) i x) t = mE Z q M t := by
  intro t ht hn
  by_cases c : t = 0
  · subst c
    rw [mE_0, mE_0]
    congr 2
    refine List.map_congr_left (fun k hk => ?_)
    unfold mV
    by_cases d : 2 ≤ k ∧ k < 24
    · rw [if_pos d, if_pos d]
    · rw [if_neg d, if_neg d, up2_ne (by omega)]
  · rw [mE_a (by omega), mE_a (by omega), up2_ne (by omega)]
theorem mE_sA {Z : Zt} {q : Nat → Nat} {M : Nat → Nat → Int32} {j i : Nat} {x : Int32} (h : 1 ≤ j) : mE Z q (up2 M (j + 1) i x) j = .inl (mC Z j, mL j, .inl (upd (M (j + 1)) i x)) := by
  rw [mE_a h, up2_at]
theorem mE_o0 {Z : Zt} {q : Nat → Nat} {M : Nat → Nat → Int32} {k : Nat} {x : Int32} (hk : ¬ (2 ≤ k ∧ k < 24)) : ∀ t, t < 23 → t ≠ 0 → mE Z q (up2 M k 0 x) t = mE Z q M t := by
  intro t ht hn
  rw [mE_a (by omega), mE_a (by omega), up2_ne (by omega)]
theorem mE_s0 {Z : Zt} {q : Nat → Nat} {M : Nat → Nat → Int32} {k : Nat} {x : Int32} (hk : ¬ (2 ≤ k ∧ k < 24)) : mE Z q (up2 M k 0 x) 0 = .inr (4, ((List.range 30).map (mV q M)).set k (.int x)) := by
  rw [mE_0, rm_set (F := mV q M) (k := k) (v := .int x)]
  intro j
  unfold mV
  by_cases c : j = k
  · subst c
    rw [if_neg hk, if_pos rfl, up2_at, upd_eq]
  · rw [if_neg c, up2_ne c]
section MODEL
variable {p : Program} {l : Launch} {e : Env} {R : Room} {s : State} {m : MethodId} {args : Array Value} {below : List Frame} {meth : Method} {c : Code} {H : Heap} {locs : List Loc} {cells slots : Nat} {Q : State → Prop}
variable {cc : ByteArray} {nL pc index : Nat} {ls : Array Slot} {rest : List Value} {own : String} {Z : Zt} {ws : va_W} {q : Nat → Nat} {M : Nat → Nat → Int32} {x : Int32}
theorem m_get (S : CallFix p m c cc nL s args TB own) (hA : Amb Z s) (hF : FI ws 23 q) (hW : Wd Z (mw Z ws q M) H) (k : Nat) (hk : k < 30) (hk2 : ¬ (2 ≤ k ∧ k < 24)) (hl : Cond.fieldLink own index (TX3 k).1 (TX3 k).2.1 (TX3 k).2.2.1 ∈ TB) (hx : M k 0 = x) (hdg : decode cc pc = .ok (.getfield index, 3))
    (kk : W p l e R s m args below meth c H locs cells slots Q (F0 m (pc + 3) ls (.int x :: rest))) : W p l e R s m args below meth c H locs cells slots Q (F0 m pc ls (.ref (q 0) :: rest)) := by
  subst hx
  exact r_get S hA hW (fo_mem hF 0 (by decide)) (T := TX3) rfl iu_X3 k hk hl ((rm_get hk).trans (by unfold mV; rw [if_neg hk2])) hdg kk
theorem m_getA (S : CallFix p m c cc nL s args TB own) (hA : Amb Z s) (hF : FI ws 23 q) (hW : Wd Z (mw Z ws q M) H) (j : Nat) (h1 : 1 ≤ j) (h2 : j < 23) (hl : Cond.fieldLink own index (TX3 (j + 1)).1 (TX3 (j + 1)).2.1 (TX3 (j + 1)).2.2.1 ∈ TB) (hdg : decode cc pc = .ok (.getfield index, 3))
    (kk : W p l e R s m args below meth c H locs cells slots Q (F0 m (pc + 3) ls (.ref (q j) :: rest))) : W p l e R s m args below meth c H locs cells slots Q (F0 m pc ls (.ref (q 0) :: rest)) :=
  r_get S hA hW (fo_mem hF 0 (by decide)) (T := TX3) rfl iu_X3 (j + 1) (by omega) hl ((rm_get (by omega)).trans (by unfold mV; rw [if_pos (by omega), Nat.add_sub_cancel])) hdg kk
theorem m_put (S : CallFix p m c cc nL s args TB own) (hA : Amb Z s) (hF : FI ws 23 q) (hW : Wd Z (mw Z ws q M) H) (hS : va_S (zA Z) s.heap H locs) (k : Nat) (hk : k < 30) (hk2 : ¬ (2 ≤ k ∧ k < 24)) (hl : Cond.fieldLink own index (TX3 k).1 (TX3 k).2.1 (TX3 k).2.2.1 ∈ TB) (hfin : (TX3 k).2.2.2 = false) (hn : narrow (tyX3 k) (.int x) = .int x) (hfit : fits (tyX3 k) (.int x) = true) (hdg : decode cc pc = .ok (.putfield index, 3))
    (kk : ∀ (H1 : Heap) (locs1 : List Loc), Wd Z (mw Z ws q (up2 M k 0 x)) H1 → va_S (zA Z) s.heap H1 locs1 → W p l e R s m args below meth c H1 locs1 cells slots Q (F0 m (pc + 3) ls rest)) : W p l e R s m args below meth c H locs cells slots Q (F0 m pc ls (.int x :: .ref (q 0) :: rest)) :=
  r_put S hA hF hW hS 0 (by decide) mE_0 (T := TX3) rfl iu_X3 tyX3 tyX3_ok nmX3 k hk hl hfin hn hfit (by simpa using hk) (mE_s0 hk2) (mE_o0 hk2) hdg kk
theorem m_aldX (S : CallFix p m c cc nL s args TB own) (hA : Amb Z s) (hF : FI ws 23 q) (hW : Wd Z (mw Z ws q M) H) (j : Nat) (h1 : 1 ≤ j) (h2 : j < 23) (h3 : mC Z j = zI Z) {i : Int32} (hin : vp_in i (mL j)) (hx : M (j + 1) i.toNatClampNeg = x) (hdg : decode cc pc = .ok (.iaload, 1))
    (kk : W p l e R s m args below meth c H locs cells slots Q (F0 m (pc + 1) ls (.int x :: rest))) : W p l e R s m args below meth c H locs cells slots Q (F0 m pc ls (.int i :: .ref (q j) :: rest)) := by
  have h := fo_mem (E := mE Z q M) hF j h2
  rw [mE_a h1, h3] at h
  exact r_iald S hA hW h hin hx hdg kk
theorem m_ald (S : CallFix p m c cc nL s args TB own) (hA : Amb Z s) (hF : FI ws 23 q) (hW : Wd Z (mw Z ws q M) H) (j : Nat) (h1 : 1 ≤ j) (h2 : j < 23) (h3 : mC Z j = zI Z) {g : Nat} (hg : g < 16) (hx : M (j + 1) g = x) (hdg : decode cc pc = .ok (.iaload, 1))
    (kk : W p l e R s m args below meth c H locs cells slots Q (F0 m (pc + 1) ls (.int x :: rest))) : W p l e R s m args below meth c H locs cells slots Q (F0 m pc ls (.int (nI g) :: .ref (q j) :: rest)) :=
  m_aldX S hA hF hW j h1 h2 h3 (vp_in_nI (Nat.lt_of_lt_of_le hg (by unfold mL; by_cases c : j = 9 <;> simp [c])) (by unfold mL; by_cases c : j = 9 <;> simp [c])) (by rw [nI_clamp (by omega)]; exact hx) hdg kk
theorem m_zald (S : CallFix p m c cc nL s args TB own) (hA : Amb Z s) (hF : FI ws 23 q) (hW : Wd Z (mw Z ws q M) H) (j : Nat) (h1 : 1 ≤ j) (h2 : j < 23) (h3 : mC Z j = zZ Z) (h4 : mL j = 16) {g : Nat} (hg : g < 16) (hx : M (j + 1) g = x) (hdg : decode cc pc = .ok (.baload, 1))
    (kk : W p l e R s m args below meth c H locs cells slots Q (F0 m (pc + 1) ls (.int x :: rest))) : W p l e R s m args below meth c H locs cells slots Q (F0 m pc ls (.int (nI g) :: .ref (q j) :: rest)) := by
  have h := fo_mem (E := mE Z q M) hF j h2
  rw [mE_a h1, h3, h4] at h
  exact r_zald S hA hW h (vp_in_nI hg (by decide)) (by rw [nI_clamp (by omega)]; exact hx) hdg kk
theorem m_zaldX (S : CallFix p m c cc nL s args TB own) (hA : Amb Z s) (hF : FI ws 23 q) (hW : Wd Z (mw Z ws q M) H) (j : Nat) (h1 : 1 ≤ j) (h2 : j < 23) (h3 : mC Z j = zZ Z) (h4 : mL j = 16) {i : Int32} (hin : vp_in i 16) (hx : M (j + 1) i.toNatClampNeg = x) (hdg : decode cc pc = .ok (.baload, 1))
    (kk : W p l e R s m args below meth c H locs cells slots Q (F0 m (pc + 1) ls (.int x :: rest))) : W p l e R s m args below meth c H locs cells slots Q (F0 m pc ls (.int i :: .ref (q j) :: rest)) := by
  have h := fo_mem (E := mE Z q M) hF j h2
  rw [mE_a h1, h3, h4] at h
  exact r_zald S hA hW h hin hx hdg kk
theorem m_astX (S : CallFix p m c cc nL s args TB own) (hA : Amb Z s) (hF : FI ws 23 q) (hW : Wd Z (mw Z ws q M) H) (hS : va_S (zA Z) s.heap H locs) (j : Nat) (h1 : 1 ≤ j) (h2 : j < 23) (h3 : mC Z j = zI Z) {i : Int32} (hin : vp_in i (mL j)) (hdg : decode cc pc = .ok (.iastore, 1))
    (kk : ∀ (H1 : Heap) (locs1 : List Loc), Wd Z (mw Z ws q (up2 M (j + 1) i.toNatClampNeg x)) H1 → va_S (zA Z) s.heap H1 locs1 → W p l e R s m args below meth c H1 locs1 cells slots Q (F0 m (pc + 1) ls rest)) : W p l e R s m args below meth c H locs cells slots Q (F0 m pc ls (.int x :: .int i :: .ref (q j) :: rest)) :=
  r_iast S hA hF hW hS j h2 (by rw [mE_a h1, h3]) hin (by rw [mE_sA h1, h3]) (mE_oA h1 h2) hdg kk
theorem m_ast (S : CallFix p m c cc nL s args TB own) (hA : Amb Z s) (hF : FI ws 23 q) (hW : Wd Z (mw Z ws q M) H) (hS : va_S (zA Z) s.heap H locs) (j : Nat) (h1 : 1 ≤ j) (h2 : j < 23) (h3 : mC Z j = zI Z) {g : Nat} (hg : g < 16) (hdg : decode cc pc = .ok (.iastore, 1))
    (kk : ∀ (H1 : Heap) (locs1 : List Loc), Wd Z (mw Z ws q (up2 M (j + 1) g x)) H1 → va_S (zA Z) s.heap H1 locs1 → W p l e R s m args below meth c H1 locs1 cells slots Q (F0 m (pc + 1) ls rest)) : W p l e R s m args below meth c H locs cells slots Q (F0 m pc ls (.int x :: .int (nI g) :: .ref (q j) :: rest)) :=
  m_astX S hA hF hW hS j h1 h2 h3 (vp_in_nI (Nat.lt_of_lt_of_le hg (by unfold mL; by_cases c : j = 9 <;> simp [c])) (by unfold mL; by_cases c : j = 9 <;> simp [c])) hdg (by rw [nI_clamp (by omega)]; exact kk)
theorem m_zast (S : CallFix p m c cc nL s args TB own) (hA : Amb Z s) (hF : FI ws 23 q) (hW : Wd Z (mw Z ws q M) H) (hS : va_S (zA Z) s.heap H locs) (j : Nat) (h1 : 1 ≤ j) (h2 : j < 23) (h3 : mC Z j = zZ Z) (h4 : mL j = 16) {g : Nat} (hg : g < 16) (hx : vp_nar .boolean x = x) (hdg : decode cc pc = .ok (.bastore, 1))
    (kk : ∀ (H1 : Heap) (locs1 : List Loc), Wd Z (mw Z ws q (up2 M (j + 1) g x)) H1 → va_S (zA Z) s.heap H1 locs1 → W p l e R s m args below meth c H1 locs1 cells slots Q (F0 m (pc + 1) ls rest)) : W p l e R s m args below meth c H locs cells slots Q (F0 m pc ls (.int x :: .int (nI g) :: .ref (q j) :: rest)) :=
  r_zast S hA hF hW hS j h2 (by rw [mE_a h1, h3, h4]) (vp_in_nI hg (by decide)) hx (by rw [mE_sA h1, h3, h4, nI_clamp (by omega)]) (mE_oA h1 h2) hdg kk
end MODEL
theorem isIn_of {x a b : Int32} (h : ¬ fX3_isIn x a b = 0) : ¬ x < a ∧ ¬ b < x := by
  unfold fX3_isIn at h
  by_cases c1 : x < a
  · rw [if_pos c1] at h
    exact absurd rfl h
  · rw [if_neg c1] at h
    by_cases c2 : b < x
    · rw [if_pos c2] at h
      exact absurd rfl h
    · exact ⟨c1, c2⟩
/-- a scene's place -/
theorem sc_in {g lo : Nat} (hg : g < 16) (hlo : lo < 1000) {x : Int32} (h1 : ¬ x < nI lo) (h2 : ¬ nI (lo + 15) < x) : vp_in (((16 * nI g) + x) - nI lo) 256 := by
  have hx : ¬ x < 0 := fun z => h1 (by
    rw [Int32.lt_iff_toInt_lt] at z ⊢
    rw [nI_toInt (by omega)]
    have : (0 : Int32).toInt = 0 := rfl
    omega)
  obtain ⟨n, hn, rfl⟩ := nI_of hx
  have a1 : lo ≤ n := by
    rcases Nat.lt_or_ge n lo with h | h
    · exact absurd (nI_lt h (by omega)) h1
    · exact h
  have a2 : n ≤ lo + 15 := by
    rcases Nat.lt_or_ge (lo + 15) n with h | h
    · exact absurd (nI_lt h hn) h2
    · exact h
  rw [show (16 : Int32) = nI 16 from rfl, pk_mul, nI_add, pk_sub (by omega)]
  exact vp_in_nI (by omega) (by decide)
theorem sc_low {g : Nat} (hg : g < 16) {x : Int32} (hb : ∃ n, n < 256 ∧ x = nI n) : vp_in ((16 * nI g) + (x - x / 16 * 16)) 256 := by
  obtain ⟨n, hn, rfl⟩ := hb
  rw [show (16 : Int32) = nI 16 from rfl, pk_rem (by omega) (by decide) (by decide), pk_mul, nI_add]
  exact vp_in_nI (by omega) (by decide)
