section LOOPS
variable {p : Program} {l : Launch} {e : Env} {R : Room} {s : State} {m : MethodId} {args : Array Value} {below : List Frame} {meth : Method} {c : Code} {H : Heap} {locs : List Loc} {cells slots : Nat} {Q : State → Prop}
variable {cc : ByteArray} {nL pc index : Nat} {ls : Array Slot} {rest : List Value} {own : String} {Z : Zt} {ws : va_W}
/-- a loop: at its head the invariant holds with a measure that falls -/
theorem w_loop (I : Nat → Heap → List Loc → Array Slot → Prop) (step : ∀ (i : Nat) (H1 : Heap) (locs1 : List Loc) (ls1 : Array Slot), I i H1 locs1 ls1 → (∀ (j : Nat) (H2 : Heap) (locs2 : List Loc) (ls2 : Array Slot), j < i → I j H2 locs2 ls2 → W p l e R s m args below meth c H2 locs2 cells slots Q (F0 m pc ls2 rest)) → W p l e R s m args below meth c H1 locs1 cells slots Q (F0 m pc ls1 rest)) (i : Nat) (h : I i H locs ls) : W p l e R s m args below meth c H locs cells slots Q (F0 m pc ls rest) := by
  have K : ∀ (n i : Nat), i < n → ∀ (H1 : Heap) (locs1 : List Loc) (ls1 : Array Slot), I i H1 locs1 ls1 → W p l e R s m args below meth c H1 locs1 cells slots Q (F0 m pc ls1 rest) := by
    intro n
    induction n with
    | zero => intro i hi; exact absurd hi (Nat.not_lt_zero i)
    | succ n ih =>
      intro i hi H1 locs1 ls1 hI
      exact step i H1 locs1 ls1 hI (fun j H2 locs2 ls2 hj h2 => ih j (by omega) H2 locs2 ls2 h2)
  exact K (i + 1) i (Nat.lt_succ_self i) H locs ls h
theorem r_alen (S : CallFix p m c cc nL s args TB own) (hA : Amb Z s) (hW : Wd Z ws H) {a t0 : Nat} {cA : ClassId} {x : vp_A} {ty : FieldType} (ha : (a, .inl (cA, x)) ∈ ws) (ht : (zty Z)[t0]? = some (cA, ty)) (hdg : decode cc pc = .ok (.arraylength, 1))
    (kk : W p l e R s m args below meth c H locs cells slots Q (F0 m (pc + 1) ls (.int (Int32.ofNat x.1) :: rest))) : W p l e R s m args below meth c H locs cells slots Q (F0 m pc ls (.ref a :: rest)) := by
  obtain ⟨i, hi⟩ := List.getElem?_of_mem ha
  exact va_alen S.1 S.2.1 hA.1 hW.1 i t0 hi ht rfl hdg kk
end LOOPS
def fillG (G : Nat → Int32) (v : Int32) (n : Nat) : Nat → Int32 := fun k => if 32 ≤ k ∧ k < 32 + n then v else G k
theorem fillG_0 {G : Nat → Int32} {v : Int32} : fillG G v 0 = G := by
  funext k
  unfold fillG
  rw [if_neg (by omega)]
theorem fillG_s {G : Nat → Int32} {v : Int32} {n : Nat} : upd (fillG G v n) (32 + n) v = fillG G v (n + 1) := by
  funext k
  unfold fillG upd
  by_cases c : k = 32 + n
  · rw [if_pos c, if_pos (by omega)]
  · rw [if_neg c]
    show (if 32 ≤ k ∧ k < 32 + n then v else G k) = _
    by_cases d : 32 ≤ k ∧ k < 32 + n
    · rw [if_pos d, if_pos (by omega)]
    · rw [if_neg d, if_neg (by omega)]
theorem in16 {x : Int32} (h1 : ¬ x < 16) (h2 : ¬ 32 ≤ x) : vp_in (x - 16) 16 := by
  rw [vp_in_iff]
  have e16 : (16 : Int32).toInt = 16 := rfl
  have e32 : (32 : Int32).toInt = 32 := rfl
  rw [Int32.lt_iff_toInt_lt, e16] at h1
  rw [Int32.le_iff_toInt_le, e32] at h2
  have h : (x - 16).toInt = x.toInt - 16 := by
    rw [Int32.toInt_sub, e16]
    rw [Int.bmod_eq_of_le] <;> omega
  omega
set_option maxRecDepth 100000 in
set_option maxHeartbeats 4000000 in
theorem k_fill (l : Launch) (Z : Zt) (ws : va_W) (q : Nat → Nat) (G : Nat → Int32) (hF : FI ws 3 q) (v : Int32) : Ct l Z yJ7_fill_53178 cJ7_fill_53178 4 none 0 0 0 0 (gw Z ws q G) [.ref (q 2), .int v] (fun r w => r = none ∧ w = gw Z ws q (fillG G v 16)) := by
  refine Ct.start (by decide) (Nat.le_of_ble_eq_true rfl) ?_
  intro p e s m below meth c S hr hlk hnm hA hW hS ls hl
  replace S : CallFix p m c cJ7_fill_53178 4 s _ TB RJ7 := S
  replace hl : lv_has ls 4 [(0, .ref (q 2)), (1, .int v)] := hl
  refine lv_iconst (v := 0) S.1 S.2.1 dJ7_fill_53178_0 (by decide) ?_
  refine lv_istore_n (lv' := [(2, .int 0), (0, .ref (q 2)), (1, .int v)]) S.1 S.2.1 dJ7_fill_53178_1 rfl hl (by decide) rfl (fun ls hl => ?_)
  refine lv_aload_n S.1 S.2.1 dJ7_fill_53178_2 rfl (lv_at hl 1 rfl) ?_
  refine r_alen (t0 := 0) S hA hW (fo_mem (E := gE Z q G) hF 2 (by decide)) rfl dJ7_fill_53178_3 ?_
  refine lv_istore_n (lv' := [(3, .int 16), (2, .int 0), (0, .ref (q 2)), (1, .int v)]) S.1 S.2.1 dJ7_fill_53178_4 rfl hl (by decide) rfl (fun ls hl => ?_)
  refine w_loop (fun d H1 locs1 ls1 => ∃ i, i + d = 16 ∧ Wd Z (gw Z ws q (fillG G v i)) H1 ∧ va_S (zA Z) s.heap H1 locs1 ∧ lv_has ls1 4 [(2, .int (nI i)), (3, .int 16), (0, .ref (q 2)), (1, .int v)]) ?_ 16 ⟨0, rfl, by rw [fillG_0]; exact hW, hS, lv_sub hl [1, 0, 2, 3] rfl⟩
  clear hW hS hl
  rintro d H locs ls ⟨i, hd, hW, hS, hl⟩ ih
  refine lv_iload_n S.1 S.2.1 dJ7_fill_53178_5 rfl (lv_at hl 0 rfl) ?_
  refine lv_iload_n S.1 S.2.1 dJ7_fill_53178_6 rfl (lv_at hl 1 rfl) ?_
  refine lv_icmp_ge (tgt := 20) S.1 S.2.1 dJ7_fill_53178_7 (by decide) (fun c1 => ?_) (fun c1 => ?_)
  · have e : i = 16 := by
      rcases Nat.lt_or_ge i 16 with h | h
      · exact absurd c1 (nI_ge h (by decide))
      · omega
    subst e
    exact r_vret S hr hlk hW hS ⟨rfl, rfl⟩ dJ7_fill_53178_20
  · have hi : i < 16 := by
      rcases Nat.lt_or_ge i 16 with h | h
      · exact h
      · exact absurd (nI_le h (by omega)) c1
    refine lv_aload_n S.1 S.2.1 dJ7_fill_53178_10 rfl (lv_at hl 2 rfl) ?_
    refine lv_iload_n S.1 S.2.1 dJ7_fill_53178_11 rfl (lv_at hl 0 rfl) ?_
    refine lv_iload_n S.1 S.2.1 dJ7_fill_53178_12 rfl (lv_at hl 3 rfl) ?_
    refine g_ast S hA hF hW hS (vp_in_nI hi (by decide)) dJ7_fill_53178_13 (fun H locs hW hS => ?_)
    refine lv_iinc (v := nI (i + 1)) (lv' := [(2, .int (nI (i + 1))), (3, .int 16), (0, .ref (q 2)), (1, .int v)]) S.1 S.2.1 dJ7_fill_53178_14 hl (k := 0) rfl (nI_1 i) (by decide) rfl (fun ls hl => ?_)
    refine lv_goto (tgt := 5) S.1 S.2.1 dJ7_fill_53178_17 (by decide) ?_
    rw [nI_clamp (by omega), fillG_s] at hW
    exact ih (d - 1) H locs ls (by omega) ⟨i + 1, by omega, hW, hS, hl⟩
