/-! The ghost machine: its locals -/
abbrev GL : Type := List (Option Value)
def is2 (o : Option Value) : Bool := match o with
  | some v => v.category == 2
  | none => false
def gset1 : GL → Nat → Value → GL
  | [], _, _ => []
  | _ :: l, 0, v => some v :: l
  | o :: l, 1, v => (if is2 o then none else o) :: gset1 l 0 v
  | o :: l, i + 2, v => o :: gset1 l (i + 1) v
def gset2 : GL → Nat → Value → GL
  | [], _, _ => []
  | [_], 0, v => [some v]
  | _ :: _ :: l, 0, v => some v :: none :: l
  | o :: l, 1, v => (if is2 o then none else o) :: gset2 l 0 v
  | o :: l, i + 2, v => o :: gset2 l (i + 1) v
theorem gset1_len : ∀ (l : GL) (i : Nat) (v : Value), (gset1 l i v).length = l.length
  | [], _, _ => by simp [gset1]
  | _ :: l, 0, v => by simp [gset1]
  | o :: l, 1, v => by simp [gset1, gset1_len l 0 v]
  | o :: l, i + 2, v => by simp [gset1, gset1_len l (i + 1) v]
theorem gset2_len : ∀ (l : GL) (i : Nat) (v : Value), (gset2 l i v).length = l.length
  | [], _, _ => by simp [gset2]
  | [_], 0, v => by simp [gset2]
  | _ :: _ :: l, 0, v => by simp [gset2]
  | o :: l, 1, v => by simp [gset2, gset2_len l 0 v]
  | o :: l, i + 2, v => by simp [gset2, gset2_len l (i + 1) v]
theorem gset1_get : ∀ (l : GL) (i : Nat) (v : Value) (j : Nat) (w : Value), (gset1 l i v)[j]? = some (some w) → (j = i ∧ w = v) ∨ (j ≠ i ∧ l[j]? = some (some w) ∧ (j + 1 = i → w.category ≠ 2))
  | [], _, _, j, w, h => by simp [gset1] at h
  | o :: l, 0, v, j, w, h => by
    cases j with
    | zero => simp [gset1] at h; exact Or.inl ⟨rfl, h.symm⟩
    | succ j => simp [gset1] at h; exact Or.inr ⟨by omega, by simpa using h, fun q => by omega⟩
  | o :: l, 1, v, j, w, h => by
    cases j with
    | zero =>
      simp only [gset1, List.getElem?_cons_zero, Option.some.injEq] at h
      split at h
      · cases h
      · rename_i h2
        subst h
        refine Or.inr ⟨by omega, by simp, fun _ q => ?_⟩
        apply h2
        simp [is2, q]
    | succ j =>
      simp only [gset1, List.getElem?_cons_succ] at h
      rcases gset1_get l 0 v j w h with ⟨h1, h2⟩ | ⟨h1, h2, h3⟩
      · exact Or.inl ⟨by omega, h2⟩
      · exact Or.inr ⟨by omega, by simpa using h2, fun q => h3 (by omega)⟩
  | o :: l, i + 2, v, j, w, h => by
    cases j with
    | zero => simp only [gset1, List.getElem?_cons_zero, Option.some.injEq] at h; exact Or.inr ⟨by omega, by simp [h], fun q => by omega⟩
    | succ j =>
      simp only [gset1, List.getElem?_cons_succ] at h
      rcases gset1_get l (i + 1) v j w h with ⟨h1, h2⟩ | ⟨h1, h2, h3⟩
      · exact Or.inl ⟨by omega, h2⟩
      · exact Or.inr ⟨by omega, by simpa using h2, fun q => h3 (by omega)⟩
theorem gset2_get : ∀ (l : GL) (i : Nat) (v : Value) (j : Nat) (w : Value), (gset2 l i v)[j]? = some (some w) → (j = i ∧ w = v) ∨ (j ≠ i ∧ j ≠ i + 1 ∧ l[j]? = some (some w) ∧ (j + 1 = i → w.category ≠ 2))
  | [], _, _, j, w, h => by simp [gset2] at h
  | [o], 0, v, j, w, h => by
    cases j with
    | zero => simp [gset2] at h; exact Or.inl ⟨rfl, h.symm⟩
    | succ j => simp [gset2] at h
  | o :: o2 :: l, 0, v, j, w, h => by
    cases j with
    | zero => simp [gset2] at h; exact Or.inl ⟨rfl, h.symm⟩
    | succ j =>
      cases j with
      | zero => simp [gset2] at h
      | succ j => simp [gset2] at h; exact Or.inr ⟨by omega, by omega, by simpa using h, fun q => by omega⟩
  | o :: l, 1, v, j, w, h => by
    cases j with
    | zero =>
      simp only [gset2, List.getElem?_cons_zero, Option.some.injEq] at h
      split at h
      · cases h
      · rename_i h2
        subst h
        refine Or.inr ⟨by omega, by omega, by simp, fun _ q => ?_⟩
        apply h2
        simp [is2, q]
    | succ j =>
      simp only [gset2, List.getElem?_cons_succ] at h
      rcases gset2_get l 0 v j w h with ⟨h1, h2⟩ | ⟨h1, h0, h2, h3⟩
      · exact Or.inl ⟨by omega, h2⟩
      · exact Or.inr ⟨by omega, by omega, by simpa using h2, fun q => h3 (by omega)⟩
  | o :: l, i + 2, v, j, w, h => by
    cases j with
    | zero => simp only [gset2, List.getElem?_cons_zero, Option.some.injEq] at h; exact Or.inr ⟨by omega, by omega, by simp [h], fun q => by omega⟩
    | succ j =>
      simp only [gset2, List.getElem?_cons_succ] at h
      rcases gset2_get l (i + 1) v j w h with ⟨h1, h2⟩ | ⟨h1, h0, h2, h3⟩
      · exact Or.inl ⟨by omega, h2⟩
      · exact Or.inr ⟨by omega, by omega, by simpa using h2, fun q => h3 (by omega)⟩
/-- the machine's locals hold the ghost's -/
def LH (ls : Array Slot) (nL base b : Nat) (loc : GL) : Prop := loc.length = nL ∧ ls.size = nL ∧ lv_wf ls ∧ ∀ (i : Nat) (v : Value), loc[i]? = some (some v) → ls[i]? = some (.val (reV base b v))
def prs (base b : Nat) (loc : GL) : List (Nat × Value) := (List.range loc.length).filterMap (fun i => match loc[i]? with
  | some (some v) => some (i, reV base b v)
  | _ => none)
theorem prs_in {base b : Nat} {loc : GL} {i : Nat} {v : Value} (h : loc[i]? = some (some v)) : (i, reV base b v) ∈ prs base b loc := by
  refine List.mem_filterMap.mpr ⟨i, List.mem_range.mpr (List.getElem?_eq_some_iff.mp h).1, ?_⟩
  simp [h]
theorem prs_of {base b : Nat} {loc : GL} {q : Nat × Value} (h : q ∈ prs base b loc) : ∃ v, loc[q.1]? = some (some v) ∧ q.2 = reV base b v := by
  obtain ⟨i, -, hi⟩ := List.mem_filterMap.mp h
  split at hi
  · rename_i v hv
    cases hi
    exact ⟨v, hv, rfl⟩
  · cases hi
theorem LH.has {ls : Array Slot} {nL base b : Nat} {loc : GL} (h : LH ls nL base b loc) : lv_has ls nL (prs base b loc) := by
  refine ⟨h.2.1, h.2.2.1, fun q hq => ?_⟩
  obtain ⟨v, h1, h2⟩ := prs_of hq
  rw [h2]
  exact h.2.2.2 _ _ h1
theorem LH.of1 {ls : Array Slot} {nL base b i : Nat} {loc : GL} {v : Value} (hl : loc.length = nL) (h : lv_has ls nL ((i, reV base b v) :: (prs base b loc).filter (fun q => !(q.1 == i) && !(q.1 + 1 == i && q.2.category == 2)))) : LH ls nL base b (gset1 loc i v) := by
  refine ⟨(gset1_len _ _ _).trans hl, h.1, h.2.1, fun j w hw => ?_⟩
  rcases gset1_get loc i v j w hw with ⟨h1, h2⟩ | ⟨h1, h2, h3⟩
  · subst h1; subst h2
    exact h.2.2 _ List.mem_cons_self
  · refine h.2.2 (j, reV base b w) (List.mem_cons_of_mem _ (List.mem_filter.mpr ⟨prs_in h2, ?_⟩))
    simp only [reV_cat, Bool.and_eq_true, Bool.not_eq_true', beq_eq_false_iff_ne, ne_eq, Bool.and_eq_false_iff]
    refine ⟨h1, ?_⟩
    by_cases hj : j + 1 = i
    · exact Or.inr (h3 hj)
    · exact Or.inl hj
theorem LH.of2 {ls : Array Slot} {nL base b i : Nat} {loc : GL} {v : Value} (hl : loc.length = nL) (h : lv_has ls nL ((i, reV base b v) :: (prs base b loc).filter (fun q => !(q.1 == i) && (!(q.1 == i + 1) && !(q.1 + 1 == i && q.2.category == 2))))) : LH ls nL base b (gset2 loc i v) := by
  refine ⟨(gset2_len _ _ _).trans hl, h.1, h.2.1, fun j w hw => ?_⟩
  rcases gset2_get loc i v j w hw with ⟨h1, h2⟩ | ⟨h1, h0, h2, h3⟩
  · subst h1; subst h2
    exact h.2.2 _ List.mem_cons_self
  · refine h.2.2 (j, reV base b w) (List.mem_cons_of_mem _ (List.mem_filter.mpr ⟨prs_in h2, ?_⟩))
    simp only [reV_cat, Bool.and_eq_true, Bool.not_eq_true', beq_eq_false_iff_ne, ne_eq, Bool.and_eq_false_iff]
    refine ⟨h1, h0, ?_⟩
    by_cases hj : j + 1 = i
    · exact Or.inr (h3 hj)
    · exact Or.inl hj
/-- the locals at the entry -/
def gargs : List Value → GL
  | [] => []
  | v :: vs => some v :: (if v.category = 2 then none :: gargs vs else gargs vs)
def gent (nL : Nat) (vs : List Value) : GL := gargs vs ++ List.replicate (nL - (gargs vs).length) none
theorem gargs_len (base b : Nat) : ∀ vs : List Value, (lg_sl (vs.map (reV base b))).length = (gargs vs).length
  | [] => rfl
  | v :: vs => by
    have ih := gargs_len base b vs
    simp only [List.map_cons, lg_sl, List.flatMap_cons, List.length_append, gargs, List.length_cons, reV_cat] at ih ⊢
    split <;> simp only [List.length_cons, List.length_nil] <;> omega
theorem gargs_in (base b : Nat) : ∀ (vs : List Value) (k j : Nat) (w : Value), (gargs vs)[j]? = some (some w) → (k + j, reV base b w) ∈ lv_args k (vs.map (reV base b))
  | [], k, j, w, h => by simp [gargs] at h
  | v :: vs, k, j, w, h => by
    simp only [List.map_cons, lv_args, reV_cat]
    cases j with
    | zero =>
      simp only [gargs, List.getElem?_cons_zero, Option.some.injEq] at h
      subst h
      exact List.mem_cons_self
    | succ j =>
      simp only [gargs, List.getElem?_cons_succ] at h
      refine List.mem_cons_of_mem _ ?_
      split at h
      · rename_i hc
        rw [if_pos hc]
        cases j with
        | zero => simp at h
        | succ j =>
          rw [List.getElem?_cons_succ] at h
          have := gargs_in base b vs (k + 2) j w h
          rwa [show k + 2 + j = k + (j + 1 + 1) by omega] at this
      · rename_i hc
        rw [if_neg hc]
        have := gargs_in base b vs (k + 1) j w h
        rwa [show k + 1 + j = k + (j + 1) by omega] at this
theorem LH.entry (base b : Nat) {nL : Nat} {vs : List Value} (h : (gargs vs).length ≤ nL) : LH ((lg_sl (vs.map (reV base b)) ++ List.replicate (nL - (lg_sl (vs.map (reV base b))).length) Slot.unset).toArray) nL base b (gent nL vs) := by
  have hh := lv_entry (vs.map (reV base b)) (n := nL) (by rw [gargs_len]; exact h)
  refine ⟨by simp [gent]; omega, hh.1, hh.2.1, fun i v hv => ?_⟩
  refine hh.2.2 (i, reV base b v) ?_
  unfold gent at hv
  by_cases hi : i < (gargs vs).length
  · rw [List.getElem?_append_left hi] at hv
    have := gargs_in base b vs 0 i v hv
    rwa [Nat.zero_add] at this
  · rw [List.getElem?_append_right (by omega), List.getElem?_replicate] at hv
    split at hv <;> cases hv
/-- instructions that move values between locals and stack, and goto's like: the new locals, the new stack, how long -/
def gLoc (ins : Instr) (loc : GL) (stk : List Value) : Option (GL × List Value × Nat) := match ins with
  | .iload_n k => match loc[(k : Nat)]? with
    | some (some (.int x)) => some (loc, .int x :: stk, 1)
    | _ => none
  | .iload i => match loc[i]? with
    | some (some (.int x)) => some (loc, .int x :: stk, 2)
    | _ => none
  | .lload_n k => match loc[(k : Nat)]? with
    | some (some (.long x)) => some (loc, .long x :: stk, 1)
    | _ => none
  | .lload i => match loc[i]? with
    | some (some (.long x)) => some (loc, .long x :: stk, 2)
    | _ => none
  | .aload_n k => match loc[(k : Nat)]? with
    | some (some (.ref x)) => some (loc, .ref x :: stk, 1)
    | some (some (.retAddr x)) => some (loc, .retAddr x :: stk, 1)
    | _ => none
  | .aload i => match loc[i]? with
    | some (some (.ref x)) => some (loc, .ref x :: stk, 2)
    | _ => none
  | .istore_n k => match stk with
    | .int x :: st => if (k : Nat) < loc.length then some (gset1 loc k (.int x), st, 1) else none
    | _ => none
  | .istore i => match stk with
    | .int x :: st => if i < loc.length then some (gset1 loc i (.int x), st, 2) else none
    | _ => none
  | .lstore_n k => match stk with
    | .long x :: st => if (k : Nat) + 1 < loc.length then some (gset2 loc k (.long x), st, 1) else none
    | _ => none
  | .lstore i => match stk with
    | .long x :: st => if i + 1 < loc.length then some (gset2 loc i (.long x), st, 2) else none
    | _ => none
  | .astore_n k => match stk with
    | .ref x :: st => if (k : Nat) < loc.length then some (gset1 loc k (.ref x), st, 1) else none
    | _ => none
  | .astore i => match stk with
    | .ref x :: st => if i < loc.length then some (gset1 loc i (.ref x), st, 2) else none
    | _ => none
  | .iinc i n => match loc[i]? with
    | some (some (.int x)) => some (gset1 loc i (.int (x + iI n)), stk, 3)
    | _ => none
  | _ => none
section GLW
variable {p : Program} {l : Launch} {e : Env} {R : Room} {s : State} {m : MethodId} {args : Array Value} {below : List Frame} {meth : Method} {c : Code} {H : Heap} {locs : List Loc} {cells slots : Nat} {Q : State → Prop}
variable {cc : ByteArray} {pc : Nat} {ls : Array Slot}
set_option maxHeartbeats 4000000 in
theorem gLoc_W (hexec : p.tables.exec = Jvm.exec) (hb : c.code = cc) {ins : Instr} {loc loc' : GL} {stk stk' : List Value} {len nL base b : Nat} (hl : LH ls nL base b loc) (ha : gLoc ins loc stk = some (loc', stk', len)) (hdg : decode cc pc = .ok (ins, len))
    (k : ∀ ls', LH ls' nL base b loc' → W p l e R s m args below meth c H locs cells slots Q (F0 m (pc + len) ls' (stk'.map (reV base b)))) : W p l e R s m args below meth c H locs cells slots Q (F0 m pc ls (stk.map (reV base b))) := by
  have hlen := hl.1
  unfold gLoc at ha
  split at ha
  · split at ha
    · rename_i hx; cases ha; exact lv_iload_n hexec hb hdg rfl (hl.2.2.2 _ _ hx) (k _ hl)
    · cases ha
  · split at ha
    · rename_i hx; cases ha; exact lv_iload hexec hb hdg (hl.2.2.2 _ _ hx) (k _ hl)
    · cases ha
  · split at ha
    · rename_i hx; cases ha; exact lv_lload_n hexec hb hdg rfl (hl.2.2.2 _ _ hx) (k _ hl)
    · cases ha
  · split at ha
    · rename_i hx; cases ha; exact lv_lload hexec hb hdg (hl.2.2.2 _ _ hx) (k _ hl)
    · cases ha
  · split at ha
    · rename_i hx; cases ha; exact lv_aload_n hexec hb hdg rfl (hl.2.2.2 _ _ hx) (k _ hl)
    · rename_i hx; cases ha; exact lv_aload_n hexec hb hdg rfl (hl.2.2.2 _ _ hx) (k _ hl)
    · cases ha
  · split at ha
    · rename_i hx; cases ha; exact lv_aload hexec hb hdg (hl.2.2.2 _ _ hx) (k _ hl)
    · cases ha
  · split at ha
    · split at ha
      · rename_i hc; cases ha; exact lv_istore_n hexec hb hdg rfl hl.has (hlen ▸ hc) rfl (fun ls' h => k ls' (LH.of1 hl.1 (v := .int _) h))
      · cases ha
    · cases ha
  · split at ha
    · split at ha
      · rename_i hc; cases ha; exact lv_istore hexec hb hdg hl.has (hlen ▸ hc) rfl (fun ls' h => k ls' (LH.of1 hl.1 (v := .int _) h))
      · cases ha
    · cases ha
  · split at ha
    · split at ha
      · rename_i hc; cases ha; exact lv_lstore_n hexec hb hdg rfl hl.has (hlen ▸ hc) rfl (fun ls' h => k ls' (LH.of2 hl.1 (v := .long _) h))
      · cases ha
    · cases ha
  · split at ha
    · split at ha
      · rename_i hc; cases ha; exact lv_lstore hexec hb hdg hl.has (hlen ▸ hc) rfl (fun ls' h => k ls' (LH.of2 hl.1 (v := .long _) h))
      · cases ha
    · cases ha
  · split at ha
    · split at ha
      · rename_i hc; cases ha; exact lv_astore_n hexec hb hdg rfl hl.has (hlen ▸ hc) rfl (fun ls' h => k ls' (LH.of1 hl.1 (v := .ref _) h))
      · cases ha
    · cases ha
  · split at ha
    · split at ha
      · rename_i hc; cases ha; exact lv_astore hexec hb hdg hl.has (hlen ▸ hc) rfl (fun ls' h => k ls' (LH.of1 hl.1 (v := .ref _) h))
      · cases ha
    · cases ha
  · split at ha
    · rename_i x hx
      cases ha
      have hm := prs_in (base := base) (b := b) hx
      obtain ⟨kk, hkk⟩ := List.getElem?_of_mem hm
      exact lv_iinc hexec hb hdg hl.has hkk rfl (hlen ▸ (List.getElem?_eq_some_iff.mp hx).1) rfl (fun ls' h => k ls' (LH.of1 hl.1 (v := .int _) h))
    · cases ha
  · cases ha
end GLW
