section
/-! The ghost machine: its stack instructions, and that the machine does them -/
def iI (a : Int) : Int32 := Int32.ofInt a
/-- a ghost value as the machine has it: cells stand at base + their number; the script at b -/
def reV (base b : Nat) (v : Value) : Value := match v with
  | .ref a => .ref (base + a)
  | .retAddr _ => .ref b
  | v => v
theorem reV_cat (base b : Nat) (v : Value) : (reV base b v).category = v.category := by cases v <;> rfl
def gAlu (ins : Instr) (stk : List Value) : Option (List Value) := match ins, stk with
  | .iconst n, st => some (.int (iI n) :: st)
  | .bipush n, st => if -128 ≤ n ∧ n < 128 then some (.int (iI n) :: st) else none
  | .sipush n, st => if -32768 ≤ n ∧ n < 32768 then some (.int (iI n) :: st) else none
  | .lconst n, st => some (.long (Int64.ofNat n) :: st)
  | .iadd, .int y :: .int x :: st => some (.int (x + y) :: st)
  | .isub, .int y :: .int x :: st => some (.int (x - y) :: st)
  | .imul, .int y :: .int x :: st => some (.int (x * y) :: st)
  | .iand, .int y :: .int x :: st => some (.int (x &&& y) :: st)
  | .ior, .int y :: .int x :: st => some (.int (x ||| y) :: st)
  | .idiv, .int y :: .int x :: st => if y = 0 then none else some (.int (x / y) :: st)
  | .irem, .int y :: .int x :: st => if y = 0 then none else some (.int (x - x / y * y) :: st)
  | .ineg, .int x :: st => some (.int (-x) :: st)
  | .ladd, .long y :: .long x :: st => some (.long (x + y) :: st)
  | .lmul, .long y :: .long x :: st => some (.long (x * y) :: st)
  | .land, .long y :: .long x :: st => some (.long (x &&& y) :: st)
  | .lor, .long y :: .long x :: st => some (.long (x ||| y) :: st)
  | .ldiv, .long y :: .long x :: st => if y = 0 then none else some (.long (x / y) :: st)
  | .lrem, .long y :: .long x :: st => if y = 0 then none else some (.long (x - x / y * y) :: st)
  | .ishl, .int y :: .int x :: st => some (.int (x <<< (y &&& 31)) :: st)
  | .ishr, .int y :: .int x :: st => some (.int (x >>> (y &&& 31)) :: st)
  | .i2l, .int x :: st => some (.long x.toInt64 :: st)
  | .l2i, .long x :: st => some (.int x.toInt32 :: st)
  | .iushr, .int y :: .int x :: st => some (.int (x.toUInt32 >>> (y.toUInt32 &&& Int32.toUInt32 31)).toInt32 :: st)
  | .lushr, .int y :: .long x :: st => some (.long (x.toUInt64 >>> (y.toInt64.toUInt64 &&& Int64.toUInt64 63)).toInt64 :: st)
  | .lshl, .int y :: .long x :: st => some (.long (x <<< (y.toInt64 &&& 63)) :: st)
  | .lshr, .int y :: .long x :: st => some (.long (x >>> (y.toInt64 &&& 63)) :: st)
  | .lcmp, .long y :: .long x :: st => some (.int (lg_cmp x y) :: st)
  | .dup, v :: st => if v.category = 1 then some (v :: v :: st) else none
  | .pop, v :: st => if v.category = 1 then some st else none
  | .dup2, v :: u :: st => if v.category = 1 ∧ u.category = 1 then some (v :: u :: v :: u :: st) else none
  | _, _ => none
/-- how long it is -/
def gLen (ins : Instr) : Nat := match ins with
  | .bipush _ => 2
  | .sipush _ => 3
  | _ => 1
theorem iI_byte (n : Int) (h : -128 ≤ n ∧ n < 128) : (Int8.ofInt n).toInt32 = iI n := by
  apply Int32.toInt_inj.mp
  rw [Int8.toInt_toInt32, iI, Int8.toInt_ofInt_of_le (by omega) (by omega), Int32.toInt_ofInt_of_le (by omega) (by omega)]
theorem iI_short (n : Int) (h : -32768 ≤ n ∧ n < 32768) : (Int16.ofInt n).toInt32 = iI n := by
  apply Int32.toInt_inj.mp
  rw [Int16.toInt_toInt32, iI, Int16.toInt_ofInt_of_le (by omega) (by omega), Int32.toInt_ofInt_of_le (by omega) (by omega)]
section GA
variable {p : Program} {l : Launch} {e : Env} {R : Room} {s : State} {m : MethodId} {args : Array Value} {below : List Frame} {meth : Method} {c : Code} {H : Heap} {locs : List Loc} {cells slots : Nat} {Q : State → Prop}
variable {cc : ByteArray} {pc : Nat} {ls : Array Slot}
set_option maxHeartbeats 4000000 in
theorem gAlu_W (hexec : p.tables.exec = Jvm.exec) (hb : c.code = cc) {ins : Instr} {stk stk' : List Value} {len base b : Nat} (ha : gAlu ins stk = some stk') (hlen : len = gLen ins) (hdg : decode cc pc = .ok (ins, len))
    (k : W p l e R s m args below meth c H locs cells slots Q (F0 m (pc + len) ls (stk'.map (reV base b)))) : W p l e R s m args below meth c H locs cells slots Q (F0 m pc ls (stk.map (reV base b))) := by
  subst hlen
  unfold gAlu at ha
  split at ha
  · cases ha; exact lv_iconst hexec hb hdg rfl k
  · split at ha
    · rename_i hc; cases ha; exact lv_bipush hexec hb hdg (iI_byte _ hc) k
    · cases ha
  · split at ha
    · rename_i hc; cases ha; exact lv_sipush hexec hb hdg (iI_short _ hc) k
    · cases ha
  · cases ha; exact lv_lconst hexec hb hdg rfl k
  · cases ha; exact lv_iadd hexec hb hdg k
  · cases ha; exact lv_isub hexec hb hdg k
  · cases ha; exact lv_imul hexec hb hdg k
  · cases ha; exact lv_iand hexec hb hdg k
  · cases ha; exact lv_ior hexec hb hdg k
  · split at ha
    · cases ha
    · rename_i hc; cases ha; exact lv_idiv hexec hb hdg hc k
  · split at ha
    · cases ha
    · rename_i hc; cases ha; exact lv_irem hexec hb hdg hc k
  · cases ha; exact lv_ineg hexec hb hdg k
  · cases ha; exact lv_ladd hexec hb hdg k
  · cases ha; exact lv_lmul hexec hb hdg k
  · cases ha; exact lv_land hexec hb hdg k
  · cases ha; exact lv_lor hexec hb hdg k
  · split at ha
    · cases ha
    · rename_i hc; cases ha; exact lv_ldiv hexec hb hdg hc k
  · split at ha
    · cases ha
    · rename_i hc; cases ha; exact lv_lrem hexec hb hdg hc k
  · cases ha; exact lv_ishl hexec hb hdg k
  · cases ha; exact lv_ishr hexec hb hdg k
  · cases ha; exact lv_i2l hexec hb hdg rfl k
  · cases ha; exact lv_l2i hexec hb hdg rfl k
  · cases ha; exact lv_iushr hexec hb hdg rfl k
  · cases ha; exact lv_lushr hexec hb hdg rfl k
  · cases ha; exact lv_lshl hexec hb hdg rfl k
  · cases ha; exact lv_lshr hexec hb hdg rfl k
  · cases ha; exact W.lcmp hexec hb hdg k
  · split at ha
    · rename_i hc; cases ha; exact lv_dup hexec hb hdg ((reV_cat base b _).trans hc) k
    · cases ha
  · split at ha
    · rename_i hc; cases ha; exact lv_pop hexec hb hdg ((reV_cat base b _).trans hc) k
    · cases ha
  · split at ha
    · rename_i hc; cases ha; exact lv_dup2_11 hexec hb hdg ((reV_cat base b _).trans hc.1) ((reV_cat base b _).trans hc.2) k
    · cases ha
  · cases ha
end GA
end
section
/-! The ghost machine: its locals -/
abbrev GL : Type := List (Option Value)
def is2 (o : Option Value) : Bool := match o with
  | some v => v.category == 2
  | none => false
def gset1 : GL → Nat → Value → GL
  | [], _, _ => []
  | _ :: l, 0, v => some v :: l
  | o :: l, 1, v => (if is2 o then none else o) :: gset1 l 0 v
  | o :: l, i + 2, v => o :: gset1 l (i + 1) v
def gset2 : GL → Nat → Value → GL
  | [], _, _ => []
  | [_], 0, v => [some v]
  | _ :: _ :: l, 0, v => some v :: none :: l
  | o :: l, 1, v => (if is2 o then none else o) :: gset2 l 0 v
  | o :: l, i + 2, v => o :: gset2 l (i + 1) v
theorem gset1_len : ∀ (l : GL) (i : Nat) (v : Value), (gset1 l i v).length = l.length
  | [], _, _ => by simp [gset1]
  | _ :: l, 0, v => by simp [gset1]
  | o :: l, 1, v => by simp [gset1, gset1_len l 0 v]
  | o :: l, i + 2, v => by simp [gset1, gset1_len l (i + 1) v]
theorem gset2_len : ∀ (l : GL) (i : Nat) (v : Value), (gset2 l i v).length = l.length
  | [], _, _ => by simp [gset2]
  | [_], 0, v => by simp [gset2]
  | _ :: _ :: l, 0, v => by simp [gset2]
  | o :: l, 1, v => by simp [gset2, gset2_len l 0 v]
  | o :: l, i + 2, v => by simp [gset2, gset2_len l (i + 1) v]
theorem gset1_get : ∀ (l : GL) (i : Nat) (v : Value) (j : Nat) (w : Value), (gset1 l i v)[j]? = some (some w) → (j = i ∧ w = v) ∨ (j ≠ i ∧ l[j]? = some (some w) ∧ (j + 1 = i → w.category ≠ 2))
  | [], _, _, j, w, h => by simp [gset1] at h
  | o :: l, 0, v, j, w, h => by
    cases j with
    | zero => simp [gset1] at h; exact Or.inl ⟨rfl, h.symm⟩
    | succ j => simp [gset1] at h; exact Or.inr ⟨by omega, by simpa using h, fun q => by omega⟩
  | o :: l, 1, v, j, w, h => by
    cases j with
    | zero =>
      simp only [gset1, List.getElem?_cons_zero, Option.some.injEq] at h
      split at h
      · cases h
      · rename_i h2
        subst h
        refine Or.inr ⟨by omega, by simp, fun _ q => ?_⟩
        apply h2
        simp [is2, q]
    | succ j =>
      simp only [gset1, List.getElem?_cons_succ] at h
      rcases gset1_get l 0 v j w h with ⟨h1, h2⟩ | ⟨h1, h2, h3⟩
      · exact Or.inl ⟨by omega, h2⟩
      · exact Or.inr ⟨by omega, by simpa using h2, fun q => h3 (by omega)⟩
  | o :: l, i + 2, v, j, w, h => by
    cases j with
    | zero => simp only [gset1, List.getElem?_cons_zero, Option.some.injEq] at h; exact Or.inr ⟨by omega, by simp [h], fun q => by omega⟩
    | succ j =>
      simp only [gset1, List.getElem?_cons_succ] at h
      rcases gset1_get l (i + 1) v j w h with ⟨h1, h2⟩ | ⟨h1, h2, h3⟩
      · exact Or.inl ⟨by omega, h2⟩
      · exact Or.inr ⟨by omega, by simpa using h2, fun q => h3 (by omega)⟩
theorem gset2_get : ∀ (l : GL) (i : Nat) (v : Value) (j : Nat) (w : Value), (gset2 l i v)[j]? = some (some w) → (j = i ∧ w = v) ∨ (j ≠ i ∧ j ≠ i + 1 ∧ l[j]? = some (some w) ∧ (j + 1 = i → w.category ≠ 2))
  | [], _, _, j, w, h => by simp [gset2] at h
  | [o], 0, v, j, w, h => by
    cases j with
    | zero => simp [gset2] at h; exact Or.inl ⟨rfl, h.symm⟩
    | succ j => simp [gset2] at h
  | o :: o2 :: l, 0, v, j, w, h => by
    cases j with
    | zero => simp [gset2] at h; exact Or.inl ⟨rfl, h.symm⟩
    | succ j =>
      cases j with
      | zero => simp [gset2] at h
      | succ j => simp [gset2] at h; exact Or.inr ⟨by omega, by omega, by simpa using h, fun q => by omega⟩
  | o :: l, 1, v, j, w, h => by
    cases j with
    | zero =>
      simp only [gset2, List.getElem?_cons_zero, Option.some.injEq] at h
      split at h
      · cases h
      · rename_i h2
        subst h
        refine Or.inr ⟨by omega, by omega, by simp, fun _ q => ?_⟩
        apply h2
        simp [is2, q]
    | succ j =>
      simp only [gset2, List.getElem?_cons_succ] at h
      rcases gset2_get l 0 v j w h with ⟨h1, h2⟩ | ⟨h1, h0, h2, h3⟩
      · exact Or.inl ⟨by omega, h2⟩
      · exact Or.inr ⟨by omega, by omega, by simpa using h2, fun q => h3 (by omega)⟩
  | o :: l, i + 2, v, j, w, h => by
    cases j with
    | zero => simp only [gset2, List.getElem?_cons_zero, Option.some.injEq] at h; exact Or.inr ⟨by omega, by omega, by simp [h], fun q => by omega⟩
    | succ j =>
      simp only [gset2, List.getElem?_cons_succ] at h
      rcases gset2_get l (i + 1) v j w h with ⟨h1, h2⟩ | ⟨h1, h0, h2, h3⟩
      · exact Or.inl ⟨by omega, h2⟩
      · exact Or.inr ⟨by omega, by omega, by simpa using h2, fun q => h3 (by omega)⟩
/-- the machine's locals hold the ghost's -/
def LH (ls : Array Slot) (nL base b : Nat) (loc : GL) : Prop := loc.length = nL ∧ ls.size = nL ∧ lv_wf ls ∧ ∀ (i : Nat) (v : Value), loc[i]? = some (some v) → ls[i]? = some (.val (reV base b v))
def prs (base b : Nat) (loc : GL) : List (Nat × Value) := (List.range loc.length).filterMap (fun i => match loc[i]? with
  | some (some v) => some (i, reV base b v)
  | _ => none)
theorem prs_in {base b : Nat} {loc : GL} {i : Nat} {v : Value} (h : loc[i]? = some (some v)) : (i, reV base b v) ∈ prs base b loc := by
  refine List.mem_filterMap.mpr ⟨i, List.mem_range.mpr (List.getElem?_eq_some_iff.mp h).1, ?_⟩
  simp [h]
theorem prs_of {base b : Nat} {loc : GL} {q : Nat × Value} (h : q ∈ prs base b loc) : ∃ v, loc[q.1]? = some (some v) ∧ q.2 = reV base b v := by
  obtain ⟨i, -, hi⟩ := List.mem_filterMap.mp h
  split at hi
  · rename_i v hv
    cases hi
    exact ⟨v, hv, rfl⟩
  · cases hi
theorem LH.has {ls : Array Slot} {nL base b : Nat} {loc : GL} (h : LH ls nL base b loc) : lv_has ls nL (prs base b loc) := by
  refine ⟨h.2.1, h.2.2.1, fun q hq => ?_⟩
  obtain ⟨v, h1, h2⟩ := prs_of hq
  rw [h2]
  exact h.2.2.2 _ _ h1
theorem LH.of1 {ls : Array Slot} {nL base b i : Nat} {loc : GL} {v : Value} (hl : loc.length = nL) (h : lv_has ls nL ((i, reV base b v) :: (prs base b loc).filter (fun q => !(q.1 == i) && !(q.1 + 1 == i && q.2.category == 2)))) : LH ls nL base b (gset1 loc i v) := by
  refine ⟨(gset1_len _ _ _).trans hl, h.1, h.2.1, fun j w hw => ?_⟩
  rcases gset1_get loc i v j w hw with ⟨h1, h2⟩ | ⟨h1, h2, h3⟩
  · subst h1; subst h2
    exact h.2.2 _ List.mem_cons_self
  · refine h.2.2 (j, reV base b w) (List.mem_cons_of_mem _ (List.mem_filter.mpr ⟨prs_in h2, ?_⟩))
    simp only [reV_cat, Bool.and_eq_true, Bool.not_eq_true', beq_eq_false_iff_ne, ne_eq, Bool.and_eq_false_iff]
    refine ⟨h1, ?_⟩
    by_cases hj : j + 1 = i
    · exact Or.inr (h3 hj)
    · exact Or.inl hj
theorem LH.of2 {ls : Array Slot} {nL base b i : Nat} {loc : GL} {v : Value} (hl : loc.length = nL) (h : lv_has ls nL ((i, reV base b v) :: (prs base b loc).filter (fun q => !(q.1 == i) && (!(q.1 == i + 1) && !(q.1 + 1 == i && q.2.category == 2))))) : LH ls nL base b (gset2 loc i v) := by
  refine ⟨(gset2_len _ _ _).trans hl, h.1, h.2.1, fun j w hw => ?_⟩
  rcases gset2_get loc i v j w hw with ⟨h1, h2⟩ | ⟨h1, h0, h2, h3⟩
  · subst h1; subst h2
    exact h.2.2 _ List.mem_cons_self
  · refine h.2.2 (j, reV base b w) (List.mem_cons_of_mem _ (List.mem_filter.mpr ⟨prs_in h2, ?_⟩))
    simp only [reV_cat, Bool.and_eq_true, Bool.not_eq_true', beq_eq_false_iff_ne, ne_eq, Bool.and_eq_false_iff]
    refine ⟨h1, h0, ?_⟩
    by_cases hj : j + 1 = i
    · exact Or.inr (h3 hj)
    · exact Or.inl hj
/-- the locals at the entry -/
def gargs : List Value → GL
  | [] => []
  | v :: vs => some v :: (if v.category = 2 then none :: gargs vs else gargs vs)
def gent (nL : Nat) (vs : List Value) : GL := gargs vs ++ List.replicate (nL - (gargs vs).length) none
theorem gargs_len (base b : Nat) : ∀ vs : List Value, (lg_sl (vs.map (reV base b))).length = (gargs vs).length
  | [] => rfl
  | v :: vs => by
    have ih := gargs_len base b vs
    simp only [List.map_cons, lg_sl, List.flatMap_cons, List.length_append, gargs, List.length_cons, reV_cat] at ih ⊢
    split <;> simp only [List.length_cons, List.length_nil] <;> omega
theorem gargs_in (base b : Nat) : ∀ (vs : List Value) (k j : Nat) (w : Value), (gargs vs)[j]? = some (some w) → (k + j, reV base b w) ∈ lv_args k (vs.map (reV base b))
  | [], k, j, w, h => by simp [gargs] at h
  | v :: vs, k, j, w, h => by
    simp only [List.map_cons, lv_args, reV_cat]
    cases j with
    | zero =>
      simp only [gargs, List.getElem?_cons_zero, Option.some.injEq] at h
      subst h
      exact List.mem_cons_self
    | succ j =>
      simp only [gargs, List.getElem?_cons_succ] at h
      refine List.mem_cons_of_mem _ ?_
      split at h
      · rename_i hc
        rw [if_pos hc]
        cases j with
        | zero => simp at h
        | succ j =>
          rw [List.getElem?_cons_succ] at h
          have := gargs_in base b vs (k + 2) j w h
          rwa [show k + 2 + j = k + (j + 1 + 1) by omega] at this
      · rename_i hc
        rw [if_neg hc]
        have := gargs_in base b vs (k + 1) j w h
        rwa [show k + 1 + j = k + (j + 1) by omega] at this
theorem LH.entry (base b : Nat) {nL : Nat} {vs : List Value} (h : (gargs vs).length ≤ nL) : LH ((lg_sl (vs.map (reV base b)) ++ List.replicate (nL - (lg_sl (vs.map (reV base b))).length) Slot.unset).toArray) nL base b (gent nL vs) := by
  have hh := lv_entry (vs.map (reV base b)) (n := nL) (by rw [gargs_len]; exact h)
  refine ⟨by simp [gent]; omega, hh.1, hh.2.1, fun i v hv => ?_⟩
  refine hh.2.2 (i, reV base b v) ?_
  unfold gent at hv
  by_cases hi : i < (gargs vs).length
  · rw [List.getElem?_append_left hi] at hv
    have := gargs_in base b vs 0 i v hv
    rwa [Nat.zero_add] at this
  · rw [List.getElem?_append_right (by omega), List.getElem?_replicate] at hv
    split at hv <;> cases hv
/-- instructions that move values between locals and stack, and goto's like: the new locals, the new stack, how long -/
def gLoc (ins : Instr) (loc : GL) (stk : List Value) : Option (GL × List Value × Nat) := match ins with
  | .iload_n k => match loc[(k : Nat)]? with
    | some (some (.int x)) => some (loc, .int x :: stk, 1)
    | _ => none
  | .iload i => match loc[i]? with
    | some (some (.int x)) => some (loc, .int x :: stk, 2)
    | _ => none
  | .lload_n k => match loc[(k : Nat)]? with
    | some (some (.long x)) => some (loc, .long x :: stk, 1)
    | _ => none
  | .lload i => match loc[i]? with
    | some (some (.long x)) => some (loc, .long x :: stk, 2)
    | _ => none
  | .aload_n k => match loc[(k : Nat)]? with
    | some (some (.ref x)) => some (loc, .ref x :: stk, 1)
    | some (some (.retAddr x)) => some (loc, .retAddr x :: stk, 1)
    | _ => none
  | .aload i => match loc[i]? with
    | some (some (.ref x)) => some (loc, .ref x :: stk, 2)
    | _ => none
  | .istore_n k => match stk with
    | .int x :: st => if (k : Nat) < loc.length then some (gset1 loc k (.int x), st, 1) else none
    | _ => none
  | .istore i => match stk with
    | .int x :: st => if i < loc.length then some (gset1 loc i (.int x), st, 2) else none
    | _ => none
  | .lstore_n k => match stk with
    | .long x :: st => if (k : Nat) + 1 < loc.length then some (gset2 loc k (.long x), st, 1) else none
    | _ => none
  | .lstore i => match stk with
    | .long x :: st => if i + 1 < loc.length then some (gset2 loc i (.long x), st, 2) else none
    | _ => none
  | .astore_n k => match stk with
    | .ref x :: st => if (k : Nat) < loc.length then some (gset1 loc k (.ref x), st, 1) else none
    | _ => none
  | .astore i => match stk with
    | .ref x :: st => if i < loc.length then some (gset1 loc i (.ref x), st, 2) else none
    | _ => none
  | .iinc i n => match loc[i]? with
    | some (some (.int x)) => some (gset1 loc i (.int (x + iI n)), stk, 3)
    | _ => none
  | _ => none
section GLW
variable {p : Program} {l : Launch} {e : Env} {R : Room} {s : State} {m : MethodId} {args : Array Value} {below : List Frame} {meth : Method} {c : Code} {H : Heap} {locs : List Loc} {cells slots : Nat} {Q : State → Prop}
variable {cc : ByteArray} {pc : Nat} {ls : Array Slot}
set_option maxHeartbeats 4000000 in
theorem gLoc_W (hexec : p.tables.exec = Jvm.exec) (hb : c.code = cc) {ins : Instr} {loc loc' : GL} {stk stk' : List Value} {len nL base b : Nat} (hl : LH ls nL base b loc) (ha : gLoc ins loc stk = some (loc', stk', len)) (hdg : decode cc pc = .ok (ins, len))
    (k : ∀ ls', LH ls' nL base b loc' → W p l e R s m args below meth c H locs cells slots Q (F0 m (pc + len) ls' (stk'.map (reV base b)))) : W p l e R s m args below meth c H locs cells slots Q (F0 m pc ls (stk.map (reV base b))) := by
  have hlen := hl.1
  unfold gLoc at ha
  split at ha
  · split at ha
    · rename_i hx; cases ha; exact lv_iload_n hexec hb hdg rfl (hl.2.2.2 _ _ hx) (k _ hl)
    · cases ha
  · split at ha
    · rename_i hx; cases ha; exact lv_iload hexec hb hdg (hl.2.2.2 _ _ hx) (k _ hl)
    · cases ha
  · split at ha
    · rename_i hx; cases ha; exact lv_lload_n hexec hb hdg rfl (hl.2.2.2 _ _ hx) (k _ hl)
    · cases ha
  · split at ha
    · rename_i hx; cases ha; exact lv_lload hexec hb hdg (hl.2.2.2 _ _ hx) (k _ hl)
    · cases ha
  · split at ha
    · rename_i hx; cases ha; exact lv_aload_n hexec hb hdg rfl (hl.2.2.2 _ _ hx) (k _ hl)
    · rename_i hx; cases ha; exact lv_aload_n hexec hb hdg rfl (hl.2.2.2 _ _ hx) (k _ hl)
    · cases ha
  · split at ha
    · rename_i hx; cases ha; exact lv_aload hexec hb hdg (hl.2.2.2 _ _ hx) (k _ hl)
    · cases ha
  · split at ha
    · split at ha
      · rename_i hc; cases ha; exact lv_istore_n hexec hb hdg rfl hl.has (hlen ▸ hc) rfl (fun ls' h => k ls' (LH.of1 hl.1 (v := .int _) h))
      · cases ha
    · cases ha
  · split at ha
    · split at ha
      · rename_i hc; cases ha; exact lv_istore hexec hb hdg hl.has (hlen ▸ hc) rfl (fun ls' h => k ls' (LH.of1 hl.1 (v := .int _) h))
      · cases ha
    · cases ha
  · split at ha
    · split at ha
      · rename_i hc; cases ha; exact lv_lstore_n hexec hb hdg rfl hl.has (hlen ▸ hc) rfl (fun ls' h => k ls' (LH.of2 hl.1 (v := .long _) h))
      · cases ha
    · cases ha
  · split at ha
    · split at ha
      · rename_i hc; cases ha; exact lv_lstore hexec hb hdg hl.has (hlen ▸ hc) rfl (fun ls' h => k ls' (LH.of2 hl.1 (v := .long _) h))
      · cases ha
    · cases ha
  · split at ha
    · split at ha
      · rename_i hc; cases ha; exact lv_astore_n hexec hb hdg rfl hl.has (hlen ▸ hc) rfl (fun ls' h => k ls' (LH.of1 hl.1 (v := .ref _) h))
      · cases ha
    · cases ha
  · split at ha
    · split at ha
      · rename_i hc; cases ha; exact lv_astore hexec hb hdg hl.has (hlen ▸ hc) rfl (fun ls' h => k ls' (LH.of1 hl.1 (v := .ref _) h))
      · cases ha
    · cases ha
  · split at ha
    · rename_i x hx
      cases ha
      have hm := prs_in (base := base) (b := b) hx
      obtain ⟨kk, hkk⟩ := List.getElem?_of_mem hm
      exact lv_iinc hexec hb hdg hl.has hkk rfl (hlen ▸ (List.getElem?_eq_some_iff.mp hx).1) rfl (fun ls' h => k ls' (LH.of1 hl.1 (v := .int _) h))
    · cases ha
  · cases ha
end GLW
end
