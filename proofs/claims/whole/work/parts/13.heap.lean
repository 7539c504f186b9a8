/-! The ghost machine: its heap -/
abbrev GC : Type := (Nat × List Value) ⊕ (Nat × List Value)
abbrev GH : Type := List GC
def ival (v : Value) : Int32 := match v with
  | .int x => x
  | _ => 0
def orf (base : Nat) (v : Value) : Option Nat := match v with
  | .ref a => some (base + a)
  | _ => none
/-- an array of kind kd: 0 ints, 1 booleans, 2 towers, 3 rows of ints -/
def reA (base kd : Nat) (vs : List Value) : vp_A := (vs.length, if kd ≤ 1 then .inl (fun j => ival (vs.getD j .null)) else .inr (.inr (.inr (.inr (fun j => orf base (vs.getD j .null))))))
def reC (base b : Nat) (dA : Nat → ClassId) (c : GC) : va_E := match c with
  | .inl (kd, vs) => .inl (dA kd, reA base kd vs)
  | .inr (ci, fs) => .inr (ci, fs.map (reV base b))
def wsO (base b : Nat) (dA : Nat → ClassId) (hp : GH) : va_W := hp.mapIdx (fun i c => (base + i, reC base b dA c))
theorem wsO_get {base b : Nat} {dA : Nat → ClassId} {hp : GH} {i : Nat} {c : GC} (h : hp[i]? = some c) : (wsO base b dA hp)[i]? = some (base + i, reC base b dA c) := by
  simp [wsO, List.getElem?_mapIdx, h]
theorem wsO_inv {base b : Nat} {dA : Nat → ClassId} {hp : GH} {i : Nat} {q : Nat × va_E} (h : (wsO base b dA hp)[i]? = some q) : i < hp.length ∧ q.1 = base + i := by
  rw [wsO, List.getElem?_mapIdx] at h
  cases hc : hp[i]? with
  | none => rw [hc] at h; cases h
  | some c => rw [hc] at h; cases h; exact ⟨(List.getElem?_eq_some_iff.mp hc).1, rfl⟩
theorem wsO_set {base b : Nat} {dA : Nat → ClassId} {hp : GH} {i : Nat} {c : GC} : (wsO base b dA hp).set i (base + i, reC base b dA c) = wsO base b dA (hp.set i c) := by
  apply List.ext_getElem?
  intro j
  simp only [wsO, List.getElem?_set, List.getElem?_mapIdx, List.length_mapIdx]
  by_cases hj : i = j
  · subst hj
    by_cases hl : i < hp.length
    · simp [hl]
    · simp [hl]
  · simp [hj]
theorem wsO_app {base b : Nat} {dA : Nat → ClassId} {hp : GH} {c : GC} : wsO base b dA hp ++ [(base + hp.length, reC base b dA c)] = wsO base b dA (hp ++ [c]) := by
  simp [wsO, List.mapIdx_append]
theorem wsO_D {base b : Nat} {dA : Nat → ClassId} {hp : GH} : va_D (fun q => base ≤ q) (wsO base b dA hp) := by
  refine ⟨fun i j p q hi hj hpq => ?_, fun k q hk => ?_⟩
  · have h1 := (wsO_inv hi).2
    have h2 := (wsO_inv hj).2
    omega
  · have h1 := (wsO_inv hk).2
    show base ≤ q.1
    omega
def tysO (dA : Nat → ClassId) : List (ClassId × FieldType) := [(dA 0, .int), (dA 1, .boolean), (dA 2, .object "OvensAbove$Tower"), (dA 3, .array .int)]
/-- the heap holds the ghost's cells, and nothing behind them -/
def Sm (base b : Nat) (D : va_G) (dA : Nat → ClassId) (hp : GH) (H : Heap) : Prop := H.size = base + hp.length ∧ va_P D vwCl (wsO base b dA hp) H
def ix (i : Int32) (n : Nat) : Option Nat := if 0 ≤ i.toInt ∧ i.toInt < (n : Int) then some i.toInt.toNat else none
theorem ix_in {i : Int32} {n j : Nat} (h : ix i n = some j) : vp_in i n ∧ i.toNatClampNeg = j ∧ j < n := by
  unfold ix at h
  split at h
  · rename_i hc
    cases h
    exact ⟨vp_in_iff.mpr hc, rfl, by omega⟩
  · cases h
/-- may a field of this type hold this value -/
def fty (ty : FieldType) (v : Value) : Bool := match ty, v with
  | .int, .int _ => true
  | .object _, .ref _ => true
  | .array _, .ref _ => true
  | _, _ => false
theorem fty_ok {ty : FieldType} {v : Value} (base b : Nat) (h : fty ty v = true) : narrow ty (reV base b v) = reV base b v ∧ fits ty (reV base b v) = true := by
  unfold fty at h
  split at h
  · exact ⟨rfl, rfl⟩
  · exact ⟨rfl, rfl⟩
  · exact ⟨rfl, rfl⟩
  · cases h
def fin (ci k : Nat) : Bool := match vwCl[ci]? with
  | some (_, T, _) => (T k).2.2.2
  | none => false
def dfl (ci : Nat) : List Value := match vwCl[ci]? with
  | some (_, _, N) => (List.range N).map (fun k => defaultValue (tyC ci k))
  | none => []
def cpyL (vs ws : List Value) (sp dp n : Nat) : List Value := (List.range ws.length).map (fun k => if dp ≤ k ∧ k < dp + n then vs.getD (sp + (k - dp)) .null else ws.getD k .null)
/-- instructions over the heap: the new heap, the new stack, how long, cells and slots made -/
def gHp (xs : Option (List Int32)) (cn : Nat) (ini : Bool) (ins : Instr) (hp : GH) (stk : List Value) : Option (GH × List Value × Nat × Nat × Nat) := match ins with
  | .getfield idx => match stk with
    | .ref a :: st => match hp[a]?, fT cn idx with
      | some (.inr (ci, fs)), some (ci', k) => if ci = ci' then (match fs[k]? with
        | some v => some (hp, v :: st, 3, 0, 0)
        | none => none) else none
      | _, _ => none
    | _ => none
  | .putfield idx => match stk with
    | v :: .ref a :: st => match hp[a]?, fT cn idx with
      | some (.inr (ci, fs)), some (ci', k) => if ci = ci' ∧ k < fs.length ∧ fty (tyC ci k) v = true ∧ (fin ci k = true → ini = true ∧ cn = ci) then some (hp.set a (.inr (ci, fs.set k v)), st, 3, 0, 0) else none
      | _, _ => none
    | _ => none
  | .iaload => match stk with
    | .int i :: .ref a :: st => match hp[a]? with
      | some (.inl (0, vs)) => match ix i vs.length with
        | some j => match vs[j]? with
          | some (.int x) => some (hp, .int x :: st, 1, 0, 0)
          | _ => none
        | none => none
      | _ => none
    | .int i :: .retAddr _ :: st => match xs with
      | some l => match ix i l.length with
        | some j => some (hp, .int (l.getD j 0) :: st, 1, 0, 0)
        | none => none
      | none => none
    | _ => none
  | .baload => match stk with
    | .int i :: .ref a :: st => match hp[a]? with
      | some (.inl (1, vs)) => match ix i vs.length with
        | some j => match vs[j]? with
          | some (.int x) => some (hp, .int x :: st, 1, 0, 0)
          | _ => none
        | none => none
      | _ => none
    | _ => none
  | .aaload => match stk with
    | .int i :: .ref a :: st => match hp[a]? with
      | some (.inl (kd, vs)) => if kd = 2 ∨ kd = 3 then (match ix i vs.length with
        | some j => match vs[j]? with
          | some (.ref x) => some (hp, .ref x :: st, 1, 0, 0)
          | _ => none
        | none => none) else none
      | _ => none
    | _ => none
  | .iastore => match stk with
    | .int x :: .int i :: .ref a :: st => match hp[a]? with
      | some (.inl (0, vs)) => match ix i vs.length with
        | some j => some (hp.set a (.inl (0, vs.set j (.int x))), st, 1, 0, 0)
        | none => none
      | _ => none
    | _ => none
  | .bastore => match stk with
    | .int x :: .int i :: .ref a :: st => match hp[a]? with
      | some (.inl (1, vs)) => match ix i vs.length with
        | some j => if x = 0 ∨ x = 1 then some (hp.set a (.inl (1, vs.set j (.int x))), st, 1, 0, 0) else none
        | none => none
      | _ => none
    | _ => none
  | .aastore => match stk with
    | .ref r :: .int i :: .ref a :: st => match hp[a]?, hp[r]? with
      | some (.inl (2, vs)), some (.inr (9, _)) => match ix i vs.length with
        | some j => some (hp.set a (.inl (2, vs.set j (.ref r))), st, 1, 0, 0)
        | none => none
      | _, _ => none
    | _ => none
  | .arraylength => match stk with
    | .retAddr _ :: st => match xs with
      | some l => some (hp, .int (Int32.ofNat l.length) :: st, 1, 0, 0)
      | none => none
    | _ => none
  | .new idx => match cT cn idx with
    | some ci => some (hp ++ [.inr (ci, dfl ci)], .ref hp.length :: stk, 3, 1, (dfl ci).length)
    | none => none
  | .newarray ty => match stk with
    | .int n :: st => match ix n 100000, ty with
      | some k, .int => some (hp ++ [.inl (0, List.replicate k (.int 0))], .ref hp.length :: st, 2, 1, k)
      | some k, .boolean => some (hp ++ [.inl (1, List.replicate k (.int 0))], .ref hp.length :: st, 2, 1, k)
      | _, _ => none
    | _ => none
  | .anewarray idx => match stk with
    | .int n :: st => match ix n 100000 with
      | some k => if aT cn idx = true then some (hp ++ [.inl (2, List.replicate k .null)], .ref hp.length :: st, 3, 1, k) else none
      | none => none
    | _ => none
  | .multianewarray idx 2 => match stk with
    | .int k :: .int n :: st => if cn = 5 ∧ idx = 18 ∧ n = 5 ∧ k = 6 then some (hp ++ [.inl (3, (List.range 5).map (fun i => .ref (hp.length + 1 + i)))] ++ List.replicate 5 (.inl (0, List.replicate 6 (.int 0))), .ref hp.length :: st, 4, 6, 35) else none
    | _ => none
  | .ldc2_w idx => match lT cn idx with
    | some v => some (hp, .long v :: stk, 3, 0, 0)
    | none => none
  | .ldc_w idx => match iT cn idx with
    | some v => some (hp, .int v :: stk, 3, 0, 0)
    | none => none
  | .invokestatic idx => if bT cn idx = true then (match stk with
      | .int x :: st => if (st.map fun v => v.category).sum ≤ 8 then some (hp, .int (if 0 ≤ x then x else 0 - x) :: st, 3, 0, 0) else none
      | _ => none)
    else if pT cn idx = true then (match stk with
      | .int n :: .int dp :: .ref a :: .int sp :: .ref a0 :: st => match hp[a0]?, hp[a]? with
        | some (.inl (0, vs)), some (.inl (0, ws)) => if 0 ≤ sp.toInt ∧ 0 ≤ dp.toInt ∧ 0 ≤ n.toInt ∧ sp.toInt + n.toInt ≤ (vs.length : Int) ∧ dp.toInt + n.toInt ≤ (ws.length : Int) ∧ (st.map fun v => v.category).sum ≤ 8 then some (hp.set a (.inl (0, cpyL vs ws sp.toInt.toNat dp.toInt.toNat n.toInt.toNat)), st, 3, 0, 0) else none
        | _, _ => none
      | _ => none)
    else none
  | .invokespecial idx => if oT cn idx = true then (match stk with
      | .ref a :: st => if (st.map fun v => v.category).sum ≤ 8 then some (hp, st, 3, 0, 0) else none
      | _ => none) else none
  | _ => none
