/-! The ghost machine's runs, and that the machine follows them -/
def gRet (ret : Option FieldType) (ins : Instr) (stk : List Value) : Option (Option Value) := match ins with
  | .ireturn => match stk, ret with
    | [.int x], some .int => some (some (.int x))
    | [.int x], some .boolean => if x = 0 ∨ x = 1 then some (some (.int x)) else none
    | _, _ => none
  | .lreturn => match stk, ret with
    | [.long x], some .long => some (some (.long x))
    | _, _ => none
  | .return_ => match stk, ret with
    | [], none => some none
    | _, _ => none
  | _ => none
def wgt (st : List Value) : Nat := (st.map fun v => v.category).sum
def nM (mid : Nat) : Nat := match mis[mid]? with
  | some (_, _, _, _, _, _, _, n) => n
  | none => 0
def clM (mid : Nat) : Nat := match mis[mid]? with
  | some (_, _, _, _, cn, _, _, _) => cn
  | none => 99
def cM (mid : Nat) : Nat := match mis[mid]? with
  | some (_, _, _, _, _, mc, _, _) => mc
  | none => 0
def sM (mid : Nat) : Nat := match mis[mid]? with
  | some (_, _, _, _, _, _, ms, _) => ms
  | none => 0
/-- a call: the callee, its arguments, the stack that stays -/
def gCall (cn : Nat) (ins : Instr) (hp : GH) (stk : List Value) : Option (Nat × List Value × List Value) := match ins with
  | .invokevirtual idx => match mT cn idx with
    | some (mid, 0) => match stk.drop (nM mid) with
      | .ref o :: rest => match hp[o]? with
        | some (.inr (ci, _)) => if ci = clM mid ∧ nM mid ≤ stk.length ∧ wgt rest ≤ 8 then some (mid, .ref o :: (stk.take (nM mid)).reverse, rest) else none
        | _ => none
      | _ => none
    | _ => none
  | .invokestatic idx => match mT cn idx with
    | some (mid, 1) => if nM mid ≤ stk.length ∧ wgt (stk.drop (nM mid)) ≤ 8 then some (mid, (stk.take (nM mid)).reverse, stk.drop (nM mid)) else none
    | _ => none
  | .invokespecial idx => match mT cn idx with
    | some (mid, kd) => if kd = 2 ∨ kd = 3 then (match stk.drop (nM mid) with
      | .ref o :: rest => if nM mid ≤ stk.length ∧ wgt rest ≤ 8 then some (mid, .ref o :: (stk.take (nM mid)).reverse, rest) else none
      | _ => none) else none
    | _ => none
  | _ => none
/-- within k steps from here the method returns, with Q of its answer and its heap -/
def GoF (call : Nat → List Value → GH → (Option Value → GH → Prop) → Prop) (xs : Option (List Int32)) (cn : Nat) (ini : Bool) (ret : Option FieldType) (mc ms n0 : Nat) (cc : ByteArray) (Q : Option Value → GH → Prop) : Nat → Nat → GL → List Value → GH → Nat → Prop
  | 0, _, _, _, _, _ => False
  | k + 1, pc, loc, stk, hp, ns => ∃ (ins : Instr) (len : Nat), decode cc pc = .ok (ins, len) ∧
    ((∃ stk', gAlu ins stk = some stk' ∧ len = gLen ins ∧ GoF call xs cn ini ret mc ms n0 cc Q k (pc + len) loc stk' hp ns) ∨
     (∃ loc' stk', gLoc ins loc stk = some (loc', stk', len) ∧ GoF call xs cn ini ret mc ms n0 cc Q k (pc + len) loc' stk' hp ns) ∨
     (∃ t tk stk', gBr ins pc stk = some (t, tk, stk') ∧ gThree ins len = true ∧ GoF call xs cn ini ret mc ms n0 cc Q k (if tk = true then t else pc + 3) loc stk' hp ns) ∨
     (∃ hp' stk' dc ds, gHp xs cn ini ins hp stk = some (hp', stk', len, dc, ds) ∧ ((dc = 0 ∧ ds = 0) ∨ (hp.length + dc ≤ n0 + mc ∧ ns + ds ≤ ms)) ∧ GoF call xs cn ini ret mc ms n0 cc Q k (pc + len) loc stk' hp' (ns + ds)) ∨
     (∃ mid as rest, gCall cn ins hp stk = some (mid, as, rest) ∧ len = 3 ∧ ((cM mid = 0 ∧ sM mid = 0) ∨ (hp.length + cM mid ≤ n0 + mc ∧ ns + sM mid ≤ ms)) ∧ call mid as hp (fun v hp' => GoF call xs cn ini ret mc ms n0 cc Q k (pc + 3) loc (v.toList ++ rest) hp' (ns + sM mid))) ∨
     (∃ v, gRet ret ins stk = some v ∧ len = 1 ∧ (mc = 0 ∨ hp.length = n0 + mc) ∧ Q v hp))
/-- method mid, at most d calls deep -/
def CallD : Nat → Nat → List Value → GH → (Option Value → GH → Prop) → Prop
  | 0, _, _, _, _ => False
  | d + 1, mid, as, hp, Q => ∃ (y : MethodName) (cc : ByteArray) (nL : Nat) (ret : Option FieldType) (cn mc ms n : Nat), mis[mid]? = some (y, cc, nL, ret, cn, mc, ms, n) ∧ (gargs as).length ≤ nL ∧
    ∃ k, GoF (CallD d) none cn (y.name == "<init>") ret mc ms hp.length cc Q k 0 (gent nL as) [] hp 0
def rmD (d mc ms : Nat) : Room := { frames := d, cells := mc, slots := ms, locals := 100 * d }
def PcG (D : va_G) (dA : Nat → ClassId) (base b : Nat) (as : List Value) (hp : GH) : Array Value → State → Prop := va_Pc (as.map (reV base b)) (fun U => Sm base b D dA hp U.heap ∧ KK D dA U)
def QcG (D : va_G) (dA : Nat → ClassId) (base b : Nat) (hp : GH) (mc : Nat) (Q : Option Value → GH → Prop) : Array Value → State → Outcome → State → Prop := fun _ st oc t => (∃ (v : Option Value) (hp' : GH), oc = .returned (v.map (reV base b)) ∧ Q v hp' ∧ Sm base b D dA hp' t.heap ∧ hp'.length = hp.length + mc) ∧ va_F (fun q => base ≤ q) st t
def MetG (l : Launch) (D : va_G) (dA : Nat → ClassId) (base b d mid : Nat) (as : List Value) (hp : GH) (Q : Option Value → GH → Prop) : Prop :=
  ∀ (y : MethodName) (cc : ByteArray) (nL : Nat) (ret : Option FieldType) (cn mc ms n : Nat), mis[mid]? = some (y, cc, nL, ret, cn, mc, ms, n) →
    Met l y (.code y cc nL ret :: TT) (rmD d mc ms) (PcG D dA base b as hp) (QcG D dA base b hp mc Q) mc ms (fun q => base ≤ q)
theorem KK.warm {D : va_G} {dA : Nat → ClassId} {s U : State} (hW : s.WarmedH U.vm) (h : KK D dA s) : KK D dA U :=
  ⟨va_K.moved hW.alike h.1, va_AO.moved hW.alike h.2.1, h.2.2.1.moved hW.alike, h.2.2.2.1.warmM hW, h.2.2.2.2.1.warmM hW, h.2.2.2.2.2.warmM hW⟩
theorem PcG.blind {D : va_G} {dA : Nat → ClassId} {base b : Nat} {as : List Value} {hp : GH} : FrameBlind (PcG D dA base b as hp) := by
  intro a U g mk h
  obtain ⟨h1, h2, h3, h4, h8, h5, h6, h7⟩ := h
  exact ⟨h1, h2, va_K.moved (u := U) (U := U.calling g mk a) (Vm.Alike.refl U.vm) h3, va_AO.moved (u := U) (U := U.calling g mk a) (Vm.Alike.refl U.vm) h4, kMM.moved (u := U) (U := U.calling g mk a) (Vm.Alike.refl U.vm) h8, h5.same rfl rfl, h6.same rfl rfl, h7.same rfl rfl⟩
theorem mis_small : ∀ q ∈ mis, q.2.2.1 ≤ 60 := by decide +kernel
theorem TT_ws {y : MethodName} {cc : ByteArray} {nL : Nat} {ret : Option FieldType} (h : Cond.code y cc nL ret ∈ TT) : GoodIn TT (.code y cc nL ret :: TT) := by
  intro w hw
  rcases List.mem_cons.mp hw with rfl | hw
  · exact TT_good _ h
  · exact TT_good w hw
