/-! The ghost machine: branches and switches: where to -/
def gCmp (cd : ClassFile.Cond) (x y : Int32) : Bool := match cd with
  | .eq => decide (x = y)
  | .ne => decide (¬ x = y)
  | .lt => decide (x < y)
  | .ge => decide (y ≤ x)
  | .gt => decide (y < x)
  | .le => decide (x ≤ y)
def gSw (ins : Instr) (x : Int32) : Option Int := match ins with
  | .tableswitch d lo hi offs => if x.toInt < lo ∨ hi < x.toInt then some d else offs[(x.toInt - lo).toNat]?
  | .lookupswitch d ps => if (ps.toList.zip (ps.toList.drop 1)).all (fun (a, next) => a.1 < next.1) = true then some (Op.lookupswitch.offset ps.toList d x.toInt) else none
  | _ => none
def gTo (pc : Nat) (off : Int) : Option Nat := if 0 ≤ (pc : Int) + off then some ((pc : Int) + off).toNat else none
/-- of a branch: the target, whether it is taken, the new stack -/
def gBr (ins : Instr) (pc : Nat) (stk : List Value) : Option (Nat × Bool × List Value) := match ins with
  | .ifCond cd off => match stk with
    | .int x :: st => (gTo pc off).map (fun t => (t, gCmp cd x 0, st))
    | _ => none
  | .if_icmp cd off => match stk with
    | .int y :: .int x :: st => (gTo pc off).map (fun t => (t, gCmp cd x y, st))
    | _ => none
  | .goto off => (gTo pc off).map (fun t => (t, true, stk))
  | ins => match stk with
    | .int x :: st => match gSw ins x with
      | some off => (gTo pc off).map (fun t => (t, true, st))
      | none => none
    | _ => none
theorem gTo_eq {pc t : Nat} {off : Int} (h : gTo pc off = some t) : (pc : Int) + off = (t : Int) := by
  unfold gTo at h
  split at h
  · cases h; omega
  · cases h
theorem gTo_map {pc t : Nat} {off : Int} {b b' : Bool} {st st' : List Value} (h : (gTo pc off).map (fun t => (t, b, st)) = some (t, b', st')) : (pc : Int) + off = (t : Int) ∧ b = b' ∧ st = st' := by
  cases ht : gTo pc off with
  | none => rw [ht] at h; cases h
  | some t' => rw [ht] at h; cases h; exact ⟨gTo_eq ht, rfl, rfl⟩
section GBW
variable {p : Program} {l : Launch} {e : Env} {R : Room} {s : State} {m : MethodId} {args : Array Value} {below : List Frame} {meth : Method} {c : Code} {H : Heap} {locs : List Loc} {cells slots : Nat} {Q : State → Prop}
variable {cc : ByteArray} {pc : Nat} {ls : Array Slot}
/-- switches and goto leave no way behind themselves -/
def gThree (ins : Instr) (len : Nat) : Bool := match ins with
  | .tableswitch .. => true
  | .lookupswitch .. => true
  | _ => len == 3
set_option maxHeartbeats 4000000 in
theorem gBr_W (hexec : p.tables.exec = Jvm.exec) (hb : c.code = cc) {ins : Instr} {stk stk' : List Value} {len t base b : Nat} {tk : Bool} (ha : gBr ins pc stk = some (t, tk, stk')) (hlen : gThree ins len = true) (hdg : decode cc pc = .ok (ins, len))
    (k : W p l e R s m args below meth c H locs cells slots Q (F0 m (if tk = true then t else pc + 3) ls (stk'.map (reV base b)))) : W p l e R s m args below meth c H locs cells slots Q (F0 m pc ls (stk.map (reV base b))) := by
  unfold gBr at ha
  split at ha
  · rename_i cd off
    simp only [gThree, beq_iff_eq] at hlen
    subst hlen
    split at ha
    · obtain ⟨h1, h2, rfl⟩ := gTo_map ha
      subst h2
      cases cd <;> simp only [gCmp, decide_eq_true_eq] at k
      · exact lv_if_eq hexec hb hdg h1 (fun q => by rwa [if_pos q] at k) (fun q => by rwa [if_neg q] at k)
      · exact lv_if_ne hexec hb hdg h1 (fun q => by rwa [if_pos q] at k) (fun q => by rwa [if_neg (fun z => z q)] at k)
      · exact lv_if_lt hexec hb hdg h1 (fun q => by rwa [if_pos q] at k) (fun q => by rwa [if_neg q] at k)
      · exact lv_if_ge hexec hb hdg h1 (fun q => by rwa [if_pos q] at k) (fun q => by rwa [if_neg q] at k)
      · exact lv_if_gt hexec hb hdg h1 (fun q => by rwa [if_pos q] at k) (fun q => by rwa [if_neg q] at k)
      · exact lv_if_le hexec hb hdg h1 (fun q => by rwa [if_pos q] at k) (fun q => by rwa [if_neg q] at k)
    · cases ha
  · rename_i cd off
    simp only [gThree, beq_iff_eq] at hlen
    subst hlen
    split at ha
    · obtain ⟨h1, h2, rfl⟩ := gTo_map ha
      subst h2
      cases cd <;> simp only [gCmp, decide_eq_true_eq] at k
      · exact lv_icmp_eq hexec hb hdg h1 (fun q => by rwa [if_pos q] at k) (fun q => by rwa [if_neg q] at k)
      · exact lv_icmp_ne hexec hb hdg h1 (fun q => by rwa [if_pos q] at k) (fun q => by rwa [if_neg (fun z => z q)] at k)
      · exact lv_icmp_lt hexec hb hdg h1 (fun q => by rwa [if_pos q] at k) (fun q => by rwa [if_neg q] at k)
      · exact lv_icmp_ge hexec hb hdg h1 (fun q => by rwa [if_pos q] at k) (fun q => by rwa [if_neg q] at k)
      · exact lv_icmp_gt hexec hb hdg h1 (fun q => by rwa [if_pos q] at k) (fun q => by rwa [if_neg q] at k)
      · exact lv_icmp_le hexec hb hdg h1 (fun q => by rwa [if_pos q] at k) (fun q => by rwa [if_neg q] at k)
    · cases ha
  · simp only [gThree, beq_iff_eq] at hlen
    subst hlen
    obtain ⟨h1, rfl, rfl⟩ := gTo_map ha
    exact lv_goto hexec hb hdg h1 k
  · split at ha
    · rename_i x st
      split at ha
      · rename_i off ho
        obtain ⟨h1, rfl, rfl⟩ := gTo_map ha
        simp only [if_true] at k
        unfold gSw at ho
        split at ho
        · split at ho
          · rename_i hc; cases ho; exact lv_tableOut hexec hb hdg hc h1 k
          · rename_i hc; exact lv_tableIn hexec hb hdg (fun q => hc (Or.inl q)) (fun q => hc (Or.inr q)) ho h1 k
        · split at ho
          · rename_i hc; cases ho; exact lv_lookup hexec hb hdg hc rfl h1 k
          · cases ho
        · cases ho
      · cases ha
    · cases ha
end GBW
