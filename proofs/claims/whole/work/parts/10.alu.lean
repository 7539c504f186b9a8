/-! The ghost machine: its stack instructions, and that the machine does them -/
def iI (a : Int) : Int32 := Int32.ofInt a
/-- a ghost value as the machine has it: cells stand at base + their number; the script at b -/
def reV (base b : Nat) (v : Value) : Value := match v with
  | .ref a => .ref (base + a)
  | .retAddr _ => .ref b
  | v => v
theorem reV_cat (base b : Nat) (v : Value) : (reV base b v).category = v.category := by cases v <;> rfl
def gAlu (ins : Instr) (stk : List Value) : Option (List Value) := match ins, stk with
  | .iconst n, st => some (.int (iI n) :: st)
  | .bipush n, st => if -128 ≤ n ∧ n < 128 then some (.int (iI n) :: st) else none
  | .sipush n, st => if -32768 ≤ n ∧ n < 32768 then some (.int (iI n) :: st) else none
  | .lconst n, st => some (.long (Int64.ofNat n) :: st)
  | .iadd, .int y :: .int x :: st => some (.int (x + y) :: st)
  | .isub, .int y :: .int x :: st => some (.int (x - y) :: st)
  | .imul, .int y :: .int x :: st => some (.int (x * y) :: st)
  | .iand, .int y :: .int x :: st => some (.int (x &&& y) :: st)
  | .ior, .int y :: .int x :: st => some (.int (x ||| y) :: st)
  | .idiv, .int y :: .int x :: st => if y = 0 then none else some (.int (x / y) :: st)
  | .irem, .int y :: .int x :: st => if y = 0 then none else some (.int (x - x / y * y) :: st)
  | .ineg, .int x :: st => some (.int (-x) :: st)
  | .ladd, .long y :: .long x :: st => some (.long (x + y) :: st)
  | .lmul, .long y :: .long x :: st => some (.long (x * y) :: st)
  | .land, .long y :: .long x :: st => some (.long (x &&& y) :: st)
  | .lor, .long y :: .long x :: st => some (.long (x ||| y) :: st)
  | .ldiv, .long y :: .long x :: st => if y = 0 then none else some (.long (x / y) :: st)
  | .lrem, .long y :: .long x :: st => if y = 0 then none else some (.long (x - x / y * y) :: st)
  | .ishl, .int y :: .int x :: st => some (.int (x <<< (y &&& 31)) :: st)
  | .ishr, .int y :: .int x :: st => some (.int (x >>> (y &&& 31)) :: st)
  | .i2l, .int x :: st => some (.long x.toInt64 :: st)
  | .l2i, .long x :: st => some (.int x.toInt32 :: st)
  | .iushr, .int y :: .int x :: st => some (.int (x.toUInt32 >>> (y.toUInt32 &&& Int32.toUInt32 31)).toInt32 :: st)
  | .lushr, .int y :: .long x :: st => some (.long (x.toUInt64 >>> (y.toInt64.toUInt64 &&& Int64.toUInt64 63)).toInt64 :: st)
  | .lshl, .int y :: .long x :: st => some (.long (x <<< (y.toInt64 &&& 63)) :: st)
  | .lshr, .int y :: .long x :: st => some (.long (x >>> (y.toInt64 &&& 63)) :: st)
  | .lcmp, .long y :: .long x :: st => some (.int (lg_cmp x y) :: st)
  | .dup, v :: st => if v.category = 1 then some (v :: v :: st) else none
  | .pop, v :: st => if v.category = 1 then some st else none
  | .dup2, v :: u :: st => if v.category = 1 ∧ u.category = 1 then some (v :: u :: v :: u :: st) else none
  | _, _ => none
/-- how long it is -/
def gLen (ins : Instr) : Nat := match ins with
  | .bipush _ => 2
  | .sipush _ => 3
  | _ => 1
theorem iI_byte (n : Int) (h : -128 ≤ n ∧ n < 128) : (Int8.ofInt n).toInt32 = iI n := by
  apply Int32.toInt_inj.mp
  rw [Int8.toInt_toInt32, iI, Int8.toInt_ofInt_of_le (by omega) (by omega), Int32.toInt_ofInt_of_le (by omega) (by omega)]
theorem iI_short (n : Int) (h : -32768 ≤ n ∧ n < 32768) : (Int16.ofInt n).toInt32 = iI n := by
  apply Int32.toInt_inj.mp
  rw [Int16.toInt_toInt32, iI, Int16.toInt_ofInt_of_le (by omega) (by omega), Int32.toInt_ofInt_of_le (by omega) (by omega)]
section GA
variable {p : Program} {l : Launch} {e : Env} {R : Room} {s : State} {m : MethodId} {args : Array Value} {below : List Frame} {meth : Method} {c : Code} {H : Heap} {locs : List Loc} {cells slots : Nat} {Q : State → Prop}
variable {cc : ByteArray} {pc : Nat} {ls : Array Slot}
set_option maxHeartbeats 4000000 in
theorem gAlu_W (hexec : p.tables.exec = Jvm.exec) (hb : c.code = cc) {ins : Instr} {stk stk' : List Value} {len base b : Nat} (ha : gAlu ins stk = some stk') (hlen : len = gLen ins) (hdg : decode cc pc = .ok (ins, len))
    (k : W p l e R s m args below meth c H locs cells slots Q (F0 m (pc + len) ls (stk'.map (reV base b)))) : W p l e R s m args below meth c H locs cells slots Q (F0 m pc ls (stk.map (reV base b))) := by
  subst hlen
  unfold gAlu at ha
  split at ha
  · cases ha; exact lv_iconst hexec hb hdg rfl k
  · split at ha
    · rename_i hc; cases ha; exact lv_bipush hexec hb hdg (iI_byte _ hc) k
    · cases ha
  · split at ha
    · rename_i hc; cases ha; exact lv_sipush hexec hb hdg (iI_short _ hc) k
    · cases ha
  · cases ha; exact lv_lconst hexec hb hdg rfl k
  · cases ha; exact lv_iadd hexec hb hdg k
  · cases ha; exact lv_isub hexec hb hdg k
  · cases ha; exact lv_imul hexec hb hdg k
  · cases ha; exact lv_iand hexec hb hdg k
  · cases ha; exact lv_ior hexec hb hdg k
  · split at ha
    · cases ha
    · rename_i hc; cases ha; exact lv_idiv hexec hb hdg hc k
  · split at ha
    · cases ha
    · rename_i hc; cases ha; exact lv_irem hexec hb hdg hc k
  · cases ha; exact lv_ineg hexec hb hdg k
  · cases ha; exact lv_ladd hexec hb hdg k
  · cases ha; exact lv_lmul hexec hb hdg k
  · cases ha; exact lv_land hexec hb hdg k
  · cases ha; exact lv_lor hexec hb hdg k
  · split at ha
    · cases ha
    · rename_i hc; cases ha; exact lv_ldiv hexec hb hdg hc k
  · split at ha
    · cases ha
    · rename_i hc; cases ha; exact lv_lrem hexec hb hdg hc k
  · cases ha; exact lv_ishl hexec hb hdg k
  · cases ha; exact lv_ishr hexec hb hdg k
  · cases ha; exact lv_i2l hexec hb hdg rfl k
  · cases ha; exact lv_l2i hexec hb hdg rfl k
  · cases ha; exact lv_iushr hexec hb hdg rfl k
  · cases ha; exact lv_lushr hexec hb hdg rfl k
  · cases ha; exact lv_lshl hexec hb hdg rfl k
  · cases ha; exact lv_lshr hexec hb hdg rfl k
  · cases ha; exact W.lcmp hexec hb hdg k
  · split at ha
    · rename_i hc; cases ha; exact lv_dup hexec hb hdg ((reV_cat base b _).trans hc) k
    · cases ha
  · split at ha
    · rename_i hc; cases ha; exact lv_pop hexec hb hdg ((reV_cat base b _).trans hc) k
    · cases ha
  · split at ha
    · rename_i hc; cases ha; exact lv_dup2_11 hexec hb hdg ((reV_cat base b _).trans hc.1) ((reV_cat base b _).trans hc.2) k
    · cases ha
  · cases ha
end GA
