/-! ROWS OVER THE GHOST MACHINE. G: from here the method returns with Q. Printed by wip/whole/gen21.py -/
def G (xs : Option (List Int32)) (d cn : Nat) (ini : Bool) (ret : Option FieldType) (mc ms n0 : Nat) (cc : ByteArray) (Q : Option Value → GH → Prop) (ns pc : Nat) (loc : GL) (stk : List Value) (hp : GH) : Prop := ∃ k, GoF (CallD d) xs cn ini ret mc ms n0 cc Q k pc loc stk hp ns
theorem GoF_mono {call : Nat → List Value → GH → (Option Value → GH → Prop) → Prop} (hc : ∀ mid as hp (Q Q' : Option Value → GH → Prop), (∀ v h, Q v h → Q' v h) → call mid as hp Q → call mid as hp Q') {xs : Option (List Int32)} {cn : Nat} {ini : Bool} {ret : Option FieldType} {mc ms n0 : Nat} {cc : ByteArray} {Q Q' : Option Value → GH → Prop} (hQ : ∀ v h, Q v h → Q' v h) :
    ∀ (k pc : Nat) (loc : GL) (stk : List Value) (hp : GH) (ns : Nat), GoF call xs cn ini ret mc ms n0 cc Q k pc loc stk hp ns → GoF call xs cn ini ret mc ms n0 cc Q' k pc loc stk hp ns := by
  intro k
  induction k with
  | zero => intro pc loc stk hp ns h; exact h.elim
  | succ k ih =>
    intro pc loc stk hp ns h
    obtain ⟨ins, len, hdg, h⟩ := h
    refine ⟨ins, len, hdg, ?_⟩
    rcases h with ⟨stk', ha, hlen, h⟩ | ⟨loc', stk', ha, h⟩ | ⟨t, tk, stk', ha, hlen, h⟩ | ⟨hp', stk', dc, ds, ha, hbud, h⟩ | ⟨mid, as, rest, ha, hlen, hbud, h⟩ | ⟨v, ha, hlen, hmc, h⟩
    · exact Or.inl ⟨stk', ha, hlen, ih _ _ _ _ _ h⟩
    · exact Or.inr (Or.inl ⟨loc', stk', ha, ih _ _ _ _ _ h⟩)
    · exact Or.inr (Or.inr (Or.inl ⟨t, tk, stk', ha, hlen, ih _ _ _ _ _ h⟩))
    · exact Or.inr (Or.inr (Or.inr (Or.inl ⟨hp', stk', dc, ds, ha, hbud, ih _ _ _ _ _ h⟩)))
    · exact Or.inr (Or.inr (Or.inr (Or.inr (Or.inl ⟨mid, as, rest, ha, hlen, hbud, hc _ _ _ _ _ (fun v h' => ih _ _ _ _ _) h⟩))))
    · exact Or.inr (Or.inr (Or.inr (Or.inr (Or.inr ⟨v, ha, hlen, hmc, hQ _ _ h⟩))))
theorem CallD_mono : ∀ (d mid : Nat) (as : List Value) (hp : GH) (Q Q' : Option Value → GH → Prop), (∀ v h, Q v h → Q' v h) → CallD d mid as hp Q → CallD d mid as hp Q' := by
  intro d
  induction d with
  | zero => intro mid as hp Q Q' _ h; exact h.elim
  | succ d ih =>
    intro mid as hp Q Q' hQ h
    obtain ⟨y, cc, nL, ret, cn, mc, ms, n, hm, hl, k, hg⟩ := h
    exact ⟨y, cc, nL, ret, cn, mc, ms, n, hm, hl, k, GoF_mono ih hQ k _ _ _ _ _ hg⟩
theorem GoF_ex {call : Nat → List Value → GH → (Option Value → GH → Prop) → Prop} (hm : ∀ mid as hp (Q Q' : Option Value → GH → Prop), (∀ v h, Q v h → Q' v h) → call mid as hp Q → call mid as hp Q') (hc : ∀ mid as hp (R : Nat → Option Value → GH → Prop), call mid as hp (fun v h => ∃ k, R k v h) → ∃ k, call mid as hp (R k))
    {xs : Option (List Int32)} {cn : Nat} {ini : Bool} {ret : Option FieldType} {mc ms n0 : Nat} {cc : ByteArray} {R : Nat → Option Value → GH → Prop} :
    ∀ (k pc : Nat) (loc : GL) (stk : List Value) (hp : GH) (ns : Nat), GoF call xs cn ini ret mc ms n0 cc (fun v h => ∃ j, R j v h) k pc loc stk hp ns → ∃ j, GoF call xs cn ini ret mc ms n0 cc (R j) k pc loc stk hp ns := by
  intro k
  induction k with
  | zero => intro pc loc stk hp ns h; exact h.elim
  | succ k ih =>
    intro pc loc stk hp ns h
    obtain ⟨ins, len, hdg, h⟩ := h
    rcases h with ⟨stk', ha, hlen, h⟩ | ⟨loc', stk', ha, h⟩ | ⟨t, tk, stk', ha, hlen, h⟩ | ⟨hp', stk', dc, ds, ha, hbud, h⟩ | ⟨mid, as, rest, ha, hlen, hbud, h⟩ | ⟨v, ha, hlen, hmc, h⟩
    · obtain ⟨j, h⟩ := ih _ _ _ _ _ h
      exact ⟨j, ins, len, hdg, Or.inl ⟨stk', ha, hlen, h⟩⟩
    · obtain ⟨j, h⟩ := ih _ _ _ _ _ h
      exact ⟨j, ins, len, hdg, Or.inr (Or.inl ⟨loc', stk', ha, h⟩)⟩
    · obtain ⟨j, h⟩ := ih _ _ _ _ _ h
      exact ⟨j, ins, len, hdg, Or.inr (Or.inr (Or.inl ⟨t, tk, stk', ha, hlen, h⟩))⟩
    · obtain ⟨j, h⟩ := ih _ _ _ _ _ h
      exact ⟨j, ins, len, hdg, Or.inr (Or.inr (Or.inr (Or.inl ⟨hp', stk', dc, ds, ha, hbud, h⟩)))⟩
    · obtain ⟨j, h⟩ := hc _ _ _ (fun j v hp' => GoF call xs cn ini ret mc ms n0 cc (R j) k (pc + 3) loc (v.toList ++ rest) hp' (ns + sM mid)) (hm _ _ _ _ _ (fun v h' => ih _ _ _ _ _) h)
      exact ⟨j, ins, len, hdg, Or.inr (Or.inr (Or.inr (Or.inr (Or.inl ⟨mid, as, rest, ha, hlen, hbud, h⟩))))⟩
    · obtain ⟨j, h⟩ := h
      exact ⟨j, ins, len, hdg, Or.inr (Or.inr (Or.inr (Or.inr (Or.inr ⟨v, ha, hlen, hmc, h⟩))))⟩
theorem CallD_ex : ∀ (d mid : Nat) (as : List Value) (hp : GH) (R : Nat → Option Value → GH → Prop), CallD d mid as hp (fun v h => ∃ k, R k v h) → ∃ k, CallD d mid as hp (R k) := by
  intro d
  induction d with
  | zero => intro mid as hp R h; exact h.elim
  | succ d ih =>
    intro mid as hp R h
    obtain ⟨y, cc, nL, ret, cn, mc, ms, n, hm, hl, k, hg⟩ := h
    obtain ⟨j, hg⟩ := GoF_ex (CallD_mono d) (fun mid as hp R => ih mid as hp R) k _ _ _ _ _ hg
    exact ⟨j, y, cc, nL, ret, cn, mc, ms, n, hm, hl, k, hg⟩
/-- a number that an int can be -/
abbrev R32 (a : Int) : Prop := -2147483648 ≤ a ∧ a < 2147483648
theorem iI_toInt {a : Int} (h : R32 a) : (iI a).toInt = a := by
  unfold iI
  exact Int32.toInt_ofInt_of_le (by omega) (by omega)
theorem iI_of (x : Int32) : iI x.toInt = x := Int32.ofInt_toInt x
theorem R32_of (x : Int32) : R32 x.toInt := ⟨by have := Int32.le_toInt x; omega, by have := Int32.toInt_lt x; omega⟩
theorem iI_add (a b : Int) : iI a + iI b = iI (a + b) := (Int32.ofInt_add a b).symm
theorem iI_sub (a b : Int) : iI a - iI b = iI (a - b) := (Int32.ofInt_sub a b).symm
theorem iI_mul (a b : Int) : iI a * iI b = iI (a * b) := (Int32.ofInt_mul a b).symm
theorem iI_neg (a : Int) : -iI a = iI (-a) := (Int32.ofInt_neg a).symm
theorem iI_lt {a b : Int} (ha : R32 a) (hb : R32 b) : iI a < iI b ↔ a < b := by rw [Int32.lt_iff_toInt_lt, iI_toInt ha, iI_toInt hb]
theorem iI_le {a b : Int} (ha : R32 a) (hb : R32 b) : iI a ≤ iI b ↔ a ≤ b := by rw [Int32.le_iff_toInt_le, iI_toInt ha, iI_toInt hb]
theorem iI_inj {a b : Int} (ha : R32 a) (hb : R32 b) : iI a = iI b ↔ a = b := by
  constructor
  · intro h
    have := congrArg Int32.toInt h
    rwa [iI_toInt ha, iI_toInt hb] at this
  · intro h; rw [h]
theorem iI_0 : iI 0 = 0 := by decide
theorem iI_div {a b : Int} (ha : R32 a) (h0 : 0 ≤ a) (hb : R32 b) (hb0 : 0 < b) : iI a / iI b = iI (a / b) := by
  apply Int32.toInt_inj.mp
  have h1 : 0 ≤ a / b := Int.ediv_nonneg h0 (by omega)
  have h2 : a / b ≤ a := Int.ediv_le_self _ h0
  rw [Int32.toInt_div_of_ne_left _ _ (by intro q; have := congrArg Int32.toInt q; rw [iI_toInt ha, Int32.toInt_minValue] at this; omega), iI_toInt ha, iI_toInt hb, iI_toInt ⟨by omega, by omega⟩, Int.tdiv_eq_ediv_of_nonneg h0]
theorem iI_ne0 {b : Int} (hb : R32 b) (h : b ≠ 0) : ¬ iI b = 0 := by
  rw [← iI_0, iI_inj hb ⟨by omega, by omega⟩]
  exact h
theorem ix_iI {e : Int} {n : Nat} (h0 : 0 ≤ e) (h1 : e < n) (hn : n < 1000000) : ix (iI e) n = some e.toNat := by
  have h2 : (iI e).toInt = e := iI_toInt ⟨by omega, by omega⟩
  unfold ix
  rw [h2, if_pos ⟨h0, h1⟩]
section GR
variable {xs : Option (List Int32)} {d cn : Nat} {ini : Bool} {ret : Option FieldType} {mc ms n0 : Nat} {cc : ByteArray} {Q : Option Value → GH → Prop} {ns pc : Nat} {loc : GL} {stk st : List Value} {hp : GH}
theorem g_s {ins : Instr} {len pc' : Nat} {stk' : List Value} (hd : decode cc pc = .ok (ins, len)) (ha : gAlu ins stk = some stk') (hl : len = gLen ins) (hp' : pc + len = pc') (k : G xs d cn ini ret mc ms n0 cc Q ns pc' loc stk' hp) : G xs d cn ini ret mc ms n0 cc Q ns pc loc stk hp := by
  subst hp'
  obtain ⟨k, h⟩ := k
  exact ⟨k + 1, ins, len, hd, Or.inl ⟨stk', ha, hl, h⟩⟩
theorem g_l {ins : Instr} {len pc' : Nat} {loc' : GL} {stk' : List Value} (hd : decode cc pc = .ok (ins, len)) (ha : gLoc ins loc stk = some (loc', stk', len)) (hp' : pc + len = pc') (k : G xs d cn ini ret mc ms n0 cc Q ns pc' loc' stk' hp) : G xs d cn ini ret mc ms n0 cc Q ns pc loc stk hp := by
  subst hp'
  obtain ⟨k, h⟩ := k
  exact ⟨k + 1, ins, len, hd, Or.inr (Or.inl ⟨loc', stk', ha, h⟩)⟩
theorem g_iinc {i : Nat} {n a : Int} {pc' : Nat} {loc' : GL} (hd : decode cc pc = .ok (.iinc i n, 3)) (ha : loc[i]? = some (some (.int (iI a)))) (hl : gset1 loc i (.int (iI (a + n))) = loc') (hp' : pc + 3 = pc') (k : G xs d cn ini ret mc ms n0 cc Q ns pc' loc' stk hp) : G xs d cn ini ret mc ms n0 cc Q ns pc loc stk hp := by
  refine g_l (ins := .iinc i n) (stk' := stk) hd ?_ hp' k
  unfold gLoc
  simp only [ha]
  rw [iI_add, hl]
theorem g_br {ins : Instr} {len t : Nat} {tk : Bool} {stk' : List Value} (hd : decode cc pc = .ok (ins, len)) (ha : gBr ins pc stk = some (t, tk, stk')) (hl : gThree ins len = true) (k : G xs d cn ini ret mc ms n0 cc Q ns (if tk = true then t else pc + 3) loc stk' hp) : G xs d cn ini ret mc ms n0 cc Q ns pc loc stk hp := by
  obtain ⟨k, h⟩ := k
  exact ⟨k + 1, ins, len, hd, Or.inr (Or.inr (Or.inl ⟨t, tk, stk', ha, hl, h⟩))⟩
theorem gTo_of {pc t : Nat} {off : Int} (h : (pc : Int) + off = (t : Int)) : gTo pc off = some t := by
  unfold gTo
  rw [if_pos (by omega), h]
  rfl
theorem g_goto {off : Int} {t : Nat} (hd : decode cc pc = .ok (.goto off, 3)) (ht : (pc : Int) + off = (t : Int)) (k : G xs d cn ini ret mc ms n0 cc Q ns t loc stk hp) : G xs d cn ini ret mc ms n0 cc Q ns pc loc stk hp :=
  g_br (t := t) (tk := true) (stk' := stk) hd (by unfold gBr; simp only [gTo_of ht, Option.map_some]) rfl k
theorem g_hp {ins : Instr} {len pc' : Nat} {hp' : GH} {stk' : List Value} (hd : decode cc pc = .ok (ins, len)) (ha : gHp xs cn ini ins hp stk = some (hp', stk', len, 0, 0)) (hpc : pc + len = pc') (k : G xs d cn ini ret mc ms n0 cc Q ns pc' loc stk' hp') : G xs d cn ini ret mc ms n0 cc Q ns pc loc stk hp := by
  subst hpc
  obtain ⟨k, h⟩ := k
  exact ⟨k + 1, ins, len, hd, Or.inr (Or.inr (Or.inr (Or.inl ⟨hp', stk', 0, 0, ha, Or.inl ⟨rfl, rfl⟩, h⟩)))⟩
theorem g_call {ins : Instr} {mid pc' : Nat} {as rest : List Value} (hd : decode cc pc = .ok (ins, 3)) (hg : gCall cn ins hp stk = some (mid, as, rest)) (hz : cM mid = 0 ∧ sM mid = 0) (hpc : pc + 3 = pc') (k : CallD d mid as hp (fun v hp' => G xs d cn ini ret mc ms n0 cc Q ns pc' loc (v.toList ++ rest) hp')) : G xs d cn ini ret mc ms n0 cc Q ns pc loc stk hp := by
  subst hpc
  obtain ⟨k, h⟩ := CallD_ex d mid as hp (fun k v hp' => GoF (CallD d) xs cn ini ret mc ms n0 cc Q k (pc + 3) loc (v.toList ++ rest) hp' ns) k
  exact ⟨k + 1, ins, 3, hd, Or.inr (Or.inr (Or.inr (Or.inr (Or.inl ⟨mid, as, rest, hg, rfl, Or.inl hz, by rw [hz.2]; exact h⟩))))⟩
theorem g_ret {ins : Instr} {v : Option Value} (hd : decode cc pc = .ok (ins, 1)) (hg : gRet ret ins stk = some v) (hm : mc = 0 ∨ hp.length = n0 + mc) (hq : Q v hp) : G xs d cn ini ret mc ms n0 cc Q ns pc loc stk hp :=
  ⟨1, ins, 1, hd, Or.inr (Or.inr (Or.inr (Or.inr (Or.inr ⟨v, hg, rfl, hm, hq⟩))))⟩
theorem g_enter {mid : Nat} {y : MethodName} {nL : Nat} {n : Nat} {as : List Value} {loc : GL} (hm : mis[mid]? = some (y, cc, nL, ret, cn, mc, ms, n)) (hi : (y.name == "<init>") = ini) (hl : (gargs as).length ≤ nL) (hg : gent nL as = loc) (k : G none d cn ini ret mc ms hp.length cc Q 0 0 loc [] hp) : CallD (d + 1) mid as hp Q := by
  subst hi hg
  obtain ⟨k, h⟩ := k
  exact ⟨y, cc, nL, ret, cn, mc, ms, n, hm, hl, k, h⟩
theorem g_iconst {n : Int} {pc' : Nat} (hd : decode cc pc = .ok (.iconst n, 1)) (hpc : pc + 1 = pc') (k : G xs d cn ini ret mc ms n0 cc Q ns pc' loc (.int (iI n) :: stk) hp) : G xs d cn ini ret mc ms n0 cc Q ns pc loc stk hp := g_s hd rfl rfl hpc k
theorem g_bipush {n : Int} {pc' : Nat} (hd : decode cc pc = .ok (.bipush n, 2)) (hn : -128 ≤ n ∧ n < 128) (hpc : pc + 2 = pc') (k : G xs d cn ini ret mc ms n0 cc Q ns pc' loc (.int (iI n) :: stk) hp) : G xs d cn ini ret mc ms n0 cc Q ns pc loc stk hp := g_s hd (by unfold gAlu; simp only [if_pos hn]) rfl hpc k
theorem g_sipush {n : Int} {pc' : Nat} (hd : decode cc pc = .ok (.sipush n, 3)) (hn : -32768 ≤ n ∧ n < 32768) (hpc : pc + 3 = pc') (k : G xs d cn ini ret mc ms n0 cc Q ns pc' loc (.int (iI n) :: stk) hp) : G xs d cn ini ret mc ms n0 cc Q ns pc loc stk hp := g_s hd (by unfold gAlu; simp only [if_pos hn]) rfl hpc k
theorem g_iadd {a b : Int} {pc' : Nat} (hd : decode cc pc = .ok (.iadd, 1)) (hpc : pc + 1 = pc') (k : G xs d cn ini ret mc ms n0 cc Q ns pc' loc (.int (iI (a + b)) :: st) hp) : G xs d cn ini ret mc ms n0 cc Q ns pc loc (.int (iI b) :: .int (iI a) :: st) hp := g_s hd (by unfold gAlu; simp only [iI_add]) rfl hpc k
theorem g_isub {a b : Int} {pc' : Nat} (hd : decode cc pc = .ok (.isub, 1)) (hpc : pc + 1 = pc') (k : G xs d cn ini ret mc ms n0 cc Q ns pc' loc (.int (iI (a - b)) :: st) hp) : G xs d cn ini ret mc ms n0 cc Q ns pc loc (.int (iI b) :: .int (iI a) :: st) hp := g_s hd (by unfold gAlu; simp only [iI_sub]) rfl hpc k
theorem g_imul {a b : Int} {pc' : Nat} (hd : decode cc pc = .ok (.imul, 1)) (hpc : pc + 1 = pc') (k : G xs d cn ini ret mc ms n0 cc Q ns pc' loc (.int (iI (a * b)) :: st) hp) : G xs d cn ini ret mc ms n0 cc Q ns pc loc (.int (iI b) :: .int (iI a) :: st) hp := g_s hd (by unfold gAlu; simp only [iI_mul]) rfl hpc k
theorem g_ineg {a : Int} {pc' : Nat} (hd : decode cc pc = .ok (.ineg, 1)) (hpc : pc + 1 = pc') (k : G xs d cn ini ret mc ms n0 cc Q ns pc' loc (.int (iI (-a)) :: st) hp) : G xs d cn ini ret mc ms n0 cc Q ns pc loc (.int (iI a) :: st) hp := g_s hd (by unfold gAlu; simp only [iI_neg]) rfl hpc k
theorem g_idiv {a b : Int} {pc' : Nat} (hd : decode cc pc = .ok (.idiv, 1)) (ha : 0 ≤ a ∧ a < 2147483648) (hb : 0 < b ∧ b < 2147483648) (hpc : pc + 1 = pc') (k : G xs d cn ini ret mc ms n0 cc Q ns pc' loc (.int (iI (a / b)) :: st) hp) : G xs d cn ini ret mc ms n0 cc Q ns pc loc (.int (iI b) :: .int (iI a) :: st) hp := g_s hd (by unfold gAlu; simp only [if_neg (iI_ne0 (b := b) ⟨by omega, by omega⟩ (by omega)), iI_div (a := a) (b := b) ⟨by omega, by omega⟩ ha.1 ⟨by omega, by omega⟩ hb.1]) rfl hpc k
theorem g_irem {a b : Int} {pc' : Nat} (hd : decode cc pc = .ok (.irem, 1)) (ha : 0 ≤ a ∧ a < 2147483648) (hb : 0 < b ∧ b < 2147483648) (hpc : pc + 1 = pc') (k : G xs d cn ini ret mc ms n0 cc Q ns pc' loc (.int (iI (a % b)) :: st) hp) : G xs d cn ini ret mc ms n0 cc Q ns pc loc (.int (iI b) :: .int (iI a) :: st) hp := g_s hd (by unfold gAlu; simp only [if_neg (iI_ne0 (b := b) ⟨by omega, by omega⟩ (by omega)), iI_div (a := a) (b := b) ⟨by omega, by omega⟩ ha.1 ⟨by omega, by omega⟩ hb.1, iI_mul, iI_sub]; rw [show a - a / b * b = a % b by have := Int.emod_add_mul_ediv a b; rw [Int.mul_comm]; omega]) rfl hpc k
/-- bits, as numbers -/
def bAnd (a b : Int) : Int := (iI a &&& iI b).toInt
def bOr (a b : Int) : Int := (iI a ||| iI b).toInt
def bShl (a b : Int) : Int := (iI a <<< (iI b &&& 31)).toInt
def bShr (a b : Int) : Int := (iI a >>> (iI b &&& 31)).toInt
theorem g_iand {a b : Int} {pc' : Nat} (hd : decode cc pc = .ok (.iand, 1)) (hpc : pc + 1 = pc') (k : G xs d cn ini ret mc ms n0 cc Q ns pc' loc (.int (iI (bAnd a b)) :: st) hp) : G xs d cn ini ret mc ms n0 cc Q ns pc loc (.int (iI b) :: .int (iI a) :: st) hp := g_s hd (by unfold gAlu bAnd; simp only [iI_of]) rfl hpc k
theorem g_ior {a b : Int} {pc' : Nat} (hd : decode cc pc = .ok (.ior, 1)) (hpc : pc + 1 = pc') (k : G xs d cn ini ret mc ms n0 cc Q ns pc' loc (.int (iI (bOr a b)) :: st) hp) : G xs d cn ini ret mc ms n0 cc Q ns pc loc (.int (iI b) :: .int (iI a) :: st) hp := g_s hd (by unfold gAlu bOr; simp only [iI_of]) rfl hpc k
theorem g_ishl {a b : Int} {pc' : Nat} (hd : decode cc pc = .ok (.ishl, 1)) (hpc : pc + 1 = pc') (k : G xs d cn ini ret mc ms n0 cc Q ns pc' loc (.int (iI (bShl a b)) :: st) hp) : G xs d cn ini ret mc ms n0 cc Q ns pc loc (.int (iI b) :: .int (iI a) :: st) hp := g_s hd (by unfold gAlu bShl; simp only [iI_of]) rfl hpc k
theorem g_ishr {a b : Int} {pc' : Nat} (hd : decode cc pc = .ok (.ishr, 1)) (hpc : pc + 1 = pc') (k : G xs d cn ini ret mc ms n0 cc Q ns pc' loc (.int (iI (bShr a b)) :: st) hp) : G xs d cn ini ret mc ms n0 cc Q ns pc loc (.int (iI b) :: .int (iI a) :: st) hp := g_s hd (by unfold gAlu bShr; simp only [iI_of]) rfl hpc k
theorem R_bAnd {a b : Int} : R32 (bAnd a b) := R32_of _
theorem R_bOr {a b : Int} : R32 (bOr a b) := R32_of _
theorem R_bShl {a b : Int} : R32 (bShl a b) := R32_of _
theorem R_bShr {a b : Int} : R32 (bShr a b) := R32_of _
theorem g_icmp_eq {a b off : Int} {t pc' : Nat} (hd : decode cc pc = .ok (.if_icmp .eq off, 3)) (ht : (pc : Int) + off = (t : Int)) (hpc : pc + 3 = pc') (ha : R32 a) (hb : R32 b) (kt : a = b → G xs d cn ini ret mc ms n0 cc Q ns t loc st hp) (kf : ¬ a = b → G xs d cn ini ret mc ms n0 cc Q ns pc' loc st hp) : G xs d cn ini ret mc ms n0 cc Q ns pc loc (.int (iI b) :: .int (iI a) :: st) hp := by
  subst hpc
  refine g_br (t := t) (tk := decide (a = b)) (stk' := st) hd ?_ rfl ?_
  · unfold gBr gCmp
    simp only [gTo_of ht, Option.map_some]
    rw [decide_eq_decide.mpr (iI_inj ha hb)]
  · by_cases h : a = b
    · rw [if_pos (decide_eq_true h)]; exact kt h
    · rw [if_neg (by simpa using h)]; exact kf (by omega)
theorem g_if_eq {a off : Int} {t pc' : Nat} (hd : decode cc pc = .ok (.ifCond .eq off, 3)) (ht : (pc : Int) + off = (t : Int)) (hpc : pc + 3 = pc') (ha : R32 a) (kt : a = 0 → G xs d cn ini ret mc ms n0 cc Q ns t loc st hp) (kf : ¬ a = 0 → G xs d cn ini ret mc ms n0 cc Q ns pc' loc st hp) : G xs d cn ini ret mc ms n0 cc Q ns pc loc (.int (iI a) :: st) hp := by
  subst hpc
  have hb : R32 0 := ⟨by omega, by omega⟩
  refine g_br (t := t) (tk := decide (a = 0)) (stk' := st) hd ?_ rfl ?_
  · unfold gBr gCmp
    simp only [gTo_of ht, Option.map_some, ← iI_0]
    rw [decide_eq_decide.mpr (iI_inj ha hb)]
  · by_cases h : a = 0
    · rw [if_pos (decide_eq_true h)]; exact kt h
    · rw [if_neg (by simpa using h)]; exact kf (by omega)
theorem g_icmp_ne {a b off : Int} {t pc' : Nat} (hd : decode cc pc = .ok (.if_icmp .ne off, 3)) (ht : (pc : Int) + off = (t : Int)) (hpc : pc + 3 = pc') (ha : R32 a) (hb : R32 b) (kt : ¬ a = b → G xs d cn ini ret mc ms n0 cc Q ns t loc st hp) (kf : a = b → G xs d cn ini ret mc ms n0 cc Q ns pc' loc st hp) : G xs d cn ini ret mc ms n0 cc Q ns pc loc (.int (iI b) :: .int (iI a) :: st) hp := by
  subst hpc
  refine g_br (t := t) (tk := decide (¬ a = b)) (stk' := st) hd ?_ rfl ?_
  · unfold gBr gCmp
    simp only [gTo_of ht, Option.map_some]
    rw [decide_eq_decide.mpr (not_congr (iI_inj ha hb))]
  · by_cases h : ¬ a = b
    · rw [if_pos (decide_eq_true h)]; exact kt h
    · rw [if_neg (by simpa using h)]; exact kf (by omega)
theorem g_if_ne {a off : Int} {t pc' : Nat} (hd : decode cc pc = .ok (.ifCond .ne off, 3)) (ht : (pc : Int) + off = (t : Int)) (hpc : pc + 3 = pc') (ha : R32 a) (kt : ¬ a = 0 → G xs d cn ini ret mc ms n0 cc Q ns t loc st hp) (kf : a = 0 → G xs d cn ini ret mc ms n0 cc Q ns pc' loc st hp) : G xs d cn ini ret mc ms n0 cc Q ns pc loc (.int (iI a) :: st) hp := by
  subst hpc
  have hb : R32 0 := ⟨by omega, by omega⟩
  refine g_br (t := t) (tk := decide (¬ a = 0)) (stk' := st) hd ?_ rfl ?_
  · unfold gBr gCmp
    simp only [gTo_of ht, Option.map_some, ← iI_0]
    rw [decide_eq_decide.mpr (not_congr (iI_inj ha hb))]
  · by_cases h : ¬ a = 0
    · rw [if_pos (decide_eq_true h)]; exact kt h
    · rw [if_neg (by simpa using h)]; exact kf (by omega)
theorem g_icmp_lt {a b off : Int} {t pc' : Nat} (hd : decode cc pc = .ok (.if_icmp .lt off, 3)) (ht : (pc : Int) + off = (t : Int)) (hpc : pc + 3 = pc') (ha : R32 a) (hb : R32 b) (kt : a < b → G xs d cn ini ret mc ms n0 cc Q ns t loc st hp) (kf : b ≤ a → G xs d cn ini ret mc ms n0 cc Q ns pc' loc st hp) : G xs d cn ini ret mc ms n0 cc Q ns pc loc (.int (iI b) :: .int (iI a) :: st) hp := by
  subst hpc
  refine g_br (t := t) (tk := decide (a < b)) (stk' := st) hd ?_ rfl ?_
  · unfold gBr gCmp
    simp only [gTo_of ht, Option.map_some]
    rw [decide_eq_decide.mpr (iI_lt ha hb)]
  · by_cases h : a < b
    · rw [if_pos (decide_eq_true h)]; exact kt h
    · rw [if_neg (by simpa using h)]; exact kf (by omega)
theorem g_if_lt {a off : Int} {t pc' : Nat} (hd : decode cc pc = .ok (.ifCond .lt off, 3)) (ht : (pc : Int) + off = (t : Int)) (hpc : pc + 3 = pc') (ha : R32 a) (kt : a < 0 → G xs d cn ini ret mc ms n0 cc Q ns t loc st hp) (kf : 0 ≤ a → G xs d cn ini ret mc ms n0 cc Q ns pc' loc st hp) : G xs d cn ini ret mc ms n0 cc Q ns pc loc (.int (iI a) :: st) hp := by
  subst hpc
  have hb : R32 0 := ⟨by omega, by omega⟩
  refine g_br (t := t) (tk := decide (a < 0)) (stk' := st) hd ?_ rfl ?_
  · unfold gBr gCmp
    simp only [gTo_of ht, Option.map_some, ← iI_0]
    rw [decide_eq_decide.mpr (iI_lt ha hb)]
  · by_cases h : a < 0
    · rw [if_pos (decide_eq_true h)]; exact kt h
    · rw [if_neg (by simpa using h)]; exact kf (by omega)
theorem g_icmp_ge {a b off : Int} {t pc' : Nat} (hd : decode cc pc = .ok (.if_icmp .ge off, 3)) (ht : (pc : Int) + off = (t : Int)) (hpc : pc + 3 = pc') (ha : R32 a) (hb : R32 b) (kt : b ≤ a → G xs d cn ini ret mc ms n0 cc Q ns t loc st hp) (kf : a < b → G xs d cn ini ret mc ms n0 cc Q ns pc' loc st hp) : G xs d cn ini ret mc ms n0 cc Q ns pc loc (.int (iI b) :: .int (iI a) :: st) hp := by
  subst hpc
  refine g_br (t := t) (tk := decide (b ≤ a)) (stk' := st) hd ?_ rfl ?_
  · unfold gBr gCmp
    simp only [gTo_of ht, Option.map_some]
    rw [decide_eq_decide.mpr (iI_le hb ha)]
  · by_cases h : b ≤ a
    · rw [if_pos (decide_eq_true h)]; exact kt h
    · rw [if_neg (by simpa using h)]; exact kf (by omega)
theorem g_if_ge {a off : Int} {t pc' : Nat} (hd : decode cc pc = .ok (.ifCond .ge off, 3)) (ht : (pc : Int) + off = (t : Int)) (hpc : pc + 3 = pc') (ha : R32 a) (kt : 0 ≤ a → G xs d cn ini ret mc ms n0 cc Q ns t loc st hp) (kf : a < 0 → G xs d cn ini ret mc ms n0 cc Q ns pc' loc st hp) : G xs d cn ini ret mc ms n0 cc Q ns pc loc (.int (iI a) :: st) hp := by
  subst hpc
  have hb : R32 0 := ⟨by omega, by omega⟩
  refine g_br (t := t) (tk := decide (0 ≤ a)) (stk' := st) hd ?_ rfl ?_
  · unfold gBr gCmp
    simp only [gTo_of ht, Option.map_some, ← iI_0]
    rw [decide_eq_decide.mpr (iI_le hb ha)]
  · by_cases h : 0 ≤ a
    · rw [if_pos (decide_eq_true h)]; exact kt h
    · rw [if_neg (by simpa using h)]; exact kf (by omega)
theorem g_icmp_gt {a b off : Int} {t pc' : Nat} (hd : decode cc pc = .ok (.if_icmp .gt off, 3)) (ht : (pc : Int) + off = (t : Int)) (hpc : pc + 3 = pc') (ha : R32 a) (hb : R32 b) (kt : b < a → G xs d cn ini ret mc ms n0 cc Q ns t loc st hp) (kf : a ≤ b → G xs d cn ini ret mc ms n0 cc Q ns pc' loc st hp) : G xs d cn ini ret mc ms n0 cc Q ns pc loc (.int (iI b) :: .int (iI a) :: st) hp := by
  subst hpc
  refine g_br (t := t) (tk := decide (b < a)) (stk' := st) hd ?_ rfl ?_
  · unfold gBr gCmp
    simp only [gTo_of ht, Option.map_some]
    rw [decide_eq_decide.mpr (iI_lt hb ha)]
  · by_cases h : b < a
    · rw [if_pos (decide_eq_true h)]; exact kt h
    · rw [if_neg (by simpa using h)]; exact kf (by omega)
theorem g_if_gt {a off : Int} {t pc' : Nat} (hd : decode cc pc = .ok (.ifCond .gt off, 3)) (ht : (pc : Int) + off = (t : Int)) (hpc : pc + 3 = pc') (ha : R32 a) (kt : 0 < a → G xs d cn ini ret mc ms n0 cc Q ns t loc st hp) (kf : a ≤ 0 → G xs d cn ini ret mc ms n0 cc Q ns pc' loc st hp) : G xs d cn ini ret mc ms n0 cc Q ns pc loc (.int (iI a) :: st) hp := by
  subst hpc
  have hb : R32 0 := ⟨by omega, by omega⟩
  refine g_br (t := t) (tk := decide (0 < a)) (stk' := st) hd ?_ rfl ?_
  · unfold gBr gCmp
    simp only [gTo_of ht, Option.map_some, ← iI_0]
    rw [decide_eq_decide.mpr (iI_lt hb ha)]
  · by_cases h : 0 < a
    · rw [if_pos (decide_eq_true h)]; exact kt h
    · rw [if_neg (by simpa using h)]; exact kf (by omega)
theorem g_icmp_le {a b off : Int} {t pc' : Nat} (hd : decode cc pc = .ok (.if_icmp .le off, 3)) (ht : (pc : Int) + off = (t : Int)) (hpc : pc + 3 = pc') (ha : R32 a) (hb : R32 b) (kt : a ≤ b → G xs d cn ini ret mc ms n0 cc Q ns t loc st hp) (kf : b < a → G xs d cn ini ret mc ms n0 cc Q ns pc' loc st hp) : G xs d cn ini ret mc ms n0 cc Q ns pc loc (.int (iI b) :: .int (iI a) :: st) hp := by
  subst hpc
  refine g_br (t := t) (tk := decide (a ≤ b)) (stk' := st) hd ?_ rfl ?_
  · unfold gBr gCmp
    simp only [gTo_of ht, Option.map_some]
    rw [decide_eq_decide.mpr (iI_le ha hb)]
  · by_cases h : a ≤ b
    · rw [if_pos (decide_eq_true h)]; exact kt h
    · rw [if_neg (by simpa using h)]; exact kf (by omega)
theorem g_if_le {a off : Int} {t pc' : Nat} (hd : decode cc pc = .ok (.ifCond .le off, 3)) (ht : (pc : Int) + off = (t : Int)) (hpc : pc + 3 = pc') (ha : R32 a) (kt : a ≤ 0 → G xs d cn ini ret mc ms n0 cc Q ns t loc st hp) (kf : 0 < a → G xs d cn ini ret mc ms n0 cc Q ns pc' loc st hp) : G xs d cn ini ret mc ms n0 cc Q ns pc loc (.int (iI a) :: st) hp := by
  subst hpc
  have hb : R32 0 := ⟨by omega, by omega⟩
  refine g_br (t := t) (tk := decide (a ≤ 0)) (stk' := st) hd ?_ rfl ?_
  · unfold gBr gCmp
    simp only [gTo_of ht, Option.map_some, ← iI_0]
    rw [decide_eq_decide.mpr (iI_le ha hb)]
  · by_cases h : a ≤ 0
    · rw [if_pos (decide_eq_true h)]; exact kt h
    · rw [if_neg (by simpa using h)]; exact kf (by omega)
theorem g_getf {ci k idx a : Nat} {fs : List Value} {v : Value} {pc' : Nat} (hd : decode cc pc = .ok (.getfield idx, 3)) (hc : hp[a]? = some (.inr (ci, fs))) (hf : fT cn idx = some (ci, k)) (hv : fs[k]? = some v) (hpc : pc + 3 = pc') (kk : G xs d cn ini ret mc ms n0 cc Q ns pc' loc (v :: st) hp) : G xs d cn ini ret mc ms n0 cc Q ns pc loc (.ref a :: st) hp := by
  refine g_hp (hp' := hp) (stk' := v :: st) hd ?_ hpc kk
  unfold gHp
  simp only [hc, hf, if_true, hv]
theorem g_iald {a n : Nat} {g : Int → Int} {e : Int} {pc' : Nat} (hd : decode cc pc = .ok (.iaload, 1)) (hc : hp[a]? = some (.inl (0, vec n g))) (h0 : 0 ≤ e ∧ e < n) (hn : n < 1000000) (hpc : pc + 1 = pc') (kk : G xs d cn ini ret mc ms n0 cc Q ns pc' loc (.int (iI (g e)) :: st) hp) : G xs d cn ini ret mc ms n0 cc Q ns pc loc (.int (iI e) :: .ref a :: st) hp := by
  refine g_hp (hp' := hp) (stk' := .int (iI (g e)) :: st) hd ?_ hpc kk
  unfold gHp
  simp only [hc, vec_len, ix_iI h0.1 h0.2 hn, vec_get h0.1 h0.2]
theorem g_bald {a n : Nat} {g : Int → Int} {e : Int} {pc' : Nat} (hd : decode cc pc = .ok (.baload, 1)) (hc : hp[a]? = some (.inl (1, vec n g))) (h0 : 0 ≤ e ∧ e < n) (hn : n < 1000000) (hpc : pc + 1 = pc') (kk : G xs d cn ini ret mc ms n0 cc Q ns pc' loc (.int (iI (g e)) :: st) hp) : G xs d cn ini ret mc ms n0 cc Q ns pc loc (.int (iI e) :: .ref a :: st) hp := by
  refine g_hp (hp' := hp) (stk' := .int (iI (g e)) :: st) hd ?_ hpc kk
  unfold gHp
  simp only [hc, vec_len, ix_iI h0.1 h0.2 hn, vec_get h0.1 h0.2]
theorem g_iast {a n : Nat} {g : Int → Int} {e v : Int} {hp' : GH} {pc' : Nat} (hd : decode cc pc = .ok (.iastore, 1)) (hc : hp[a]? = some (.inl (0, vec n g))) (h0 : 0 ≤ e ∧ e < n) (hn : n < 1000000) (hw : hp.set a (.inl (0, vec n (fun i => if i = e then v else g i))) = hp') (hpc : pc + 1 = pc') (kk : G xs d cn ini ret mc ms n0 cc Q ns pc' loc st hp') : G xs d cn ini ret mc ms n0 cc Q ns pc loc (.int (iI v) :: .int (iI e) :: .ref a :: st) hp := by
  subst hw
  refine g_hp (stk' := st) hd ?_ hpc kk
  unfold gHp
  simp only [hc, vec_len, ix_iI h0.1 h0.2 hn, vec_set h0.1 h0.2]
theorem g_bast {a n : Nat} {g : Int → Int} {e v : Int} {hp' : GH} {pc' : Nat} (hd : decode cc pc = .ok (.bastore, 1)) (hc : hp[a]? = some (.inl (1, vec n g))) (h0 : 0 ≤ e ∧ e < n) (hv : v = 0 ∨ v = 1) (hn : n < 1000000) (hw : hp.set a (.inl (1, vec n (fun i => if i = e then v else g i))) = hp') (hpc : pc + 1 = pc') (kk : G xs d cn ini ret mc ms n0 cc Q ns pc' loc st hp') : G xs d cn ini ret mc ms n0 cc Q ns pc loc (.int (iI v) :: .int (iI e) :: .ref a :: st) hp := by
  subst hw
  have h1 : iI v = 0 ∨ iI v = 1 := by rcases hv with rfl | rfl <;> decide
  refine g_hp (stk' := st) hd ?_ hpc kk
  unfold gHp
  simp only [hc, vec_len, ix_iI h0.1 h0.2 hn, vec_set h0.1 h0.2, if_pos h1]
theorem g_aald {a kd : Nat} {vs : List Value} {e : Int} {r : Nat} {pc' : Nat} (hd : decode cc pc = .ok (.aaload, 1)) (hc : hp[a]? = some (.inl (kd, vs))) (hk : kd = 2 ∨ kd = 3) (h0 : 0 ≤ e ∧ e < vs.length) (hn : vs.length < 1000000) (hr : vs[e.toNat]? = some (.ref r)) (hpc : pc + 1 = pc') (kk : G xs d cn ini ret mc ms n0 cc Q ns pc' loc (.ref r :: st) hp) : G xs d cn ini ret mc ms n0 cc Q ns pc loc (.int (iI e) :: .ref a :: st) hp := by
  refine g_hp (hp' := hp) (stk' := .ref r :: st) hd ?_ hpc kk
  unfold gHp
  simp only [hc, if_pos hk, ix_iI h0.1 h0.2 hn, hr]
theorem g_retI {v : Int} (hd : decode cc pc = .ok (.ireturn, 1)) (hr : ret = some .int) (hm : mc = 0) (hq : Q (some (.int (iI v))) hp) : G xs d cn ini ret mc ms n0 cc Q ns pc loc [.int (iI v)] hp := by
  subst hr
  exact g_ret hd rfl (Or.inl hm) hq
theorem g_retZ {v : Int} (hd : decode cc pc = .ok (.ireturn, 1)) (hr : ret = some .boolean) (hm : mc = 0) (hv : v = 0 ∨ v = 1) (hq : Q (some (.int (iI v))) hp) : G xs d cn ini ret mc ms n0 cc Q ns pc loc [.int (iI v)] hp := by
  subst hr
  have h1 : iI v = 0 ∨ iI v = 1 := by rcases hv with rfl | rfl <;> decide
  exact g_ret hd (by unfold gRet; simp only [if_pos h1]) (Or.inl hm) hq
theorem g_retL {v : Int64} (hd : decode cc pc = .ok (.lreturn, 1)) (hr : ret = some .long) (hm : mc = 0) (hq : Q (some (.long v)) hp) : G xs d cn ini ret mc ms n0 cc Q ns pc loc [.long v] hp := by
  subst hr
  exact g_ret hd rfl (Or.inl hm) hq
theorem g_retV (hd : decode cc pc = .ok (.return_, 1)) (hr : ret = none) (hm : mc = 0) (hq : Q none hp) : G xs d cn ini ret mc ms n0 cc Q ns pc loc [] hp := by
  subst hr
  exact g_ret hd rfl (Or.inl hm) hq
end GR
