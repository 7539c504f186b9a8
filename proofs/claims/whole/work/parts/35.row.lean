/-! the row, appending, plans -/
theorem hO_P {S : Nat → Int → Int} {Tw : Nat → Nat → Int → Int} {M : Nat → Int → Int} {P P' : Nat → Nat} : (hO S Tw M P).set 31 (.inl (2, (List.range 12).map (fun j => .ref (tR (P' j) 0)))) = hO S Tw M P' := by
  apply List.ext_getElem?
  intro i
  rw [List.getElem?_set]
  by_cases hi : 31 = i
  · subst hi
    rw [if_pos rfl, if_pos (by rw [hO_len]; decide), h31]
  · rw [if_neg hi]
    by_cases hc : i < 280
    · unfold hO
      rw [heapF_get hc, heapF_get hc]
      unfold skAt
      rw [if_neg (fun h => hi h.symm), if_neg (fun h => hi h.symm)]
    · rw [List.getElem?_eq_none (by rw [hO_len]; omega), List.getElem?_eq_none (by rw [hO_len]; omega)]
theorem map_set12 {P : Nat → Nat} {e r : Nat} (he : e < 12) : ((List.range 12).map (fun j => (.ref (tR (P j) 0) : Value))).set e (.ref (tR r 0)) = (List.range 12).map (fun j => (.ref (tR ((fun j => if j = e then r else P j) j) 0) : Value)) := by
  apply List.ext_getElem?
  intro i
  rw [List.getElem?_set, List.getElem?_map, List.getElem?_map]
  by_cases hi : e = i
  · subst hi
    rw [if_pos rfl, if_pos (by simpa using he), List.getElem?_range he]
    simp
  · rw [if_neg hi]
    by_cases hc : i < 12
    · rw [List.getElem?_range hc]
      simp [Ne.symm hi]
    · rw [List.getElem?_eq_none (by simpa using hc)]
      rfl
section AA
variable {xs : Option (List Int32)} {d cn : Nat} {ini : Bool} {ret : Option FieldType} {mc ms n0 : Nat} {cc : ByteArray} {Q : Option Value → GH → Prop} {ns pc : Nat} {loc : GL} {st : List Value} {hp : GH}
variable {S : Nat → Int → Int} {Tw : Nat → Nat → Int → Int} {M : Nat → Int → Int} {P : Nat → Nat}
theorem g_aast31 {e : Int} {r : Nat} {pc' : Nat} (hd : decode cc pc = .ok (.aastore, 1)) (he : 0 ≤ e ∧ e < 12) (hr : r < 19) (hpc : pc + 1 = pc') (kk : G xs d cn ini ret mc ms n0 cc Q ns pc' loc st (hO S Tw M (fun j => if j = e.toNat then r else P j))) : G xs d cn ini ret mc ms n0 cc Q ns pc loc (.ref (tR r 0) :: .int (iI e) :: .ref 31 :: st) (hO S Tw M P) := by
  refine g_hp (hp' := hO S Tw M (fun j => if j = e.toNat then r else P j)) (stk' := st) hd ?_ hpc kk
  unfold gHp
  have hl : ((List.range 12).map (fun j => (.ref (tR (P j) 0) : Value))).length = 12 := by simp
  simp only [h31, hT0 hr, hl, ix_iI (n := 12) he.1 (by omega) (by decide), map_set12 (P := P) (r := r) (show e.toNat < 12 by omega)]
  rw [hO_P]
theorem g_l2i {y : Int64} {pc' : Nat} (hd : decode cc pc = .ok (.l2i, 1)) (hpc : pc + 1 = pc') (kk : G xs d cn ini ret mc ms n0 cc Q ns pc' loc (.int (iI y.toInt32.toInt) :: st) hp) : G xs d cn ini ret mc ms n0 cc Q ns pc loc (.long y :: st) hp := by
  rw [iI_of] at kk
  exact g_s hd rfl rfl hpc kk
end AA
theorem bAnd_255 (a : Int) : 0 ≤ bAnd a 255 ∧ bAnd a 255 ≤ 255 := by
  unfold bAnd
  have h : (iI a &&& iI 255).toBitVec.toNat ≤ 255 := by
    have : (iI a &&& iI 255).toBitVec = (iI a).toBitVec &&& (255 : BitVec 32) := rfl
    rw [this, BitVec.toNat_and]
    exact Nat.and_le_right
  have e : (iI a &&& iI 255).toInt = ((iI a &&& iI 255).toBitVec.toNat : Int) := by
    show (iI a &&& iI 255).toBitVec.toInt = _
    exact BitVec.toInt_eq_toNat_of_lt (by omega)
  omega
/-- the byte of v that `left` bytes follow -/
def byB (v : Int64) (left : Int) : Int := bAnd (v.toUInt64 >>> ((iI (8 * left)).toInt64.toUInt64 &&& Int64.toUInt64 63)).toInt64.toInt32.toInt 255
/-- m bytes of v appended to a text of length len -/
def apL (v : Int64) : Nat → Int → (Int → Int) → Int × (Int → Int)
  | 0, len, b => (len, b)
  | m + 1, len, b => if 64 ≤ len then (len, b) else apL v m (len + 1) (fun i => if i = len then byB v m else b i)
section RW
variable {S : Nat → Int → Int} {Tw : Nat → Nat → Int → Int} {M : Nat → Int → Int} {P : Nat → Nat} {d : Nat} {Q : Option Value → GH → Prop}
theorem s_X7_append {n : Int} {v : Int64} (hx : 0 ≤ S 1 1 ∧ S 1 1 ≤ 64) (hn : 1 ≤ n ∧ n ≤ 8) (hq : ∀ S', (∀ c, c ≠ 1 → c ≠ 2 → S' c = S c) → (∀ j, j ≠ 1 → S' 1 j = S 1 j) → S' 1 1 = (apL v n.toNat (S 1 1) (S 2)).1 → S' 2 = (apL v n.toNat (S 1 1) (S 2)).2 → Q (some (.int (iI (S' 1 1)))) (hO S' Tw M P)) : CallD (d + 1) 60 [.ref 1, .int (iI n), .long v] (hO S Tw M P) Q := by
  refine g_enter (loc := [some _, some _, some _, _, _]) e_X7_append i_X7_append (Nat.le_of_ble_eq_true rfl) rfl ?_
  refine g_l dX7_append_0 rfl rfl ?_
  refine g_iconst dX7_append_1 rfl ?_
  refine g_isub dX7_append_2 rfl ?_
  refine g_l (loc' := [some _, some _, some _, _, some _]) dX7_append_3 rfl rfl ?_
  have loop : ∀ (m : Nat) (i : Int) (S' : Nat → Int → Int), -1 ≤ i → i < 8 → (i + 1).toNat = m → 0 ≤ S' 1 1 → S' 1 1 ≤ 64 → (∀ c, c ≠ 1 → c ≠ 2 → S' c = S c) → (∀ j, j ≠ 1 → S' 1 j = S 1 j) → apL v m (S' 1 1) (S' 2) = apL v n.toNat (S 1 1) (S 2) →
      G none d 7 false (some .int) 0 0 (hO S Tw M P).length cX7_append Q 0 5 [some (.ref 1), some (.int (iI n)), some (.long v), none, some (.int (iI i))] [] (hO S' Tw M P) := by
    intro m
    induction m with
    | zero =>
      intro i S' hi hi2 hm x1 x2 f1 f2 hz
      rw [show apL v 0 (S' 1 1) (S' 2) = (S' 1 1, S' 2) from rfl] at hz
      refine g_l dX7_append_5 rfl rfl ?_
      refine g_if_lt (t := 56) dX7_append_7 (by decide) rfl (by omega) (fun c_7 => ?_) (fun c_7 => False.elim (by omega))
      refine g_l dX7_append_56 rfl rfl ?_
      refine g_getf dX7_append_57 h1 f_7_15 rfl rfl ?_
      refine g_retI dX7_append_60 rfl rfl ?_
      exact hq S' f1 f2 (by rw [← hz]) (by rw [← hz])
    | succ m ih =>
      intro i S' hi hi2 hm x1 x2 f1 f2 hz
      rw [show apL v (m + 1) (S' 1 1) (S' 2) = if 64 ≤ S' 1 1 then (S' 1 1, S' 2) else apL v m (S' 1 1 + 1) (fun i => if i = S' 1 1 then byB v m else S' 2 i) from rfl] at hz
      refine g_l dX7_append_5 rfl rfl ?_
      refine g_if_lt (t := 56) dX7_append_7 (by decide) rfl (by omega) (fun c_7 => False.elim (by omega)) (fun c_7 => ?_)
      refine g_l dX7_append_10 rfl rfl ?_
      refine g_getf dX7_append_11 h1 f_7_15 rfl rfl ?_
      refine g_bipush dX7_append_14 (by decide) rfl ?_
      refine g_icmp_ge (t := 56) dX7_append_16 (by decide) rfl (by omega) (by omega) (fun c_16 => ?_) (fun c_16 => ?_)
      · rw [if_pos c_16] at hz
        refine g_l dX7_append_56 rfl rfl ?_
        refine g_getf dX7_append_57 h1 f_7_15 rfl rfl ?_
        refine g_retI dX7_append_60 rfl rfl ?_
        exact hq S' f1 f2 (by rw [← hz]) (by rw [← hz])
      · rw [if_neg (by omega)] at hz
        refine g_l dX7_append_19 rfl rfl ?_
        refine g_getf dX7_append_20 h1 f_7_9 rfl rfl ?_
        refine g_l dX7_append_23 rfl rfl ?_
        refine g_getf dX7_append_24 h1 f_7_15 rfl rfl ?_
        refine g_l dX7_append_27 rfl rfl ?_
        refine g_bipush dX7_append_28 (by decide) rfl ?_
        refine g_l dX7_append_30 rfl rfl ?_
        refine g_imul dX7_append_32 rfl ?_
        refine g_s dX7_append_33 rfl rfl rfl ?_
        refine g_l2i dX7_append_34 rfl ?_
        refine g_sipush dX7_append_35 (by decide) rfl ?_
        refine g_iand dX7_append_38 rfl ?_
        have hb := bAnd_255 (v.toUInt64 >>> ((iI (8 * i)).toInt64.toUInt64 &&& Int64.toUInt64 63)).toInt64.toInt32.toInt
        refine g_iast dX7_append_39 h2 (by omega) (by decide) p2 rfl ?_
        refine g_l dX7_append_40 rfl rfl ?_
        refine g_s dX7_append_41 rfl rfl rfl ?_
        refine g_getf dX7_append_42 h1 f_7_15 rfl rfl ?_
        refine g_iconst dX7_append_45 rfl ?_
        refine g_iadd dX7_append_46 rfl ?_
        refine g_putf dX7_append_47 h1 f_7_15 (Nat.le_of_ble_eq_true rfl) rfl rfl p1_1 rfl ?_
        refine g_iinc (loc' := [some _, some _, some _, _, some _]) dX7_append_50 rfl rfl rfl ?_
        refine g_goto (t := 5) dX7_append_53 (by decide) ?_
        have e0 : i = (m : Int) := by omega
        refine ih (i + -1) _ (by omega) (by omega) (by omega) ?_ ?_ ?_ ?_ ?_
        · rw [wS_e, wS_o (by decide)]; omega
        · rw [wS_e, wS_o (by decide)]; omega
        · intro c h1 h2; rw [wS_o h1, wS_o h2]; exact f1 c h1 h2
        · intro j hj; rw [wS_s, if_neg hj, wS_o (by decide)]; exact f2 j hj
        · rw [wS_e, wS_o (show (2 : Nat) ≠ 1 by decide), wS_o (show (1 : Nat) ≠ 2 by decide), ← hz]
          refine congrArg (apL v m (S' 1 1 + 1)) (funext fun k => ?_)
          rw [wS_s]
          unfold byB
          rw [← e0]
  exact loop n.toNat (n - 1) S (by omega) (by omega) (by omega) hx.1 hx.2 (fun _ _ _ => rfl) (fun _ _ => rfl) rfl
/-- the row's towers -/
def rowP (P : Nat → Nat) : Prop := (∀ j, j < 12 → 1 ≤ P j ∧ P j ≤ 12) ∧ ∀ i j, i < 12 → j < 12 → P i = P j → i = j
theorem s_X6_length (hq : Q (some (.int (iI (S 30 1)))) (hO S Tw M P)) : CallD (d + 1) 52 [.ref 30] (hO S Tw M P) Q := by
  refine g_enter (loc := [some _]) e_X6_length i_X6_length (Nat.le_of_ble_eq_true rfl) rfl ?_
  refine g_l dX6_length_0 rfl rfl ?_
  refine g_getf dX6_length_1 h30 f_6_20 rfl rfl ?_
  refine g_retI dX6_length_4 rfl rfl ?_
  exact hq
theorem s_X6_forget (hq : Q none (hO (wS S 30 1 0) Tw M P)) : CallD (d + 1) 53 [.ref 30] (hO S Tw M P) Q := by
  refine g_enter (loc := [some _]) e_X6_forget i_X6_forget (Nat.le_of_ble_eq_true rfl) rfl ?_
  refine g_l dX6_forget_0 rfl rfl ?_
  refine g_iconst dX6_forget_1 rfl ?_
  refine g_putf dX6_forget_2 h30 f_6_20 (Nat.le_of_ble_eq_true rfl) rfl rfl p30_1 rfl ?_
  refine g_retV dX6_forget_5 rfl rfl ?_
  exact hq
theorem s_X6_forgetFirst (hp : rowP P) (hq : ∀ P', (∀ j, j < 11 → P' j = P (j + 1)) → P' 11 = P 0 → Q none (hO (wS S 30 1 11) Tw M P')) : CallD (d + 1) 55 [.ref 30] (hO S Tw M P) Q := by
  obtain ⟨p1, p2⟩ := hp
  refine g_enter (loc := [some _, _, _]) e_X6_forgetFirst i_X6_forgetFirst (Nat.le_of_ble_eq_true rfl) rfl ?_
  refine g_l dX6_forgetFirst_0 rfl rfl ?_
  refine g_getf dX6_forgetFirst_1 h30 f_6_11 rfl rfl ?_
  refine g_iconst dX6_forgetFirst_4 rfl ?_
  refine g_aald31 dX6_forgetFirst_5 (by omega) rfl ?_
  refine g_l (loc' := [some _, some _, _]) dX6_forgetFirst_6 rfl rfl ?_
  refine g_iconst dX6_forgetFirst_7 rfl ?_
  refine g_l (loc' := [some _, some _, some _]) dX6_forgetFirst_8 rfl rfl ?_
  have loop : ∀ (m : Nat) (i : Int) (P' : Nat → Nat), 1 ≤ i → i ≤ 12 → (12 - i).toNat = m → (∀ j : Nat, (j : Int) < i - 1 → P' j = P (j + 1)) → (∀ j : Nat, i ≤ (j : Int) → P' j = P j) →
      G none d 6 false none 0 0 (hO S Tw M P).length cX6_forgetFirst Q 0 9 [some (.ref 30), some (.ref (tR (P (0 : Int).toNat) 0)), some (.int (iI i))] [] (hO S Tw M P') := by
    intro m
    induction m with
    | zero =>
      intro i P' hi hi2 hm f1 f2
      refine g_l dX6_forgetFirst_9 rfl rfl ?_
      refine g_bipush dX6_forgetFirst_10 (by decide) rfl ?_
      refine g_icmp_ge (t := 35) dX6_forgetFirst_12 (by decide) rfl (by omega) (by omega) (fun c_12 => ?_) (fun c_12 => False.elim (by omega))
      refine g_l dX6_forgetFirst_35 rfl rfl ?_
      refine g_getf dX6_forgetFirst_36 h30 f_6_11 rfl rfl ?_
      refine g_bipush dX6_forgetFirst_39 (by decide) rfl ?_
      refine g_l dX6_forgetFirst_41 rfl rfl ?_
      refine g_aast31 dX6_forgetFirst_42 (by decide) (by have := p1 0 (by decide); show P 0 < 19; omega) rfl ?_
      refine g_l dX6_forgetFirst_43 rfl rfl ?_
      refine g_bipush dX6_forgetFirst_44 (by decide) rfl ?_
      refine g_putf dX6_forgetFirst_46 h30 f_6_20 (Nat.le_of_ble_eq_true rfl) rfl rfl p30_1 rfl ?_
      refine g_retV dX6_forgetFirst_49 rfl rfl ?_
      refine hq _ (fun j hj => ?_) rfl
      show (if j = 11 then _ else P' j) = _
      rw [if_neg (by omega)]
      exact f1 j (by omega)
    | succ m ih =>
      intro i P' hi hi2 hm f1 f2
      have := p1 i.toNat (by omega)
      have e := f2 i.toNat (by omega)
      refine g_l dX6_forgetFirst_9 rfl rfl ?_
      refine g_bipush dX6_forgetFirst_10 (by decide) rfl ?_
      refine g_icmp_ge (t := 35) dX6_forgetFirst_12 (by decide) rfl (by omega) (by omega) (fun c_12 => False.elim (by omega)) (fun c_12 => ?_)
      refine g_l dX6_forgetFirst_15 rfl rfl ?_
      refine g_getf dX6_forgetFirst_16 h30 f_6_11 rfl rfl ?_
      refine g_l dX6_forgetFirst_19 rfl rfl ?_
      refine g_iconst dX6_forgetFirst_20 rfl ?_
      refine g_isub dX6_forgetFirst_21 rfl ?_
      refine g_l dX6_forgetFirst_22 rfl rfl ?_
      refine g_getf dX6_forgetFirst_23 h30 f_6_11 rfl rfl ?_
      refine g_l dX6_forgetFirst_26 rfl rfl ?_
      refine g_aald31 dX6_forgetFirst_27 (by omega) rfl ?_
      refine g_aast31 dX6_forgetFirst_28 (by omega) (by omega) rfl ?_
      refine g_iinc (loc' := [some _, some _, some _]) dX6_forgetFirst_29 rfl rfl rfl ?_
      refine g_goto (t := 9) dX6_forgetFirst_32 (by decide) ?_
      refine ih (i + 1) _ (by omega) (by omega) (by omega) (fun j hj => ?_) (fun j hj => ?_)
      · show (if j = (i - 1).toNat then P' i.toNat else P' j) = _
        by_cases c : j = (i - 1).toNat
        · rw [if_pos c, e]
          exact congrArg P (by omega)
        · rw [if_neg c]
          exact f1 j (by omega)
      · show (if j = (i - 1).toNat then P' i.toNat else P' j) = _
        rw [if_neg (by omega)]
        exact f2 j (by omega)
  exact loop 11 1 P (by omega) (by omega) rfl (fun j hj => by omega) (fun _ _ => rfl)
end RW
