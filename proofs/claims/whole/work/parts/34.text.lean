/-! Text and Reading: the spec of each method; the reading as a function -/
def byF (len : Int) (by' : Int → Int) (i : Int) : Int := if i < 0 ∨ len ≤ i then -1 else by' i
def dgF (len : Int) (by' : Int → Int) (i : Int) : Int := if byF len by' i < 48 ∨ 57 < byF len by' i then -1 else byF len by' i - 48
/-- a text in its bounds -/
def xOk (len : Int) (by' : Int → Int) : Prop := 0 ≤ len ∧ len ≤ 64 ∧ ∀ i, 0 ≤ i → i < 64 → 0 ≤ by' i ∧ by' i ≤ 255
theorem byF_in {len : Int} {by' : Int → Int} (h : xOk len by') (i : Int) : -1 ≤ byF len by' i ∧ byF len by' i ≤ 255 := by
  obtain ⟨h1, h2, h3⟩ := h
  unfold byF
  split
  · omega
  · have := h3 i (by omega) (by omega); omega
theorem dgF_in {len : Int} {by' : Int → Int} (h : xOk len by') (i : Int) : -1 ≤ dgF len by' i ∧ dgF len by' i ≤ 9 := by
  have := byF_in h i
  unfold dgF
  split <;> omega
/-- a part S at a place: the fault, or NONE; what is read then (cells 3 .. 12) -/
def shP (len : Int) (by' : Int → Int) (at' : Int) (S : Nat → Int → Int) : Int × (Nat → Int → Int) :=
  if ¬ byF len by' at' = 83 ∨ S 3 3 ≤ S 3 6 then (at', S)
  else if dgF len by' (at' + 1) < 0 ∨ S 3 3 ≤ dgF len by' (at' + 1) ∨ ¬ S 12 (dgF len by' (at' + 1)) = 0 then (at' + 1, S)
  else if dgF len by' (at' + 2) < 0 then (at' + 2, S)
  else if dgF len by' (at' + 3) < 0 ∨ 10 < dgF len by' (at' + 2) + dgF len by' (at' + 3) then (at' + 3, S)
  else (-9, wS (wS (wS (wS S 4 (dgF len by' (at' + 1)) (dgF len by' (at' + 2))) 5 (dgF len by' (at' + 1)) (dgF len by' (at' + 3))) 12 (dgF len by' (at' + 1)) 1) 3 6 (S 3 6 + 1))
def leD (S : Nat → Int → Int) (p : Nat) (i : Int) : Int := if i = 3 then S (7 + p) 2 else if i = 4 ∨ i = 5 then 1 else 0
def moD (S : Nat → Int → Int) (i : Int) : Int := if i = 0 then S 3 3 - 1 else if i = 1 then 3 else 9
/-- the digits of a part P from the i-th on, m of them -/
def ptL (len : Int) (by' : Int → Int) (at' : Int) : Nat → Int → (Nat → Int → Int) → Int × (Nat → Int → Int)
  | 0, _, S => (-9, wS S 3 4 (S 3 4 + 1))
  | m + 1, i, S => if dgF len by' (at' + 1 + i) < leD S (S 3 4).toNat i ∨ moD S i < dgF len by' (at' + 1 + i) then (at' + 1 + i, S) else ptL len by' at' m (i + 1) (wS S (7 + (S 3 4).toNat) i (dgF len by' (at' + 1 + i)))
def ptP (len : Int) (by' : Int → Int) (at' : Int) (S : Nat → Int → Int) : Int × (Nat → Int → Int) := if 5 ≤ S 3 4 then (at', S) else ptL len by' at' 6 0 S
/-- the parts, m of them at most -/
def prL (len : Int) (by' : Int → Int) : Nat → Int → (Nat → Int → Int) → Int × (Nat → Int → Int)
  | 0, _, S => (-9, S)
  | m + 1, at', S => if len ≤ at' then (-9, S) else if byF len by' at' = 80 then (if (ptP len by' at' S).1 = -9 then prL len by' m (at' + 7) (ptP len by' at' S).2 else ptP len by' at' S) else (if (shP len by' at' S).1 = -9 then prL len by' m (at' + 4) (shP len by' at' S).2 else shP len by' at' S)
/-- what reading begins with -/
def rd0 (n : Int) (S : Nat → Int → Int) : Prop := S 3 3 = n ∧ S 3 4 = 0 ∧ S 3 6 = 0 ∧ ∀ k, 0 ≤ k → k < 5 → S 4 k = 5 ∧ S 5 k = 0 ∧ S 12 k = 0
/-- the digits of pot p below i are as they should be -/
def dOk (S : Nat → Int → Int) (p : Nat) (i : Int) : Prop := ∀ j, 0 ≤ j → j < i → leD S p j ≤ S (7 + p) j ∧ S (7 + p) j ≤ moD S j
/-- a reading in its bounds -/
def rOk (S : Nat → Int → Int) : Prop := (2 ≤ S 3 3 ∧ S 3 3 ≤ 5) ∧ (0 ≤ S 3 4 ∧ S 3 4 ≤ 5) ∧ (0 ≤ S 3 6 ∧ S 3 6 ≤ 5) ∧ (∀ k, 0 ≤ k → k < 5 → (0 ≤ S 12 k ∧ S 12 k ≤ 1) ∧ 0 ≤ S 4 k ∧ 0 ≤ S 5 k ∧ S 4 k + S 5 k ≤ 10) ∧ (∀ p : Nat, (p : Int) < S 3 4 → dOk S p 6)
/-- outside the reading nothing changes -/
def frR (S S' : Nat → Int → Int) : Prop := ∀ c, ¬ (3 ≤ c ∧ c ≤ 12) → S' c = S c
theorem frR.rf {S : Nat → Int → Int} : frR S S := fun _ _ => rfl
theorem frR.tr {S S' S2 : Nat → Int → Int} (h : frR S S') (g : frR S' S2) : frR S S2 := fun c hc => (g c hc).trans (h c hc)
theorem frR.w {S S' : Nat → Int → Int} {c : Nat} {j v : Int} (h : frR S S') (hc : 3 ≤ c ∧ c ≤ 12) : frR S (wS S' c j v) := fun x hx => (wS_o (by omega)).trans (h x hx)
section SW
variable {xs : Option (List Int32)} {d cn : Nat} {ini : Bool} {ret : Option FieldType} {mc ms n0 : Nat} {cc : ByteArray} {Q : Option Value → GH → Prop} {ns pc : Nat} {loc : GL} {st : List Value} {hp : GH}
theorem g_tsw {df lo hi off e : Int} {offs : Array Int} {len t : Nat} (hd : decode cc pc = .ok (.tableswitch df lo hi offs, len)) (ht : (pc : Int) + off = (t : Int)) (he : R32 e) (h : (if e < lo ∨ hi < e then some df else offs[(e - lo).toNat]?) = some off) (k : G xs d cn ini ret mc ms n0 cc Q ns t loc st hp) : G xs d cn ini ret mc ms n0 cc Q ns pc loc (.int (iI e) :: st) hp := by
  refine g_br (t := t) (tk := true) (stk' := st) hd ?_ rfl k
  unfold gBr
  simp only [gSw, iI_toInt he, h, gTo_of ht, Option.map_some]
theorem sw_c {v e df lo hi off : Int} {offs : Array Int} (h : e = v) (g : (if v < lo ∨ hi < v then some df else offs[(v - lo).toNat]?) = some off) : (if e < lo ∨ hi < e then some df else offs[(e - lo).toNat]?) = some off := by rw [h]; exact g
theorem g_lsw {df off e : Int} {ps : Array (Int × Int)} {len t : Nat} (hd : decode cc pc = .ok (.lookupswitch df ps, len)) (ht : (pc : Int) + off = (t : Int)) (he : R32 e) (hs : (ps.toList.zip (ps.toList.drop 1)).all (fun (a, next) => a.1 < next.1) = true) (h : Op.lookupswitch.offset ps.toList df e = off) (k : G xs d cn ini ret mc ms n0 cc Q ns t loc st hp) : G xs d cn ini ret mc ms n0 cc Q ns pc loc (.int (iI e) :: st) hp := by
  refine g_br (t := t) (tk := true) (stk' := st) hd ?_ rfl k
  unfold gBr
  simp only [gSw, iI_toInt he, h, hs, if_true, gTo_of ht, Option.map_some]
theorem lsw_c {v e df off : Int} {ps : List (Int × Int)} (h : e = v) (g : Op.lookupswitch.offset ps df v = off) : Op.lookupswitch.offset ps df e = off := by rw [h]; exact g
end SW
theorem ptL_in {len a : Int} {by' : Int → Int} (ha : 0 ≤ a ∧ a < 1000) : ∀ (m : Nat) (i : Int) (S : Nat → Int → Int), 0 ≤ i → (m : Int) + i = 6 → R32 (ptL len by' a m i S).1 := by
  intro m
  induction m with
  | zero => intro i S hi hm; unfold ptL; simp only []; omega
  | succ m ih =>
    intro i S hi hm
    unfold ptL
    split
    · simp only []; omega
    · exact ih _ _ (by omega) (by omega)
theorem ptP_in {len a : Int} {by' : Int → Int} {S : Nat → Int → Int} (ha : 0 ≤ a ∧ a < 1000) : R32 (ptP len by' a S).1 := by
  unfold ptP
  split
  · simp only []; omega
  · exact ptL_in ha 6 0 S (by omega) (by omega)
theorem shP_ok {len a : Int} {by' : Int → Int} {S : Nat → Int → Int} (hx : xOk len by') (hr : rOk S) : rOk (shP len by' a S).2 ∧ frR S (shP len by' a S).2 := by
  have hd1 := dgF_in hx (a + 1)
  have hd2 := dgF_in hx (a + 2)
  have hd3 := dgF_in hx (a + 3)
  unfold shP
  generalize dgF len by' (a + 1) = k at hd1 ⊢
  generalize dgF len by' (a + 2) = s at hd2 ⊢
  generalize dgF len by' (a + 3) = z at hd3 ⊢
  split
  · exact ⟨hr, frR.rf⟩
  split
  · exact ⟨hr, frR.rf⟩
  split
  · exact ⟨hr, frR.rf⟩
  split
  · exact ⟨hr, frR.rf⟩
  rename_i c1 c2 c3 c4
  obtain ⟨r1, r2, r3, r4, r5⟩ := hr
  refine ⟨?_, (((frR.rf.w (by decide)).w (by decide)).w (by decide)).w (by decide)⟩
  unfold rOk dOk leD moD at *
  simp only [wS_s, wS_o (show (3 : Nat) ≠ 4 by decide), wS_o (show (3 : Nat) ≠ 5 by decide), wS_o (show (3 : Nat) ≠ 12 by decide), wS_o (show (12 : Nat) ≠ 4 by decide), wS_o (show (12 : Nat) ≠ 5 by decide), wS_o (show (12 : Nat) ≠ 3 by decide), wS_o (show (4 : Nat) ≠ 5 by decide), wS_o (show (4 : Nat) ≠ 12 by decide), wS_o (show (4 : Nat) ≠ 3 by decide), wS_o (show (5 : Nat) ≠ 4 by decide), wS_o (show (5 : Nat) ≠ 12 by decide), wS_o (show (5 : Nat) ≠ 3 by decide)]
  refine ⟨by simpa using r1, by simpa using r2, by simp; omega, fun j h0 h5 => ?_, fun p hp => ?_⟩
  · have := r4 j h0 h5
    by_cases e : j = k
    · simp only [e, if_true]; omega
    · simp only [e, if_false]; exact this
  · have hp' : (p : Int) < S 3 4 := by simpa using hp
    have hp5 : p < 5 := by omega
    intro j h0 h6
    have := r5 p hp' j h0 h6
    rw [wS_o (show 7 + p ≠ 3 by omega), wS_o (show 7 + p ≠ 12 by omega), wS_o (show 7 + p ≠ 5 by omega), wS_o (show 7 + p ≠ 4 by omega)]
    simpa using this
theorem ptL_ok {len a : Int} {by' : Int → Int} (hx : xOk len by') : ∀ (m : Nat) (i : Int) (S : Nat → Int → Int), 0 ≤ i → (m : Int) + i = 6 → rOk S → S 3 4 < 5 → dOk S (S 3 4).toNat i → rOk (ptL len by' a m i S).2 ∧ frR S (ptL len by' a m i S).2 := by
  intro m
  induction m with
  | zero =>
    intro i S hi hm hr hp hd
    obtain rfl : i = 6 := by omega
    obtain ⟨r1, r2, r3, r4, r5⟩ := hr
    refine ⟨?_, frR.rf.w (by decide)⟩
    unfold ptL
    unfold rOk dOk leD moD at *
    simp only [wS_s, wS_o (show (12 : Nat) ≠ 3 by decide), wS_o (show (4 : Nat) ≠ 3 by decide), wS_o (show (5 : Nat) ≠ 3 by decide)]
    refine ⟨by simpa using r1, by simp; omega, by simpa using r3, r4, fun p hp2 => ?_⟩
    have hp3 : (p : Int) < S 3 4 + 1 := by simpa using hp2
    rw [wS_o (show 7 + p ≠ 3 by omega)]
    intro j h0 h6
    by_cases e : (p : Int) = S 3 4
    · have : p = (S 3 4).toNat := by omega
      subst this
      simpa using hd j h0 h6
    · simpa using r5 p (by omega) j h0 h6
  | succ m ih =>
    intro i S hi hm hr hp hd
    have hz := dgF_in hx (a + 1 + i)
    unfold ptL
    generalize dgF len by' (a + 1 + i) = z at hz ⊢
    split
    · exact ⟨hr, frR.rf⟩
    rename_i c
    obtain ⟨r1, r2, r3, r4, r5⟩ := hr
    have h34 : wS S (7 + (S 3 4).toNat) i z 3 = S 3 := wS_o (show 3 ≠ 7 + (S 3 4).toNat by omega)
    have g := ih (i + 1) (wS S (7 + (S 3 4).toNat) i z) (by omega) (by omega) ?_ (by rw [h34]; exact hp) ?_
    · exact ⟨g.1, (frR.rf.w (by omega)).tr g.2⟩
    · unfold rOk dOk leD moD at *
      rw [h34, wS_o (show 12 ≠ 7 + (S 3 4).toNat by omega), wS_o (show 4 ≠ 7 + (S 3 4).toNat by omega), wS_o (show 5 ≠ 7 + (S 3 4).toNat by omega)]
      refine ⟨r1, r2, r3, r4, fun p hp2 => ?_⟩
      rw [wS_o (show 7 + p ≠ 7 + (S 3 4).toNat by omega)]
      exact r5 p hp2
    · rw [h34]
      unfold dOk leD moD at *
      rw [h34]
      simp only [wS_s]
      intro j h0 h6
      by_cases e : j = i
      · subst e
        simp only [if_true]
        by_cases e3 : j = 3
        · subst e3
          simp only [if_true, show ¬ ((2 : Int) = 3) by decide, if_false] at c ⊢
          omega
        · simp only [e3, if_false] at c ⊢
          omega
      · simp only [e, if_false]
        have := hd j h0 (by omega)
        by_cases e3 : j = 3
        · subst e3
          rw [if_neg (show ¬ ((2 : Int) = i) by omega)]
          exact this
        · simp only [e3, if_false] at this ⊢
          exact this
theorem ptP_ok {len a : Int} {by' : Int → Int} {S : Nat → Int → Int} (hx : xOk len by') (hr : rOk S) : rOk (ptP len by' a S).2 ∧ frR S (ptP len by' a S).2 := by
  unfold ptP
  split
  · exact ⟨hr, frR.rf⟩
  · exact ptL_ok hx 6 0 S (by omega) (by omega) hr (by omega) (fun j h0 h1 => by omega)
theorem prL_ok {len : Int} {by' : Int → Int} (hx : xOk len by') : ∀ (m : Nat) (a : Int) (S : Nat → Int → Int), 0 ≤ a → a + 7 * m < 1000 → rOk S → rOk (prL len by' m a S).2 ∧ frR S (prL len by' m a S).2 ∧ R32 (prL len by' m a S).1 := by
  intro m
  induction m with
  | zero => intro a S ha hb hr; unfold prL; exact ⟨hr, frR.rf, by simp only []; omega⟩
  | succ m ih =>
    intro a S ha hb hr
    have k1 := shP_ok (a := a) hx hr
    have k2 := ptP_ok (a := a) hx hr
    have k3 : R32 (ptP len by' a S).1 := ptP_in (S := S) (by omega)
    have k4 : R32 (shP len by' a S).1 := by
      unfold shP
      repeat' split
      all_goals simp only []; omega
    unfold prL
    split
    · exact ⟨hr, frR.rf, by simp only []; omega⟩
    split
    · split
      · have g := ih (a + 7) _ (by omega) (by omega) k2.1
        exact ⟨g.1, k2.2.tr g.2.1, g.2.2⟩
      · exact ⟨k2.1, k2.2, k3⟩
    · split
      · have g := ih (a + 4) _ (by omega) (by omega) k1.1
        exact ⟨g.1, k1.2.tr g.2.1, g.2.2⟩
      · exact ⟨k1.1, k1.2, k4⟩
section RE
variable {S : Nat → Int → Int} {Tw : Nat → Nat → Int → Int} {M : Nat → Int → Int} {P : Nat → Nat} {d : Nat} {Q : Option Value → GH → Prop}
theorem s_X7_length (hq : Q (some (.int (iI (S 1 1)))) (hO S Tw M P)) : CallD (d + 1) 58 [.ref 1] (hO S Tw M P) Q := by
  refine g_enter (loc := [some _]) e_X7_length i_X7_length (Nat.le_of_ble_eq_true rfl) rfl ?_
  refine g_l dX7_length_0 rfl rfl ?_
  refine g_getf dX7_length_1 h1 f_7_15 rfl rfl ?_
  refine g_retI dX7_length_4 rfl rfl ?_
  exact hq
theorem s_X7_hasRoomFor {n : Int} (hx : 0 ≤ S 1 1 ∧ S 1 1 ≤ 64) (hn : 1 ≤ n ∧ n ≤ 8) (hy : S 1 1 + n ≤ 64 → Q (some (.int (iI 1))) (hO S Tw M P)) (hn2 : 64 < S 1 1 + n → Q (some (.int (iI 0))) (hO S Tw M P)) : CallD (d + 1) 59 [.ref 1, .int (iI n)] (hO S Tw M P) Q := by
  refine g_enter (loc := [some _, some _]) e_X7_hasRoomFor i_X7_hasRoomFor (Nat.le_of_ble_eq_true rfl) rfl ?_
  refine g_l dX7_hasRoomFor_0 rfl rfl ?_
  refine g_getf dX7_hasRoomFor_1 h1 f_7_15 rfl rfl ?_
  refine g_l dX7_hasRoomFor_4 rfl rfl ?_
  refine g_iadd dX7_hasRoomFor_5 rfl ?_
  refine g_bipush dX7_hasRoomFor_6 (by decide) rfl ?_
  refine g_icmp_gt (t := 15) dX7_hasRoomFor_8 (by decide) rfl (by omega) (by omega) (fun c_8 => ?_) (fun c_8 => ?_)
  · refine g_iconst dX7_hasRoomFor_15 rfl ?_
    refine g_retZ dX7_hasRoomFor_16 rfl rfl (by omega) ?_
    exact hn2 (by omega)
  · refine g_iconst dX7_hasRoomFor_11 rfl ?_
    refine g_goto (t := 16) dX7_hasRoomFor_12 (by decide) ?_
    refine g_retZ dX7_hasRoomFor_16 rfl rfl (by omega) ?_
    exact hy (by omega)
theorem s_X7_clear (hq : Q (some (.int (iI (S 1 1)))) (hO (wS S 1 1 0) Tw M P)) : CallD (d + 1) 61 [.ref 1] (hO S Tw M P) Q := by
  refine g_enter (loc := [some _, _]) e_X7_clear i_X7_clear (Nat.le_of_ble_eq_true rfl) rfl ?_
  refine g_l dX7_clear_0 rfl rfl ?_
  refine g_getf dX7_clear_1 h1 f_7_15 rfl rfl ?_
  refine g_l (loc' := [some _, some _]) dX7_clear_4 rfl rfl ?_
  refine g_l dX7_clear_5 rfl rfl ?_
  refine g_iconst dX7_clear_6 rfl ?_
  refine g_putf dX7_clear_7 h1 f_7_15 (Nat.le_of_ble_eq_true rfl) rfl rfl p1_1 rfl ?_
  refine g_l dX7_clear_10 rfl rfl ?_
  refine g_retI dX7_clear_11 rfl rfl ?_
  exact hq
theorem s_X7_byteAt {i : Int} (hx : xOk (S 1 1) (S 2)) (hi : R32 i) (hq : Q (some (.int (iI (byF (S 1 1) (S 2) i)))) (hO S Tw M P)) : CallD (d + 1) 62 [.ref 1, .int (iI i)] (hO S Tw M P) Q := by
  obtain ⟨x1, x2, x3⟩ := hx
  unfold byF at hq
  refine g_enter (loc := [some _, some _]) e_X7_byteAt i_X7_byteAt (Nat.le_of_ble_eq_true rfl) rfl ?_
  refine g_l dX7_byteAt_0 rfl rfl ?_
  refine g_if_lt (t := 12) dX7_byteAt_1 (by decide) rfl (by omega) (fun c_1 => ?_) (fun c_1 => ?_)
  · refine g_iconst dX7_byteAt_12 rfl ?_
    refine g_goto (t := 22) dX7_byteAt_13 (by decide) ?_
    refine g_retI dX7_byteAt_22 rfl rfl ?_
    rw [if_pos (Or.inl c_1)] at hq
    exact hq
  · refine g_l dX7_byteAt_4 rfl rfl ?_
    refine g_l dX7_byteAt_5 rfl rfl ?_
    refine g_getf dX7_byteAt_6 h1 f_7_15 rfl rfl ?_
    refine g_icmp_lt (t := 16) dX7_byteAt_9 (by decide) rfl (by omega) (by omega) (fun c_9 => ?_) (fun c_9 => ?_)
    · refine g_l dX7_byteAt_16 rfl rfl ?_
      refine g_getf dX7_byteAt_17 h1 f_7_9 rfl rfl ?_
      refine g_l dX7_byteAt_20 rfl rfl ?_
      refine g_iald dX7_byteAt_21 h2 (by omega) (by decide) rfl ?_
      refine g_retI dX7_byteAt_22 rfl rfl ?_
      rw [if_neg (by omega)] at hq
      exact hq
    · refine g_iconst dX7_byteAt_12 rfl ?_
      refine g_goto (t := 22) dX7_byteAt_13 (by decide) ?_
      refine g_retI dX7_byteAt_22 rfl rfl ?_
      rw [if_pos (Or.inr c_9)] at hq
      exact hq
theorem s_X7_digitAt {i : Int} (hx : xOk (S 1 1) (S 2)) (hi : R32 i) (hq : Q (some (.int (iI (dgF (S 1 1) (S 2) i)))) (hO S Tw M P)) : CallD (d + 2) 63 [.ref 1, .int (iI i)] (hO S Tw M P) Q := by
  have hb := byF_in hx i
  unfold dgF at hq
  refine g_enter (loc := [some _, some _, _]) e_X7_digitAt i_X7_digitAt (Nat.le_of_ble_eq_true rfl) rfl ?_
  refine g_l dX7_digitAt_0 rfl rfl ?_
  refine g_l dX7_digitAt_1 rfl rfl ?_
  refine g_callV dX7_digitAt_2 m_7_19 (n := 1) rfl h1 rfl (Nat.le_of_ble_eq_true rfl) (Nat.le_of_ble_eq_true rfl) rfl rfl ?_
  refine s_X7_byteAt hx hi ?_
  simp only [Option.toList_some, Option.toList_none, List.cons_append, List.nil_append]
  generalize byF (S 1 1) (S 2) i = z at hb hq ⊢
  refine g_l (loc' := [some _, some _, some _]) dX7_digitAt_5 rfl rfl ?_
  refine g_l dX7_digitAt_6 rfl rfl ?_
  refine g_bipush dX7_digitAt_7 (by decide) rfl ?_
  refine g_icmp_lt (t := 18) dX7_digitAt_9 (by decide) rfl (by omega) (by omega) (fun c_9 => ?_) (fun c_9 => ?_)
  · refine g_iconst dX7_digitAt_18 rfl ?_
    refine g_goto (t := 26) dX7_digitAt_19 (by decide) ?_
    refine g_retI dX7_digitAt_26 rfl rfl ?_
    rw [if_pos (Or.inl c_9)] at hq
    exact hq
  · refine g_l dX7_digitAt_12 rfl rfl ?_
    refine g_bipush dX7_digitAt_13 (by decide) rfl ?_
    refine g_icmp_le (t := 22) dX7_digitAt_15 (by decide) rfl (by omega) (by omega) (fun c_15 => ?_) (fun c_15 => ?_)
    · refine g_l dX7_digitAt_22 rfl rfl ?_
      refine g_bipush dX7_digitAt_23 (by decide) rfl ?_
      refine g_isub dX7_digitAt_25 rfl ?_
      refine g_retI dX7_digitAt_26 rfl rfl ?_
      rw [if_neg (by omega)] at hq
      exact hq
    · refine g_iconst dX7_digitAt_18 rfl ?_
      refine g_goto (t := 26) dX7_digitAt_19 (by decide) ?_
      refine g_retI dX7_digitAt_26 rfl rfl ?_
      rw [if_pos (Or.inr c_15)] at hq
      exact hq
theorem s_X5_begin {n : Int} (hq : ∀ S', frR S S' → rd0 n S' → Q none (hO S' Tw M P)) : CallD (d + 1) 45 [.ref 3, .int (iI n)] (hO S Tw M P) Q := by
  refine g_enter (loc := [some _, some _, _]) e_X5_begin i_X5_begin (Nat.le_of_ble_eq_true rfl) rfl ?_
  refine g_l dX5_begin_0 rfl rfl ?_
  refine g_l dX5_begin_1 rfl rfl ?_
  refine g_putf dX5_begin_2 h3 f_5_44 (Nat.le_of_ble_eq_true rfl) rfl rfl p3_3 rfl ?_
  refine g_l dX5_begin_5 rfl rfl ?_
  refine g_iconst dX5_begin_6 rfl ?_
  refine g_putf dX5_begin_7 h3 f_5_48 (Nat.le_of_ble_eq_true rfl) rfl rfl p3_4 rfl ?_
  refine g_l dX5_begin_10 rfl rfl ?_
  refine g_iconst dX5_begin_11 rfl ?_
  refine g_putf dX5_begin_12 h3 f_5_51 (Nat.le_of_ble_eq_true rfl) rfl rfl p3_6 rfl ?_
  refine g_iconst dX5_begin_15 rfl ?_
  refine g_l (loc' := [some _, some _, some _]) dX5_begin_16 rfl rfl ?_
  have loop : ∀ (m : Nat) (i : Int) (S' : Nat → Int → Int), 0 ≤ i → i ≤ 5 → (5 - i).toNat = m → frR S S' → S' 3 3 = n → S' 3 4 = 0 → S' 3 6 = 0 → (∀ k, 0 ≤ k → k < i → S' 4 k = 5 ∧ S' 5 k = 0 ∧ S' 12 k = 0) →
      G none d 5 false none 0 0 (hO S Tw M P).length cX5_begin Q 0 17 [some (.ref 3), some (.int (iI n)), some (.int (iI i))] [] (hO S' Tw M P) := by
    intro m
    induction m with
    | zero =>
      intro i S' hz hy hm f1 f2 f3 f4 f5
      refine g_l dX5_begin_17 rfl rfl ?_
      refine g_iconst dX5_begin_18 rfl ?_
      refine g_icmp_ge (t := 49) dX5_begin_19 (by decide) rfl (by omega) (by omega) (fun c_19 => ?_) (fun c_19 => False.elim (by omega))
      refine g_retV dX5_begin_49 rfl rfl ?_
      exact hq _ f1 ⟨f2, f3, f4, fun k a b => f5 k a (by omega)⟩
    | succ m ih =>
      intro i S' hz hy hm f1 f2 f3 f4 f5
      refine g_l dX5_begin_17 rfl rfl ?_
      refine g_iconst dX5_begin_18 rfl ?_
      refine g_icmp_ge (t := 49) dX5_begin_19 (by decide) rfl (by omega) (by omega) (fun c_19 => False.elim (by omega)) (fun c_19 => ?_)
      refine g_l dX5_begin_22 rfl rfl ?_
      refine g_getf dX5_begin_23 h3 f_5_9 rfl rfl ?_
      refine g_l dX5_begin_26 rfl rfl ?_
      refine g_iconst dX5_begin_27 rfl ?_
      refine g_iast dX5_begin_28 h4 (by omega) (by decide) p4 rfl ?_
      refine g_l dX5_begin_29 rfl rfl ?_
      refine g_getf dX5_begin_30 h3 f_5_15 rfl rfl ?_
      refine g_l dX5_begin_33 rfl rfl ?_
      refine g_iconst dX5_begin_34 rfl ?_
      refine g_iast dX5_begin_35 h5 (by omega) (by decide) p5 rfl ?_
      refine g_l dX5_begin_36 rfl rfl ?_
      refine g_getf dX5_begin_37 h3 f_5_23 rfl rfl ?_
      refine g_l dX5_begin_40 rfl rfl ?_
      refine g_iconst dX5_begin_41 rfl ?_
      refine g_bast dX5_begin_42 h12 (by omega) (by omega) (by decide) p12 rfl ?_
      refine g_iinc (loc' := [some _, some _, some _]) dX5_begin_43 rfl rfl rfl ?_
      refine g_goto (t := 17) dX5_begin_46 (by decide) ?_
      refine ih (i + 1) _ (by omega) (by omega) (by omega) (((f1.w (by decide)).w (by decide)).w (by decide)) ?_ ?_ ?_ (fun k a b => ?_)
      · rw [wS_o (by decide), wS_o (by decide), wS_o (by decide), f2]
      · rw [wS_o (by decide), wS_o (by decide), wS_o (by decide), f3]
      · rw [wS_o (by decide), wS_o (by decide), wS_o (by decide), f4]
      · rw [wS_o (show (4 : Nat) ≠ 12 by decide), wS_o (show (4 : Nat) ≠ 5 by decide), wS_o (show (5 : Nat) ≠ 12 by decide), wS_s, wS_s, wS_s]
        by_cases h : k = i
        · rw [if_pos h, if_pos h, if_pos h]; exact ⟨rfl, rfl, rfl⟩
        · rw [if_neg h, if_neg h, if_neg h, wS_o (by decide), wS_o (by decide), wS_o (by decide)]
          exact f5 k a (by omega)
  refine loop _ 0 _ (by omega) (by omega) rfl (((frR.rf.w (by decide)).w (by decide)).w (by decide)) ?_ ?_ ?_ (fun k a b => by omega)
  · rw [wS_s, if_neg (by decide), wS_s, if_neg (by decide), wS_e]
  · rw [wS_s, if_neg (by decide), wS_e]
  · rw [wS_e]
theorem s_X5_readShutter {a : Int} (hx : xOk (S 1 1) (S 2)) (hr : rOk S) (ha : 0 ≤ a ∧ a < 1000) (hq : Q (some (.int (iI (shP (S 1 1) (S 2) a S).1))) (hO (shP (S 1 1) (S 2) a S).2 Tw M P)) : CallD (d + 3) 47 [.ref 3, .ref 1, .int (iI a)] (hO S Tw M P) Q := by
  obtain ⟨r1, r2, r3, r4, -⟩ := hr
  have hb := byF_in hx a
  have hd1 := dgF_in hx (a + 1)
  have hd2 := dgF_in hx (a + 2)
  have hd3 := dgF_in hx (a + 3)
  unfold shP at hq
  refine g_enter (loc := [some _, some _, some _, _, _, _]) e_X5_readShutter i_X5_readShutter (Nat.le_of_ble_eq_true rfl) rfl ?_
  refine g_l dX5_readShutter_0 rfl rfl ?_
  refine g_l dX5_readShutter_1 rfl rfl ?_
  refine g_callV dX5_readShutter_2 m_5_27 (n := 1) rfl h1 rfl (Nat.le_of_ble_eq_true rfl) (Nat.le_of_ble_eq_true rfl) rfl rfl ?_
  refine s_X7_byteAt hx (by omega) ?_
  simp only [Option.toList_some, Option.toList_none, List.cons_append, List.nil_append]
  refine g_bipush dX5_readShutter_5 (by decide) rfl ?_
  refine g_icmp_ne (t := 21) dX5_readShutter_7 (by decide) rfl (by omega) (by omega) (fun c_7 => ?_) (fun c_7 => ?_)
  · refine g_l dX5_readShutter_21 rfl rfl ?_
    refine g_retI dX5_readShutter_22 rfl rfl ?_
    rw [if_pos (Or.inl c_7)] at hq
    exact hq
  · refine g_l dX5_readShutter_10 rfl rfl ?_
    refine g_getf dX5_readShutter_11 h3 f_5_51 rfl rfl ?_
    refine g_l dX5_readShutter_14 rfl rfl ?_
    refine g_getf dX5_readShutter_15 h3 f_5_44 rfl rfl ?_
    refine g_icmp_lt (t := 23) dX5_readShutter_18 (by decide) rfl (by omega) (by omega) (fun c_18 => ?_) (fun c_18 => ?_)
    · refine g_l dX5_readShutter_23 rfl rfl ?_
      refine g_l dX5_readShutter_24 rfl rfl ?_
      refine g_iconst dX5_readShutter_25 rfl ?_
      refine g_iadd dX5_readShutter_26 rfl ?_
      refine g_callV dX5_readShutter_27 m_5_33 (n := 1) rfl h1 rfl (Nat.le_of_ble_eq_true rfl) (Nat.le_of_ble_eq_true rfl) rfl rfl ?_
      rw [if_neg (by omega)] at hq
      refine s_X7_digitAt hx (by omega) ?_
      simp only [Option.toList_some, Option.toList_none, List.cons_append, List.nil_append]
      generalize dgF (S 1 1) (S 2) (a + 1) = i at hd1 hq ⊢
      refine g_l (loc' := [some _, some _, some _, some _, _, _]) dX5_readShutter_30 rfl rfl ?_
      refine g_l dX5_readShutter_31 rfl rfl ?_
      refine g_if_lt (t := 52) dX5_readShutter_32 (by decide) rfl (by omega) (fun c_32 => ?_) (fun c_32 => ?_)
      · refine g_l dX5_readShutter_52 rfl rfl ?_
        refine g_iconst dX5_readShutter_53 rfl ?_
        refine g_iadd dX5_readShutter_54 rfl ?_
        refine g_retI dX5_readShutter_55 rfl rfl ?_
        rw [if_pos (Or.inl c_32)] at hq
        exact hq
      · refine g_l dX5_readShutter_35 rfl rfl ?_
        refine g_l dX5_readShutter_36 rfl rfl ?_
        refine g_getf dX5_readShutter_37 h3 f_5_44 rfl rfl ?_
        refine g_icmp_ge (t := 52) dX5_readShutter_40 (by decide) rfl (by omega) (by omega) (fun c_40 => ?_) (fun c_40 => ?_)
        · refine g_l dX5_readShutter_52 rfl rfl ?_
          refine g_iconst dX5_readShutter_53 rfl ?_
          refine g_iadd dX5_readShutter_54 rfl ?_
          refine g_retI dX5_readShutter_55 rfl rfl ?_
          rw [if_pos (Or.inr (Or.inl c_40))] at hq
          exact hq
        · have r5 := (r4 i (by omega) (by omega)).1
          refine g_l dX5_readShutter_43 rfl rfl ?_
          refine g_getf dX5_readShutter_44 h3 f_5_23 rfl rfl ?_
          refine g_l dX5_readShutter_47 rfl rfl ?_
          refine g_bald dX5_readShutter_48 h12 (by omega) (by decide) rfl ?_
          refine g_if_eq (t := 56) dX5_readShutter_49 (by decide) rfl (by omega) (fun c_49 => ?_) (fun c_49 => ?_)
          · refine g_l dX5_readShutter_56 rfl rfl ?_
            refine g_l dX5_readShutter_57 rfl rfl ?_
            refine g_iconst dX5_readShutter_58 rfl ?_
            refine g_iadd dX5_readShutter_59 rfl ?_
            refine g_callV dX5_readShutter_60 m_5_33 (n := 1) rfl h1 rfl (Nat.le_of_ble_eq_true rfl) (Nat.le_of_ble_eq_true rfl) rfl rfl ?_
            rw [if_neg (by omega)] at hq
            refine s_X7_digitAt hx (by omega) ?_
            simp only [Option.toList_some, Option.toList_none, List.cons_append, List.nil_append]
            generalize dgF (S 1 1) (S 2) (a + 2) = s at hd2 hq ⊢
            refine g_l (loc' := [some _, some _, some _, some _, some _, _]) dX5_readShutter_63 rfl rfl ?_
            refine g_l dX5_readShutter_65 rfl rfl ?_
            refine g_if_ge (t := 74) dX5_readShutter_67 (by decide) rfl (by omega) (fun c_67 => ?_) (fun c_67 => ?_)
            · refine g_l dX5_readShutter_74 rfl rfl ?_
              refine g_l dX5_readShutter_75 rfl rfl ?_
              refine g_iconst dX5_readShutter_76 rfl ?_
              refine g_iadd dX5_readShutter_77 rfl ?_
              refine g_callV dX5_readShutter_78 m_5_33 (n := 1) rfl h1 rfl (Nat.le_of_ble_eq_true rfl) (Nat.le_of_ble_eq_true rfl) rfl rfl ?_
              rw [if_neg (by omega)] at hq
              refine s_X7_digitAt hx (by omega) ?_
              simp only [Option.toList_some, Option.toList_none, List.cons_append, List.nil_append]
              generalize dgF (S 1 1) (S 2) (a + 3) = z at hd3 hq ⊢
              refine g_l (loc' := [some _, some _, some _, some _, some _, some _]) dX5_readShutter_81 rfl rfl ?_
              refine g_l dX5_readShutter_83 rfl rfl ?_
              refine g_if_lt (t := 98) dX5_readShutter_85 (by decide) rfl (by omega) (fun c_85 => ?_) (fun c_85 => ?_)
              · refine g_l dX5_readShutter_98 rfl rfl ?_
                refine g_iconst dX5_readShutter_99 rfl ?_
                refine g_iadd dX5_readShutter_100 rfl ?_
                refine g_retI dX5_readShutter_101 rfl rfl ?_
                rw [if_pos (Or.inl c_85)] at hq
                exact hq
              · refine g_l dX5_readShutter_88 rfl rfl ?_
                refine g_l dX5_readShutter_90 rfl rfl ?_
                refine g_iadd dX5_readShutter_92 rfl ?_
                refine g_bipush dX5_readShutter_93 (by decide) rfl ?_
                refine g_icmp_le (t := 102) dX5_readShutter_95 (by decide) rfl (by omega) (by omega) (fun c_95 => ?_) (fun c_95 => ?_)
                · refine g_l dX5_readShutter_102 rfl rfl ?_
                  refine g_getf dX5_readShutter_103 h3 f_5_9 rfl rfl ?_
                  refine g_l dX5_readShutter_106 rfl rfl ?_
                  refine g_l dX5_readShutter_107 rfl rfl ?_
                  refine g_iast dX5_readShutter_109 h4 (by omega) (by decide) p4 rfl ?_
                  refine g_l dX5_readShutter_110 rfl rfl ?_
                  refine g_getf dX5_readShutter_111 h3 f_5_15 rfl rfl ?_
                  refine g_l dX5_readShutter_114 rfl rfl ?_
                  refine g_l dX5_readShutter_115 rfl rfl ?_
                  refine g_iast dX5_readShutter_117 h5 (by omega) (by decide) p5 rfl ?_
                  refine g_l dX5_readShutter_118 rfl rfl ?_
                  refine g_getf dX5_readShutter_119 h3 f_5_23 rfl rfl ?_
                  refine g_l dX5_readShutter_122 rfl rfl ?_
                  refine g_iconst dX5_readShutter_123 rfl ?_
                  refine g_bast dX5_readShutter_124 h12 (by omega) (by omega) (by decide) p12 rfl ?_
                  refine g_l dX5_readShutter_125 rfl rfl ?_
                  refine g_s dX5_readShutter_126 rfl rfl rfl ?_
                  refine g_getf dX5_readShutter_127 h3 f_5_51 rfl rfl ?_
                  refine g_iconst dX5_readShutter_130 rfl ?_
                  refine g_iadd dX5_readShutter_131 rfl ?_
                  refine g_putf dX5_readShutter_132 h3 f_5_51 (Nat.le_of_ble_eq_true rfl) rfl rfl p3_6 rfl ?_
                  refine g_bipush dX5_readShutter_135 (by decide) rfl ?_
                  refine g_retI dX5_readShutter_137 rfl rfl ?_
                  rw [if_neg (by omega)] at hq
                  rw [wS_o (by decide), wS_o (by decide), wS_o (by decide)]
                  exact hq
                · refine g_l dX5_readShutter_98 rfl rfl ?_
                  refine g_iconst dX5_readShutter_99 rfl ?_
                  refine g_iadd dX5_readShutter_100 rfl ?_
                  refine g_retI dX5_readShutter_101 rfl rfl ?_
                  rw [if_pos (Or.inr c_95)] at hq
                  exact hq
            · refine g_l dX5_readShutter_70 rfl rfl ?_
              refine g_iconst dX5_readShutter_71 rfl ?_
              refine g_iadd dX5_readShutter_72 rfl ?_
              refine g_retI dX5_readShutter_73 rfl rfl ?_
              rw [if_pos c_67] at hq
              exact hq
          · refine g_l dX5_readShutter_52 rfl rfl ?_
            refine g_iconst dX5_readShutter_53 rfl ?_
            refine g_iadd dX5_readShutter_54 rfl ?_
            refine g_retI dX5_readShutter_55 rfl rfl ?_
            rw [if_pos (Or.inr (Or.inr c_49))] at hq
            exact hq
    · refine g_l dX5_readShutter_21 rfl rfl ?_
      refine g_retI dX5_readShutter_22 rfl rfl ?_
      rw [if_pos (Or.inr c_18)] at hq
      exact hq
theorem s_X5_leastDigit {i : Int} (hi : 0 ≤ i ∧ i < 6) (hr : 0 ≤ S 3 4 ∧ S 3 4 < 5) (hq : Q (some (.int (iI (leD S (S 3 4).toNat i)))) (hO S Tw M P)) : CallD (d + 1) 49 [.ref 3, .int (iI i)] (hO S Tw M P) Q := by
  unfold leD at hq
  refine g_enter (loc := [some _, some _]) e_X5_leastDigit i_X5_leastDigit (Nat.le_of_ble_eq_true rfl) rfl ?_
  rcases (show i = 3 ∨ (i = 4 ∨ i = 5) ∨ i < 3 by omega) with c | c | c
  · rw [if_pos c] at hq
    refine g_l dX5_leastDigit_0 rfl rfl ?_
    refine g_tsw (t := 28) (off := 27) dX5_leastDigit_1 (by decide) (by omega) (sw_c (v := 3) (by omega) (by decide)) ?_
    refine g_l dX5_leastDigit_28 rfl rfl ?_
    refine g_getf dX5_leastDigit_29 h3 f_5_20 rfl rfl ?_
    refine g_l dX5_leastDigit_32 rfl rfl ?_
    refine g_getf dX5_leastDigit_33 h3 f_5_48 rfl rfl ?_
    refine g_aald6 dX5_leastDigit_36 (by omega) rfl ?_
    refine g_iconst dX5_leastDigit_37 rfl ?_
    refine g_iald dX5_leastDigit_38 (hdig (by omega)) (by omega) (by decide) rfl ?_
    refine g_retI dX5_leastDigit_39 rfl rfl ?_
    exact hq
  · rw [if_neg (by omega), if_pos c] at hq
    rcases c with c | c
    · rw [c]
      refine g_l dX5_leastDigit_0 rfl rfl ?_
      refine g_tsw (t := 40) (off := 39) dX5_leastDigit_1 (by decide) (by omega) (sw_c (v := 4) (by omega) (by decide)) ?_
      refine g_iconst dX5_leastDigit_40 rfl ?_
      refine g_retI dX5_leastDigit_41 rfl rfl ?_
      exact hq
    · rw [c]
      refine g_l dX5_leastDigit_0 rfl rfl ?_
      refine g_tsw (t := 40) (off := 39) dX5_leastDigit_1 (by decide) (by omega) (sw_c (v := 5) (by omega) (by decide)) ?_
      refine g_iconst dX5_leastDigit_40 rfl ?_
      refine g_retI dX5_leastDigit_41 rfl rfl ?_
      exact hq
  · rw [if_neg (by omega), if_neg (by omega)] at hq
    refine g_l dX5_leastDigit_0 rfl rfl ?_
    refine g_tsw (t := 42) (off := 41) dX5_leastDigit_1 (by decide) (by omega) (if_pos (by omega)) ?_
    refine g_iconst dX5_leastDigit_42 rfl ?_
    refine g_retI dX5_leastDigit_43 rfl rfl ?_
    exact hq
theorem s_X5_mostDigit {i : Int} (hi : 0 ≤ i ∧ i < 6) (hr : 0 ≤ S 3 3 ∧ S 3 3 ≤ 5) (hq : Q (some (.int (iI (moD S i)))) (hO S Tw M P)) : CallD (d + 1) 50 [.ref 3, .int (iI i)] (hO S Tw M P) Q := by
  unfold moD at hq
  refine g_enter (loc := [some _, some _]) e_X5_mostDigit i_X5_mostDigit (Nat.le_of_ble_eq_true rfl) rfl ?_
  rcases (show i = 0 ∨ i = 1 ∨ 1 < i by omega) with c | c | c
  · rw [if_pos c] at hq
    refine g_l dX5_mostDigit_0 rfl rfl ?_
    refine g_lsw (t := 28) (off := 27) dX5_mostDigit_1 (by decide) (by omega) (by decide) (lsw_c (v := 0) (by omega) (by decide)) ?_
    refine g_l dX5_mostDigit_28 rfl rfl ?_
    refine g_getf dX5_mostDigit_29 h3 f_5_44 rfl rfl ?_
    refine g_iconst dX5_mostDigit_32 rfl ?_
    refine g_isub dX5_mostDigit_33 rfl ?_
    refine g_retI dX5_mostDigit_34 rfl rfl ?_
    exact hq
  · rw [if_neg (by omega), if_pos c] at hq
    refine g_l dX5_mostDigit_0 rfl rfl ?_
    refine g_lsw (t := 35) (off := 34) dX5_mostDigit_1 (by decide) (by omega) (by decide) (lsw_c (v := 1) (by omega) (by decide)) ?_
    refine g_iconst dX5_mostDigit_35 rfl ?_
    refine g_retI dX5_mostDigit_36 rfl rfl ?_
    exact hq
  · rw [if_neg (by omega), if_neg (by omega)] at hq
    refine g_l dX5_mostDigit_0 rfl rfl ?_
    refine g_lsw (t := 37) (off := 36) dX5_mostDigit_1 (by decide) (by omega) (by decide) (by simp only [Op.lookupswitch.offset]; rw [if_neg (by omega), if_neg (by omega)]) ?_
    refine g_bipush dX5_mostDigit_37 (by decide) rfl ?_
    refine g_retI dX5_mostDigit_39 rfl rfl ?_
    exact hq
theorem s_X5_readPot {a : Int} (hx : xOk (S 1 1) (S 2)) (hr : rOk S) (ha : 0 ≤ a ∧ a < 1000) (hq : Q (some (.int (iI (ptP (S 1 1) (S 2) a S).1))) (hO (ptP (S 1 1) (S 2) a S).2 Tw M P)) : CallD (d + 3) 48 [.ref 3, .ref 1, .int (iI a)] (hO S Tw M P) Q := by
  have r1 := hr.1
  have r2 := hr.2.1
  unfold ptP at hq
  refine g_enter (loc := [some _, some _, some _, _, _]) e_X5_readPot i_X5_readPot (Nat.le_of_ble_eq_true rfl) rfl ?_
  refine g_l dX5_readPot_0 rfl rfl ?_
  refine g_getf dX5_readPot_1 h3 f_5_48 rfl rfl ?_
  refine g_iconst dX5_readPot_4 rfl ?_
  refine g_icmp_lt (t := 10) dX5_readPot_5 (by decide) rfl (by omega) (by omega) (fun c_5 => ?_) (fun c_5 => ?_)
  · rw [if_neg (by omega)] at hq
    refine g_iconst dX5_readPot_10 rfl ?_
    refine g_l (loc' := [some _, some _, some _, some _, _]) dX5_readPot_11 rfl rfl ?_
    have loop : ∀ (m : Nat) (i : Int) (z4 : Option Value) (S' : Nat → Int → Int), 0 ≤ i → i ≤ 6 → (6 - i).toNat = m → S' 1 = S 1 → S' 2 = S 2 → S' 3 = S 3 → (2 < i → 0 ≤ S' (7 + (S 3 4).toNat) 2 ∧ S' (7 + (S 3 4).toNat) 2 ≤ 9) →
        Q (some (.int (iI (ptL (S 1 1) (S 2) a m i S').1))) (hO (ptL (S 1 1) (S 2) a m i S').2 Tw M P) →
        G none (d + 2) 5 false (some .int) 0 0 (hO S Tw M P).length cX5_readPot Q 0 12 [some (.ref 3), some (.ref 1), some (.int (iI a)), some (.int (iI i)), z4] [] (hO S' Tw M P) := by
      intro m
      induction m with
      | zero =>
        intro i z4 S' hi hi6 hm e1 e2 e3 e4 hq2
        unfold ptL at hq2
        have r3 : S' 3 4 < 5 := by rw [e3]; omega
        have r4 : 0 ≤ S' 3 4 := by rw [e3]; omega
        refine g_l dX5_readPot_12 rfl rfl ?_
        refine g_bipush dX5_readPot_13 (by decide) rfl ?_
        refine g_icmp_ge (t := 74) dX5_readPot_15 (by decide) rfl (by omega) (by omega) (fun c_15 => ?_) (fun c_15 => False.elim (by omega))
        refine g_l dX5_readPot_74 rfl rfl ?_
        refine g_s dX5_readPot_75 rfl rfl rfl ?_
        refine g_getf dX5_readPot_76 h3 f_5_48 rfl rfl ?_
        refine g_iconst dX5_readPot_79 rfl ?_
        refine g_iadd dX5_readPot_80 rfl ?_
        refine g_putf dX5_readPot_81 h3 f_5_48 (Nat.le_of_ble_eq_true rfl) rfl rfl p3_4 rfl ?_
        refine g_bipush dX5_readPot_84 (by decide) rfl ?_
        refine g_retI dX5_readPot_86 rfl rfl ?_
        exact hq2
      | succ m ih =>
        intro i z4 S' hi hi6 hm e1 e2 e3 e4 hq2
        unfold ptL at hq2
        have r3 : S' 3 4 < 5 := by rw [e3]; omega
        have r4 : 0 ≤ S' 3 4 := by rw [e3]; omega
        have r5 : 2 ≤ S' 3 3 ∧ S' 3 3 ≤ 5 := by rw [e3]; exact r1
        have e5 : (S' 3 4).toNat = (S 3 4).toNat := by rw [e3]
        refine g_l dX5_readPot_12 rfl rfl ?_
        refine g_bipush dX5_readPot_13 (by decide) rfl ?_
        refine g_icmp_ge (t := 74) dX5_readPot_15 (by decide) rfl (by omega) (by omega) (fun c_15 => False.elim (by omega)) (fun c_15 => ?_)
        refine g_l dX5_readPot_18 rfl rfl ?_
        refine g_l dX5_readPot_19 rfl rfl ?_
        refine g_iconst dX5_readPot_20 rfl ?_
        refine g_iadd dX5_readPot_21 rfl ?_
        refine g_l dX5_readPot_22 rfl rfl ?_
        refine g_iadd dX5_readPot_23 rfl ?_
        refine g_callV dX5_readPot_24 m_5_33 (n := 1) rfl h1 rfl (Nat.le_of_ble_eq_true rfl) (Nat.le_of_ble_eq_true rfl) rfl rfl ?_
        refine s_X7_digitAt (by rw [e1, e2]; exact hx) (by omega) ?_
        simp only [Option.toList_some, Option.toList_none, List.cons_append, List.nil_append]
        rw [e1, e2]
        have hz := dgF_in hx (a + 1 + i)
        generalize dgF (S 1 1) (S 2) (a + 1 + i) = z at hz hq2 ⊢
        have r6 : 0 ≤ leD S' (S' 3 4).toNat i ∧ leD S' (S' 3 4).toNat i ≤ 9 := by
          unfold leD
          rw [e5]
          split
          · exact e4 (by omega)
          · split <;> omega
        have r7 : 0 ≤ moD S' i ∧ moD S' i ≤ 9 := by
          unfold moD
          split
          · omega
          · split <;> omega
        refine g_l (loc' := [some _, some _, some _, some _, some _]) dX5_readPot_27 rfl rfl ?_
        refine g_l dX5_readPot_29 rfl rfl ?_
        refine g_l dX5_readPot_31 rfl rfl ?_
        refine g_l dX5_readPot_32 rfl rfl ?_
        refine g_callV dX5_readPot_33 m_5_65 (n := 1) rfl h3 rfl (Nat.le_of_ble_eq_true rfl) (Nat.le_of_ble_eq_true rfl) rfl rfl ?_
        refine s_X5_leastDigit ⟨hi, by omega⟩ ⟨r4, r3⟩ ?_
        simp only [Option.toList_some, Option.toList_none, List.cons_append, List.nil_append]
        refine g_icmp_lt (t := 49) dX5_readPot_36 (by decide) rfl (by omega) (by omega) (fun c_36 => ?_) (fun c_36 => ?_)
        · refine g_l dX5_readPot_49 rfl rfl ?_
          refine g_iconst dX5_readPot_50 rfl ?_
          refine g_iadd dX5_readPot_51 rfl ?_
          refine g_l dX5_readPot_52 rfl rfl ?_
          refine g_iadd dX5_readPot_53 rfl ?_
          refine g_retI dX5_readPot_54 rfl rfl ?_
          rw [if_pos (Or.inl c_36)] at hq2
          exact hq2
        · refine g_l dX5_readPot_39 rfl rfl ?_
          refine g_l dX5_readPot_41 rfl rfl ?_
          refine g_l dX5_readPot_42 rfl rfl ?_
          refine g_callV dX5_readPot_43 m_5_68 (n := 1) rfl h3 rfl (Nat.le_of_ble_eq_true rfl) (Nat.le_of_ble_eq_true rfl) rfl rfl ?_
          refine s_X5_mostDigit ⟨hi, by omega⟩ (by omega) ?_
          simp only [Option.toList_some, Option.toList_none, List.cons_append, List.nil_append]
          refine g_icmp_le (t := 55) dX5_readPot_46 (by decide) rfl (by omega) (by omega) (fun c_46 => ?_) (fun c_46 => ?_)
          · rw [if_neg (by omega)] at hq2
            refine g_l dX5_readPot_55 rfl rfl ?_
            refine g_getf dX5_readPot_56 h3 f_5_20 rfl rfl ?_
            refine g_l dX5_readPot_59 rfl rfl ?_
            refine g_getf dX5_readPot_60 h3 f_5_48 rfl rfl ?_
            refine g_aald6 dX5_readPot_63 (by omega) rfl ?_
            refine g_l dX5_readPot_64 rfl rfl ?_
            refine g_l dX5_readPot_65 rfl rfl ?_
            refine g_iast dX5_readPot_67 (hdig (by omega)) (by omega) (by decide) (pdig (by omega)) rfl ?_
            refine g_iinc (loc' := [some _, some _, some _, some _, some _]) dX5_readPot_68 rfl rfl rfl ?_
            refine g_goto (t := 12) dX5_readPot_71 (by decide) ?_
            refine ih (i + 1) _ _ (by omega) (by omega) (by omega) ?_ ?_ ?_ ?_ hq2
            · rw [wS_o (by omega)]; exact e1
            · rw [wS_o (by omega)]; exact e2
            · rw [wS_o (by omega)]; exact e3
            · intro h2
              rw [e5, wS_s]
              by_cases e : (2 : Int) = i
              · rw [if_pos e]; omega
              · rw [if_neg e]; exact e4 (by omega)
          · refine g_l dX5_readPot_49 rfl rfl ?_
            refine g_iconst dX5_readPot_50 rfl ?_
            refine g_iadd dX5_readPot_51 rfl ?_
            refine g_l dX5_readPot_52 rfl rfl ?_
            refine g_iadd dX5_readPot_53 rfl ?_
            refine g_retI dX5_readPot_54 rfl rfl ?_
            rw [if_pos (Or.inr c_46)] at hq2
            exact hq2
    exact loop 6 0 _ S (by omega) (by omega) (by omega) rfl rfl rfl (by omega) hq
  · rw [if_pos (by omega)] at hq
    refine g_l dX5_readPot_8 rfl rfl ?_
    refine g_retI dX5_readPot_9 rfl rfl ?_
    exact hq
theorem s_X5_readParts (hx : xOk (S 1 1) (S 2)) (hr : rOk S) (hq : Q (some (.int (iI (prL (S 1 1) (S 2) 11 2 S).1))) (hO (prL (S 1 1) (S 2) 11 2 S).2 Tw M P)) : CallD (d + 4) 46 [.ref 3, .ref 1] (hO S Tw M P) Q := by
  refine g_enter (loc := [some _, some _, _, _, _, _]) e_X5_readParts i_X5_readParts (Nat.le_of_ble_eq_true rfl) rfl ?_
  refine g_iconst dX5_readParts_0 rfl ?_
  refine g_l (loc' := [some _, some _, some _, _, _, _]) dX5_readParts_1 rfl rfl ?_
  refine g_iconst dX5_readParts_2 rfl ?_
  refine g_l (loc' := [some _, some _, some _, some _, _, _]) dX5_readParts_3 rfl rfl ?_
  have loop : ∀ (m : Nat) (j a : Int) (z4 z5 : Option Value) (S' : Nat → Int → Int), 0 ≤ j → j ≤ 11 → (11 - j).toNat = m → 0 ≤ a → a ≤ 2 + 7 * j → rOk S' → frR S S' →
      Q (some (.int (iI (prL (S 1 1) (S 2) m a S').1))) (hO (prL (S 1 1) (S 2) m a S').2 Tw M P) →
      G none (d + 3) 5 false (some .int) 0 0 (hO S Tw M P).length cX5_readParts Q 0 4 [some (.ref 3), some (.ref 1), some (.int (iI a)), some (.int (iI j)), z4, z5] [] (hO S' Tw M P) := by
    intro m
    induction m with
    | zero =>
      intro j a z4 z5 S' hj hj2 hm ha hb hr2 hf hq2
      unfold prL at hq2
      refine g_l dX5_readParts_4 rfl rfl ?_
      refine g_bipush dX5_readParts_5 (by decide) rfl ?_
      refine g_icmp_gt (t := 87) dX5_readParts_7 (by decide) rfl (by omega) (by omega) (fun c_7 => ?_) (fun c_7 => False.elim (by omega))
      refine g_bipush dX5_readParts_87 (by decide) rfl ?_
      refine g_retI dX5_readParts_89 rfl rfl ?_
      exact hq2
    | succ m ih =>
      intro j a z4 z5 S' hj hj2 hm ha hb hr2 hf hq2
      have e1 : S' 1 = S 1 := hf 1 (by decide)
      have e2 : S' 2 = S 2 := hf 2 (by decide)
      have hx2 : xOk (S' 1 1) (S' 2) := by rw [e1, e2]; exact hx
      have hz := byF_in hx a
      obtain ⟨x1, x2, -⟩ := hx
      unfold prL at hq2
      refine g_l dX5_readParts_4 rfl rfl ?_
      refine g_bipush dX5_readParts_5 (by decide) rfl ?_
      refine g_icmp_gt (t := 87) dX5_readParts_7 (by decide) rfl (by omega) (by omega) (fun c_7 => False.elim (by omega)) (fun c_7 => ?_)
      refine g_l dX5_readParts_10 rfl rfl ?_
      refine g_l dX5_readParts_11 rfl rfl ?_
      refine g_callV dX5_readParts_12 m_5_54 (n := 0) rfl h1 rfl (Nat.le_of_ble_eq_true rfl) (Nat.le_of_ble_eq_true rfl) rfl rfl ?_
      refine s_X7_length ?_
      simp only [Option.toList_some, Option.toList_none, List.cons_append, List.nil_append]
      rw [e1]
      refine g_icmp_ge (t := 87) dX5_readParts_15 (by decide) rfl (by omega) (by omega) (fun c_15 => ?_) (fun c_15 => ?_)
      · refine g_bipush dX5_readParts_87 (by decide) rfl ?_
        refine g_retI dX5_readParts_89 rfl rfl ?_
        rw [if_pos c_15] at hq2
        exact hq2
      · refine g_l dX5_readParts_18 rfl rfl ?_
        refine g_l dX5_readParts_19 rfl rfl ?_
        refine g_callV dX5_readParts_20 m_5_27 (n := 1) rfl h1 rfl (Nat.le_of_ble_eq_true rfl) (Nat.le_of_ble_eq_true rfl) rfl rfl ?_
        rw [if_neg (by omega)] at hq2
        refine s_X7_byteAt hx2 (by omega) ?_
        simp only [Option.toList_some, Option.toList_none, List.cons_append, List.nil_append]
        rw [e1, e2]
        have k1 := shP_ok (a := a) hx2 hr2
        have k2 := ptP_ok (a := a) hx2 hr2
        refine g_bipush dX5_readParts_23 (by decide) rfl ?_
        refine g_icmp_ne (t := 32) dX5_readParts_25 (by decide) rfl (by omega) (by omega) (fun c_25 => ?_) (fun c_25 => ?_)
        · rw [if_neg c_25] at hq2
          refine g_iconst dX5_readParts_32 rfl ?_
          refine g_l (loc' := [some _, some _, some _, some _, some _, _]) dX5_readParts_33 rfl rfl ?_
          refine g_l dX5_readParts_35 rfl rfl ?_
          refine g_if_eq (t := 49) dX5_readParts_37 (by decide) rfl (by omega) (fun c_37 => ?_) (fun c_37 => False.elim (by omega))
          refine g_l dX5_readParts_49 rfl rfl ?_
          refine g_l dX5_readParts_50 rfl rfl ?_
          refine g_l dX5_readParts_51 rfl rfl ?_
          refine g_callV dX5_readParts_52 m_5_62 (n := 2) rfl h3 rfl (Nat.le_of_ble_eq_true rfl) (Nat.le_of_ble_eq_true rfl) rfl rfl ?_
          refine s_X5_readShutter hx2 hr2 (by omega) ?_
          simp only [Option.toList_some, Option.toList_none, List.cons_append, List.nil_append]
          rw [e1, e2] at k1 ⊢
          have hs : R32 (shP (S 1 1) (S 2) a S').1 := by
            unfold shP
            repeat' split
            all_goals simp only []; omega
          refine g_l (loc' := [some _, some _, some _, some _, some _, some _]) dX5_readParts_55 rfl rfl ?_
          refine g_l dX5_readParts_57 rfl rfl ?_
          refine g_bipush dX5_readParts_59 (by decide) rfl ?_
          refine g_icmp_eq (t := 67) dX5_readParts_61 (by decide) rfl (by omega) (by omega) (fun c_61 => ?_) (fun c_61 => ?_)
          · rw [if_pos c_61] at hq2
            refine g_l dX5_readParts_67 rfl rfl ?_
            refine g_l dX5_readParts_68 rfl rfl ?_
            refine g_if_eq (t := 78) dX5_readParts_70 (by decide) rfl (by omega) (fun c_70 => ?_) (fun c_70 => False.elim (by omega))
            refine g_iconst dX5_readParts_78 rfl ?_
            refine g_iadd dX5_readParts_79 rfl ?_
            refine g_l (loc' := [some _, some _, some _, some _, some _, some _]) dX5_readParts_80 rfl rfl ?_
            refine g_iinc (loc' := [some _, some _, some _, some _, some _, some _]) dX5_readParts_81 rfl rfl rfl ?_
            refine g_goto (t := 4) dX5_readParts_84 (by decide) ?_
            exact ih (j + 1) (a + 4) _ _ _ (by omega) (by omega) (by omega) (by omega) (by omega) k1.1 (hf.tr k1.2) hq2
          · rw [if_neg c_61] at hq2
            refine g_l dX5_readParts_64 rfl rfl ?_
            refine g_retI dX5_readParts_66 rfl rfl ?_
            exact hq2
        · have c25 : byF (S 1 1) (S 2) a = 80 := by omega
          rw [if_pos c25] at hq2
          refine g_iconst dX5_readParts_28 rfl ?_
          refine g_goto (t := 33) dX5_readParts_29 (by decide) ?_
          refine g_l (loc' := [some _, some _, some _, some _, some _, _]) dX5_readParts_33 rfl rfl ?_
          refine g_l dX5_readParts_35 rfl rfl ?_
          refine g_if_eq (t := 49) dX5_readParts_37 (by decide) rfl (by omega) (fun c_37 => False.elim (by omega)) (fun c_37 => ?_)
          refine g_l dX5_readParts_40 rfl rfl ?_
          refine g_l dX5_readParts_41 rfl rfl ?_
          refine g_l dX5_readParts_42 rfl rfl ?_
          refine g_callV dX5_readParts_43 m_5_58 (n := 2) rfl h3 rfl (Nat.le_of_ble_eq_true rfl) (Nat.le_of_ble_eq_true rfl) rfl rfl ?_
          refine s_X5_readPot hx2 hr2 (by omega) ?_
          simp only [Option.toList_some, Option.toList_none, List.cons_append, List.nil_append]
          rw [e1, e2] at k2 ⊢
          have hs : R32 (ptP (S 1 1) (S 2) a S').1 := ptP_in (S := S') (by omega)
          generalize ptP (S 1 1) (S 2) a S' = g at k2 hs hq2 ⊢
          refine g_goto (t := 55) dX5_readParts_46 (by decide) ?_
          refine g_l (loc' := [some _, some _, some _, some _, some _, some _]) dX5_readParts_55 rfl rfl ?_
          refine g_l dX5_readParts_57 rfl rfl ?_
          refine g_bipush dX5_readParts_59 (by decide) rfl ?_
          refine g_icmp_eq (t := 67) dX5_readParts_61 (by decide) rfl (by omega) (by omega) (fun c_61 => ?_) (fun c_61 => ?_)
          · rw [if_pos c_61] at hq2
            refine g_l dX5_readParts_67 rfl rfl ?_
            refine g_l dX5_readParts_68 rfl rfl ?_
            refine g_if_eq (t := 78) dX5_readParts_70 (by decide) rfl (by omega) (fun c_70 => False.elim (by omega)) (fun c_70 => ?_)
            refine g_bipush dX5_readParts_73 (by decide) rfl ?_
            refine g_goto (t := 79) dX5_readParts_75 (by decide) ?_
            refine g_iadd dX5_readParts_79 rfl ?_
            refine g_l (loc' := [some _, some _, some _, some _, some _, some _]) dX5_readParts_80 rfl rfl ?_
            refine g_iinc (loc' := [some _, some _, some _, some _, some _, some _]) dX5_readParts_81 rfl rfl rfl ?_
            refine g_goto (t := 4) dX5_readParts_84 (by decide) ?_
            exact ih (j + 1) (a + 7) _ _ _ (by omega) (by omega) (by omega) (by omega) (by omega) k2.1 (hf.tr k2.2) hq2
          · rw [if_neg c_61] at hq2
            refine g_l dX5_readParts_64 rfl rfl ?_
            refine g_retI dX5_readParts_66 rfl rfl ?_
            exact hq2
  exact loop 11 0 2 _ _ S (by omega) (by omega) (by omega) (by omega) (by omega) hr frR.rf hq
/-- the reading of a text: the fault; what is read; with rd0 where it begins -/
theorem rd0_ok {n : Int} (hn : 2 ≤ n ∧ n ≤ 5) (h : rd0 n S) : rOk S := by
  obtain ⟨e1, e2, e3, e4⟩ := h
  refine ⟨by omega, by omega, by omega, fun k a b => ?_, fun p hp => by omega⟩
  have := e4 k a b
  omega
theorem s_X5_read (hx : xOk (S 1 1) (S 2)) (hq0 : byF (S 1 1) (S 2) 0 ≠ 75 → Q (some (.int (iI 0))) (hO S Tw M P)) (hq1 : byF (S 1 1) (S 2) 0 = 75 → ¬ (2 ≤ dgF (S 1 1) (S 2) 1 ∧ dgF (S 1 1) (S 2) 1 ≤ 5) → Q (some (.int (iI 1))) (hO S Tw M P))
    (hq2 : byF (S 1 1) (S 2) 0 = 75 → 2 ≤ dgF (S 1 1) (S 2) 1 ∧ dgF (S 1 1) (S 2) 1 ≤ 5 → ∀ S', frR S S' → rd0 (dgF (S 1 1) (S 2) 1) S' → Q (some (.int (iI (prL (S 1 1) (S 2) 11 2 S').1))) (hO (prL (S 1 1) (S 2) 11 2 S').2 Tw M P)) : CallD (d + 5) 44 [.ref 3, .ref 1] (hO S Tw M P) Q := by
  have hb := byF_in hx 0
  have hd1 := dgF_in hx 1
  refine g_enter (loc := [some _, some _, _]) e_X5_read i_X5_read (Nat.le_of_ble_eq_true rfl) rfl ?_
  refine g_l dX5_read_0 rfl rfl ?_
  refine g_iconst dX5_read_1 rfl ?_
  refine g_callV dX5_read_2 m_5_27 (n := 1) rfl h1 rfl (Nat.le_of_ble_eq_true rfl) (Nat.le_of_ble_eq_true rfl) rfl rfl ?_
  refine s_X7_byteAt hx (by omega) ?_
  simp only [Option.toList_some, Option.toList_none, List.cons_append, List.nil_append]
  refine g_bipush dX5_read_5 (by decide) rfl ?_
  refine g_icmp_eq (t := 12) dX5_read_7 (by decide) rfl (by omega) (by omega) (fun c_7 => ?_) (fun c_7 => ?_)
  · refine g_l dX5_read_12 rfl rfl ?_
    refine g_iconst dX5_read_13 rfl ?_
    refine g_callV dX5_read_14 m_5_33 (n := 1) rfl h1 rfl (Nat.le_of_ble_eq_true rfl) (Nat.le_of_ble_eq_true rfl) rfl rfl ?_
    refine s_X7_digitAt hx (by omega) ?_
    simp only [Option.toList_some, Option.toList_none, List.cons_append, List.nil_append]
    refine g_l (loc' := [some _, some _, some _]) dX5_read_17 rfl rfl ?_
    refine g_l dX5_read_18 rfl rfl ?_
    refine g_iconst dX5_read_19 rfl ?_
    refine g_icmp_lt (t := 28) dX5_read_20 (by decide) rfl (by omega) (by omega) (fun c_20 => ?_) (fun c_20 => ?_)
    · refine g_iconst dX5_read_28 rfl ?_
      refine g_retI dX5_read_29 rfl rfl ?_
      exact hq1 c_7 (by omega)
    · refine g_l dX5_read_23 rfl rfl ?_
      refine g_iconst dX5_read_24 rfl ?_
      refine g_icmp_le (t := 30) dX5_read_25 (by decide) rfl (by omega) (by omega) (fun c_25 => ?_) (fun c_25 => ?_)
      · refine g_l dX5_read_30 rfl rfl ?_
        refine g_l dX5_read_31 rfl rfl ?_
        refine g_callV dX5_read_32 m_5_36 (n := 1) rfl h3 rfl (Nat.le_of_ble_eq_true rfl) (Nat.le_of_ble_eq_true rfl) rfl rfl ?_
        refine s_X5_begin (fun S' f1 f2 => ?_)
        simp only [Option.toList_some, Option.toList_none, List.cons_append, List.nil_append]
        refine g_l dX5_read_35 rfl rfl ?_
        refine g_l dX5_read_36 rfl rfl ?_
        refine g_callV dX5_read_37 m_5_40 (n := 1) rfl h3 rfl (Nat.le_of_ble_eq_true rfl) (Nat.le_of_ble_eq_true rfl) rfl rfl ?_
        have e1 : S' 1 = S 1 := f1 1 (by decide)
        have e2 : S' 2 = S 2 := f1 2 (by decide)
        refine s_X5_readParts (by rw [e1, e2]; exact hx) (rd0_ok (by omega) f2) ?_
        simp only [Option.toList_some, Option.toList_none, List.cons_append, List.nil_append]
        rw [e1, e2]
        have k := (prL_ok hx 11 2 S' (by omega) (by omega) (rd0_ok (by omega) f2)).2.2
        have g := hq2 c_7 (by omega) S' f1 f2
        generalize prL (S 1 1) (S 2) 11 2 S' = z at k g ⊢
        refine g_retI dX5_read_40 rfl rfl ?_
        exact g
      · refine g_iconst dX5_read_28 rfl ?_
        refine g_retI dX5_read_29 rfl rfl ?_
        exact hq1 c_7 (by omega)
  · refine g_iconst dX5_read_10 rfl ?_
    refine g_retI dX5_read_11 rfl rfl ?_
    exact hq0 c_7
theorem s_X9_build {t : Nat} (ht : t < 19) (hn : 0 ≤ S 3 4 ∧ S 3 4 ≤ 5) (hq : ∀ Tw', frT t Tw Tw' → (∀ k, 0 ≤ k → k < 5 → Tw' t 2 k = 0) → Tw' t 3 = S 4 → Tw' t 4 = S 5 → Tw' t 1 5 = S 3 3 → Tw' t 1 6 = 0 → (∀ p, 0 ≤ p → p < S 3 4 → Tw' t 8 p = S (7 + p.toNat) 0) → (∀ p, 0 ≤ p → p < 5 → Tw' t 9 p = 0 ∧ Tw' t 10 p = 0) → Q none (hO S Tw' M P)) : CallD (d + 3) 73 [.ref (tR t 0), .ref 3] (hO S Tw M P) Q := by
  refine g_enter (loc := [some _, some _]) e_X9_build i_X9_build (Nat.le_of_ble_eq_true rfl) rfl ?_
  refine g_l dX9_build_0 rfl rfl ?_
  refine g_getf dX9_build_1 (hT0 (by omega)) f_9_10 rfl rfl ?_
  refine g_l dX9_build_4 rfl rfl ?_
  refine g_callV dX9_build_5 m_9_25 (n := 1) rfl (hT1 (by omega)) rfl (Nat.le_of_ble_eq_true rfl) (Nat.le_of_ble_eq_true rfl) rfl rfl ?_
  refine s_X2_build ht (fun T1 a1 a2 a3 a4 a5 a6 a7 => ?_)
  simp only [Option.toList_some, Option.toList_none, List.cons_append, List.nil_append]
  refine g_l dX9_build_8 rfl rfl ?_
  refine g_getf dX9_build_9 (hT0 (by omega)) f_9_21 rfl rfl ?_
  refine g_l dX9_build_12 rfl rfl ?_
  refine g_callV dX9_build_13 m_9_29 (n := 1) rfl (hT7 (by omega)) rfl (Nat.le_of_ble_eq_true rfl) (Nat.le_of_ble_eq_true rfl) rfl rfl ?_
  refine s_X4_build ht hn (fun T2 b1 b2 b3 b4 => ?_)
  simp only [Option.toList_some, Option.toList_none, List.cons_append, List.nil_append]
  refine g_retV dX9_build_16 rfl rfl ?_
  refine hq T2 (a1.tr b1) (fun k h0 h5 => ?_) ?_ ?_ ?_ ?_ b2 b3
  · rw [b4 2 (by decide) (by decide) (by decide)]; exact a2 k h0 h5
  · rw [b4 3 (by decide) (by decide) (by decide)]; exact a3
  · rw [b4 4 (by decide) (by decide) (by decide)]; exact a4
  · rw [b4 1 (by decide) (by decide) (by decide)]; exact a5
  · rw [b4 1 (by decide) (by decide) (by decide)]; exact a6
end RE
