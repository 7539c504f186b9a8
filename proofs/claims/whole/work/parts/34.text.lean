/-! Text and Reading: the spec of each method; the reading as a function -/
def byF (len : Int) (by' : Int → Int) (i : Int) : Int := if i < 0 ∨ len ≤ i then -1 else by' i
def dgF (len : Int) (by' : Int → Int) (i : Int) : Int := if byF len by' i < 48 ∨ 57 < byF len by' i then -1 else byF len by' i - 48
/-- a text in its bounds -/
def xOk (len : Int) (by' : Int → Int) : Prop := 0 ≤ len ∧ len ≤ 64 ∧ ∀ i, 0 ≤ i → i < 64 → 0 ≤ by' i ∧ by' i ≤ 255
theorem byF_in {len : Int} {by' : Int → Int} (h : xOk len by') (i : Int) : -1 ≤ byF len by' i ∧ byF len by' i ≤ 255 := by
  obtain ⟨h1, h2, h3⟩ := h
  unfold byF
  split
  · omega
  · have := h3 i (by omega) (by omega); omega
theorem dgF_in {len : Int} {by' : Int → Int} (h : xOk len by') (i : Int) : -1 ≤ dgF len by' i ∧ dgF len by' i ≤ 9 := by
  have := byF_in h i
  unfold dgF
  split <;> omega
/-- a part S at a place: the fault, or NONE; what is read then (cells 3 .. 12) -/
def shP (len : Int) (by' : Int → Int) (at' : Int) (S : Nat → Int → Int) : Int × (Nat → Int → Int) :=
  if ¬ byF len by' at' = 83 ∨ S 3 3 ≤ S 3 6 then (at', S)
  else if dgF len by' (at' + 1) < 0 ∨ S 3 3 ≤ dgF len by' (at' + 1) ∨ ¬ S 12 (dgF len by' (at' + 1)) = 0 then (at' + 1, S)
  else if dgF len by' (at' + 2) < 0 then (at' + 2, S)
  else if dgF len by' (at' + 3) < 0 ∨ 10 < dgF len by' (at' + 2) + dgF len by' (at' + 3) then (at' + 3, S)
  else (-9, wS (wS (wS (wS S 4 (dgF len by' (at' + 1)) (dgF len by' (at' + 2))) 5 (dgF len by' (at' + 1)) (dgF len by' (at' + 3))) 12 (dgF len by' (at' + 1)) 1) 3 6 (S 3 6 + 1))
def leD (S : Nat → Int → Int) (i : Int) : Int := if i = 3 then S (7 + (S 3 4).toNat) 2 else if i = 4 ∨ i = 5 then 1 else 0
def moD (S : Nat → Int → Int) (i : Int) : Int := if i = 0 then S 3 3 - 1 else if i = 1 then 3 else 9
/-- the digits of a part P from the i-th on, m of them -/
def ptL (len : Int) (by' : Int → Int) (at' : Int) : Nat → Int → (Nat → Int → Int) → Int × (Nat → Int → Int)
  | 0, _, S => (-9, wS S 3 4 (S 3 4 + 1))
  | m + 1, i, S => if dgF len by' (at' + 1 + i) < leD S i ∨ moD S i < dgF len by' (at' + 1 + i) then (at' + 1 + i, S) else ptL len by' at' m (i + 1) (wS S (7 + (S 3 4).toNat) i (dgF len by' (at' + 1 + i)))
def ptP (len : Int) (by' : Int → Int) (at' : Int) (S : Nat → Int → Int) : Int × (Nat → Int → Int) := if 5 ≤ S 3 4 then (at', S) else ptL len by' at' 6 0 S
/-- the parts, m of them at most -/
def prL (len : Int) (by' : Int → Int) : Nat → Int → (Nat → Int → Int) → Int × (Nat → Int → Int)
  | 0, _, S => (-9, S)
  | m + 1, at', S => if len ≤ at' then (-9, S) else if byF len by' at' = 80 then (if (ptP len by' at' S).1 = -9 then prL len by' m (at' + 7) (ptP len by' at' S).2 else ptP len by' at' S) else (if (shP len by' at' S).1 = -9 then prL len by' m (at' + 4) (shP len by' at' S).2 else shP len by' at' S)
/-- what reading begins with -/
def rd0 (n : Int) (S : Nat → Int → Int) : Prop := S 3 3 = n ∧ S 3 4 = 0 ∧ S 3 6 = 0 ∧ ∀ k, 0 ≤ k → k < 5 → S 4 k = 5 ∧ S 5 k = 0 ∧ S 12 k = 0
/-- a reading in its bounds -/
def rOk (S : Nat → Int → Int) : Prop := (2 ≤ S 3 3 ∧ S 3 3 ≤ 5) ∧ (0 ≤ S 3 4 ∧ S 3 4 ≤ 5) ∧ (0 ≤ S 3 6 ∧ S 3 6 ≤ 5) ∧ (∀ k, 0 ≤ k → k < 5 → 0 ≤ S 12 k ∧ S 12 k ≤ 1)
/-- outside the reading nothing changes -/
def frR (S S' : Nat → Int → Int) : Prop := ∀ c, ¬ (3 ≤ c ∧ c ≤ 12) → S' c = S c
theorem frR.rf {S : Nat → Int → Int} : frR S S := fun _ _ => rfl
theorem frR.tr {S S' S2 : Nat → Int → Int} (h : frR S S') (g : frR S' S2) : frR S S2 := fun c hc => (g c hc).trans (h c hc)
theorem frR.w {S S' : Nat → Int → Int} {c : Nat} {j v : Int} (h : frR S S') (hc : 3 ≤ c ∧ c ≤ 12) : frR S (wS S' c j v) := fun x hx => (wS_o (by omega)).trans (h x hx)
section RE
variable {S : Nat → Int → Int} {Tw : Nat → Nat → Int → Int} {M : Nat → Int → Int} {P : Nat → Nat} {d : Nat} {Q : Option Value → GH → Prop}
theorem s_X7_length (hq : Q (some (.int (iI (S 1 1)))) (hO S Tw M P)) : CallD (d + 1) 58 [.ref 1] (hO S Tw M P) Q := by
  refine g_enter (loc := [some _]) e_X7_length i_X7_length (Nat.le_of_ble_eq_true rfl) rfl ?_
  refine g_l dX7_length_0 rfl rfl ?_
  refine g_getf dX7_length_1 h1 f_7_15 rfl rfl ?_
  refine g_retI dX7_length_4 rfl rfl ?_
  exact hq
theorem s_X7_hasRoomFor {n : Int} (hx : 0 ≤ S 1 1 ∧ S 1 1 ≤ 64) (hn : 1 ≤ n ∧ n ≤ 8) (hy : S 1 1 + n ≤ 64 → Q (some (.int (iI 1))) (hO S Tw M P)) (hn2 : 64 < S 1 1 + n → Q (some (.int (iI 0))) (hO S Tw M P)) : CallD (d + 1) 59 [.ref 1, .int (iI n)] (hO S Tw M P) Q := by
  refine g_enter (loc := [some _, some _]) e_X7_hasRoomFor i_X7_hasRoomFor (Nat.le_of_ble_eq_true rfl) rfl ?_
  refine g_l dX7_hasRoomFor_0 rfl rfl ?_
  refine g_getf dX7_hasRoomFor_1 h1 f_7_15 rfl rfl ?_
  refine g_l dX7_hasRoomFor_4 rfl rfl ?_
  refine g_iadd dX7_hasRoomFor_5 rfl ?_
  refine g_bipush dX7_hasRoomFor_6 (by decide) rfl ?_
  refine g_icmp_gt (t := 15) dX7_hasRoomFor_8 (by decide) rfl (by omega) (by omega) (fun c_8 => ?_) (fun c_8 => ?_)
  · refine g_iconst dX7_hasRoomFor_15 rfl ?_
    refine g_retZ dX7_hasRoomFor_16 rfl rfl (by omega) ?_
    exact hn2 (by omega)
  · refine g_iconst dX7_hasRoomFor_11 rfl ?_
    refine g_goto (t := 16) dX7_hasRoomFor_12 (by decide) ?_
    refine g_retZ dX7_hasRoomFor_16 rfl rfl (by omega) ?_
    exact hy (by omega)
theorem s_X7_clear (hq : Q (some (.int (iI (S 1 1)))) (hO (wS S 1 1 0) Tw M P)) : CallD (d + 1) 61 [.ref 1] (hO S Tw M P) Q := by
  refine g_enter (loc := [some _, _]) e_X7_clear i_X7_clear (Nat.le_of_ble_eq_true rfl) rfl ?_
  refine g_l dX7_clear_0 rfl rfl ?_
  refine g_getf dX7_clear_1 h1 f_7_15 rfl rfl ?_
  refine g_l (loc' := [some _, some _]) dX7_clear_4 rfl rfl ?_
  refine g_l dX7_clear_5 rfl rfl ?_
  refine g_iconst dX7_clear_6 rfl ?_
  refine g_putf dX7_clear_7 h1 f_7_15 (Nat.le_of_ble_eq_true rfl) rfl rfl p1_1 rfl ?_
  refine g_l dX7_clear_10 rfl rfl ?_
  refine g_retI dX7_clear_11 rfl rfl ?_
  exact hq
theorem s_X7_byteAt {i : Int} (hx : xOk (S 1 1) (S 2)) (hi : R32 i) (hq : Q (some (.int (iI (byF (S 1 1) (S 2) i)))) (hO S Tw M P)) : CallD (d + 1) 62 [.ref 1, .int (iI i)] (hO S Tw M P) Q := by
  obtain ⟨x1, x2, x3⟩ := hx
  unfold byF at hq
  refine g_enter (loc := [some _, some _]) e_X7_byteAt i_X7_byteAt (Nat.le_of_ble_eq_true rfl) rfl ?_
  refine g_l dX7_byteAt_0 rfl rfl ?_
  refine g_if_lt (t := 12) dX7_byteAt_1 (by decide) rfl (by omega) (fun c_1 => ?_) (fun c_1 => ?_)
  · refine g_iconst dX7_byteAt_12 rfl ?_
    refine g_goto (t := 22) dX7_byteAt_13 (by decide) ?_
    refine g_retI dX7_byteAt_22 rfl rfl ?_
    rw [if_pos (Or.inl c_1)] at hq
    exact hq
  · refine g_l dX7_byteAt_4 rfl rfl ?_
    refine g_l dX7_byteAt_5 rfl rfl ?_
    refine g_getf dX7_byteAt_6 h1 f_7_15 rfl rfl ?_
    refine g_icmp_lt (t := 16) dX7_byteAt_9 (by decide) rfl (by omega) (by omega) (fun c_9 => ?_) (fun c_9 => ?_)
    · refine g_l dX7_byteAt_16 rfl rfl ?_
      refine g_getf dX7_byteAt_17 h1 f_7_9 rfl rfl ?_
      refine g_l dX7_byteAt_20 rfl rfl ?_
      refine g_iald dX7_byteAt_21 h2 (by omega) (by decide) rfl ?_
      refine g_retI dX7_byteAt_22 rfl rfl ?_
      rw [if_neg (by omega)] at hq
      exact hq
    · refine g_iconst dX7_byteAt_12 rfl ?_
      refine g_goto (t := 22) dX7_byteAt_13 (by decide) ?_
      refine g_retI dX7_byteAt_22 rfl rfl ?_
      rw [if_pos (Or.inr c_9)] at hq
      exact hq
theorem s_X7_digitAt {i : Int} (hx : xOk (S 1 1) (S 2)) (hi : R32 i) (hq : Q (some (.int (iI (dgF (S 1 1) (S 2) i)))) (hO S Tw M P)) : CallD (d + 2) 63 [.ref 1, .int (iI i)] (hO S Tw M P) Q := by
  have hb := byF_in hx i
  unfold dgF at hq
  refine g_enter (loc := [some _, some _, _]) e_X7_digitAt i_X7_digitAt (Nat.le_of_ble_eq_true rfl) rfl ?_
  refine g_l dX7_digitAt_0 rfl rfl ?_
  refine g_l dX7_digitAt_1 rfl rfl ?_
  refine g_callV dX7_digitAt_2 m_7_19 (n := 1) rfl h1 rfl (Nat.le_of_ble_eq_true rfl) (Nat.le_of_ble_eq_true rfl) rfl rfl ?_
  refine s_X7_byteAt hx hi ?_
  simp only [Option.toList_some, Option.toList_none, List.cons_append, List.nil_append]
  generalize byF (S 1 1) (S 2) i = z at hb hq ⊢
  refine g_l (loc' := [some _, some _, some _]) dX7_digitAt_5 rfl rfl ?_
  refine g_l dX7_digitAt_6 rfl rfl ?_
  refine g_bipush dX7_digitAt_7 (by decide) rfl ?_
  refine g_icmp_lt (t := 18) dX7_digitAt_9 (by decide) rfl (by omega) (by omega) (fun c_9 => ?_) (fun c_9 => ?_)
  · refine g_iconst dX7_digitAt_18 rfl ?_
    refine g_goto (t := 26) dX7_digitAt_19 (by decide) ?_
    refine g_retI dX7_digitAt_26 rfl rfl ?_
    rw [if_pos (Or.inl c_9)] at hq
    exact hq
  · refine g_l dX7_digitAt_12 rfl rfl ?_
    refine g_bipush dX7_digitAt_13 (by decide) rfl ?_
    refine g_icmp_le (t := 22) dX7_digitAt_15 (by decide) rfl (by omega) (by omega) (fun c_15 => ?_) (fun c_15 => ?_)
    · refine g_l dX7_digitAt_22 rfl rfl ?_
      refine g_bipush dX7_digitAt_23 (by decide) rfl ?_
      refine g_isub dX7_digitAt_25 rfl ?_
      refine g_retI dX7_digitAt_26 rfl rfl ?_
      rw [if_neg (by omega)] at hq
      exact hq
    · refine g_iconst dX7_digitAt_18 rfl ?_
      refine g_goto (t := 26) dX7_digitAt_19 (by decide) ?_
      refine g_retI dX7_digitAt_26 rfl rfl ?_
      rw [if_pos (Or.inr c_15)] at hq
      exact hq
theorem s_X5_begin {n : Int} (hq : ∀ S', frR S S' → rd0 n S' → Q none (hO S' Tw M P)) : CallD (d + 1) 45 [.ref 3, .int (iI n)] (hO S Tw M P) Q := by
  refine g_enter (loc := [some _, some _, _]) e_X5_begin i_X5_begin (Nat.le_of_ble_eq_true rfl) rfl ?_
  refine g_l dX5_begin_0 rfl rfl ?_
  refine g_l dX5_begin_1 rfl rfl ?_
  refine g_putf dX5_begin_2 h3 f_5_44 (Nat.le_of_ble_eq_true rfl) rfl rfl p3_3 rfl ?_
  refine g_l dX5_begin_5 rfl rfl ?_
  refine g_iconst dX5_begin_6 rfl ?_
  refine g_putf dX5_begin_7 h3 f_5_48 (Nat.le_of_ble_eq_true rfl) rfl rfl p3_4 rfl ?_
  refine g_l dX5_begin_10 rfl rfl ?_
  refine g_iconst dX5_begin_11 rfl ?_
  refine g_putf dX5_begin_12 h3 f_5_51 (Nat.le_of_ble_eq_true rfl) rfl rfl p3_6 rfl ?_
  refine g_iconst dX5_begin_15 rfl ?_
  refine g_l (loc' := [some _, some _, some _]) dX5_begin_16 rfl rfl ?_
  have loop : ∀ (m : Nat) (i : Int) (S' : Nat → Int → Int), 0 ≤ i → i ≤ 5 → (5 - i).toNat = m → frR S S' → S' 3 3 = n → S' 3 4 = 0 → S' 3 6 = 0 → (∀ k, 0 ≤ k → k < i → S' 4 k = 5 ∧ S' 5 k = 0 ∧ S' 12 k = 0) →
      G none d 5 false none 0 0 (hO S Tw M P).length cX5_begin Q 0 17 [some (.ref 3), some (.int (iI n)), some (.int (iI i))] [] (hO S' Tw M P) := by
    intro m
    induction m with
    | zero =>
      intro i S' hz hy hm f1 f2 f3 f4 f5
      refine g_l dX5_begin_17 rfl rfl ?_
      refine g_iconst dX5_begin_18 rfl ?_
      refine g_icmp_ge (t := 49) dX5_begin_19 (by decide) rfl (by omega) (by omega) (fun c_19 => ?_) (fun c_19 => False.elim (by omega))
      refine g_retV dX5_begin_49 rfl rfl ?_
      exact hq _ f1 ⟨f2, f3, f4, fun k a b => f5 k a (by omega)⟩
    | succ m ih =>
      intro i S' hz hy hm f1 f2 f3 f4 f5
      refine g_l dX5_begin_17 rfl rfl ?_
      refine g_iconst dX5_begin_18 rfl ?_
      refine g_icmp_ge (t := 49) dX5_begin_19 (by decide) rfl (by omega) (by omega) (fun c_19 => False.elim (by omega)) (fun c_19 => ?_)
      refine g_l dX5_begin_22 rfl rfl ?_
      refine g_getf dX5_begin_23 h3 f_5_9 rfl rfl ?_
      refine g_l dX5_begin_26 rfl rfl ?_
      refine g_iconst dX5_begin_27 rfl ?_
      refine g_iast dX5_begin_28 h4 (by omega) (by decide) p4 rfl ?_
      refine g_l dX5_begin_29 rfl rfl ?_
      refine g_getf dX5_begin_30 h3 f_5_15 rfl rfl ?_
      refine g_l dX5_begin_33 rfl rfl ?_
      refine g_iconst dX5_begin_34 rfl ?_
      refine g_iast dX5_begin_35 h5 (by omega) (by decide) p5 rfl ?_
      refine g_l dX5_begin_36 rfl rfl ?_
      refine g_getf dX5_begin_37 h3 f_5_23 rfl rfl ?_
      refine g_l dX5_begin_40 rfl rfl ?_
      refine g_iconst dX5_begin_41 rfl ?_
      refine g_bast dX5_begin_42 h12 (by omega) (by omega) (by decide) p12 rfl ?_
      refine g_iinc (loc' := [some _, some _, some _]) dX5_begin_43 rfl rfl rfl ?_
      refine g_goto (t := 17) dX5_begin_46 (by decide) ?_
      refine ih (i + 1) _ (by omega) (by omega) (by omega) (((f1.w (by decide)).w (by decide)).w (by decide)) ?_ ?_ ?_ (fun k a b => ?_)
      · rw [wS_o (by decide), wS_o (by decide), wS_o (by decide), f2]
      · rw [wS_o (by decide), wS_o (by decide), wS_o (by decide), f3]
      · rw [wS_o (by decide), wS_o (by decide), wS_o (by decide), f4]
      · rw [wS_o (show (4 : Nat) ≠ 12 by decide), wS_o (show (4 : Nat) ≠ 5 by decide), wS_o (show (5 : Nat) ≠ 12 by decide), wS_s, wS_s, wS_s]
        by_cases h : k = i
        · rw [if_pos h, if_pos h, if_pos h]; exact ⟨rfl, rfl, rfl⟩
        · rw [if_neg h, if_neg h, if_neg h, wS_o (by decide), wS_o (by decide), wS_o (by decide)]
          exact f5 k a (by omega)
  refine loop _ 0 _ (by omega) (by omega) rfl (((frR.rf.w (by decide)).w (by decide)).w (by decide)) ?_ ?_ ?_ (fun k a b => by omega)
  · rw [wS_s, if_neg (by decide), wS_s, if_neg (by decide), wS_e]
  · rw [wS_s, if_neg (by decide), wS_e]
  · rw [wS_e]
theorem s_X5_readShutter {a : Int} (hx : xOk (S 1 1) (S 2)) (hr : rOk S) (ha : 0 ≤ a ∧ a < 1000) (hq : Q (some (.int (iI (shP (S 1 1) (S 2) a S).1))) (hO (shP (S 1 1) (S 2) a S).2 Tw M P)) : CallD (d + 3) 47 [.ref 3, .ref 1, .int (iI a)] (hO S Tw M P) Q := by
  obtain ⟨r1, r2, r3, r4⟩ := hr
  have hb := byF_in hx a
  have hd1 := dgF_in hx (a + 1)
  have hd2 := dgF_in hx (a + 2)
  have hd3 := dgF_in hx (a + 3)
  unfold shP at hq
  refine g_enter (loc := [some _, some _, some _, _, _, _]) e_X5_readShutter i_X5_readShutter (Nat.le_of_ble_eq_true rfl) rfl ?_
  refine g_l dX5_readShutter_0 rfl rfl ?_
  refine g_l dX5_readShutter_1 rfl rfl ?_
  refine g_callV dX5_readShutter_2 m_5_27 (n := 1) rfl h1 rfl (Nat.le_of_ble_eq_true rfl) (Nat.le_of_ble_eq_true rfl) rfl rfl ?_
  refine s_X7_byteAt hx (by omega) ?_
  simp only [Option.toList_some, Option.toList_none, List.cons_append, List.nil_append]
  refine g_bipush dX5_readShutter_5 (by decide) rfl ?_
  refine g_icmp_ne (t := 21) dX5_readShutter_7 (by decide) rfl (by omega) (by omega) (fun c_7 => ?_) (fun c_7 => ?_)
  · refine g_l dX5_readShutter_21 rfl rfl ?_
    refine g_retI dX5_readShutter_22 rfl rfl ?_
    rw [if_pos (Or.inl c_7)] at hq
    exact hq
  · refine g_l dX5_readShutter_10 rfl rfl ?_
    refine g_getf dX5_readShutter_11 h3 f_5_51 rfl rfl ?_
    refine g_l dX5_readShutter_14 rfl rfl ?_
    refine g_getf dX5_readShutter_15 h3 f_5_44 rfl rfl ?_
    refine g_icmp_lt (t := 23) dX5_readShutter_18 (by decide) rfl (by omega) (by omega) (fun c_18 => ?_) (fun c_18 => ?_)
    · refine g_l dX5_readShutter_23 rfl rfl ?_
      refine g_l dX5_readShutter_24 rfl rfl ?_
      refine g_iconst dX5_readShutter_25 rfl ?_
      refine g_iadd dX5_readShutter_26 rfl ?_
      refine g_callV dX5_readShutter_27 m_5_33 (n := 1) rfl h1 rfl (Nat.le_of_ble_eq_true rfl) (Nat.le_of_ble_eq_true rfl) rfl rfl ?_
      rw [if_neg (by omega)] at hq
      refine s_X7_digitAt hx (by omega) ?_
      simp only [Option.toList_some, Option.toList_none, List.cons_append, List.nil_append]
      generalize dgF (S 1 1) (S 2) (a + 1) = i at hd1 hq ⊢
      refine g_l (loc' := [some _, some _, some _, some _, _, _]) dX5_readShutter_30 rfl rfl ?_
      refine g_l dX5_readShutter_31 rfl rfl ?_
      refine g_if_lt (t := 52) dX5_readShutter_32 (by decide) rfl (by omega) (fun c_32 => ?_) (fun c_32 => ?_)
      · refine g_l dX5_readShutter_52 rfl rfl ?_
        refine g_iconst dX5_readShutter_53 rfl ?_
        refine g_iadd dX5_readShutter_54 rfl ?_
        refine g_retI dX5_readShutter_55 rfl rfl ?_
        rw [if_pos (Or.inl c_32)] at hq
        exact hq
      · refine g_l dX5_readShutter_35 rfl rfl ?_
        refine g_l dX5_readShutter_36 rfl rfl ?_
        refine g_getf dX5_readShutter_37 h3 f_5_44 rfl rfl ?_
        refine g_icmp_ge (t := 52) dX5_readShutter_40 (by decide) rfl (by omega) (by omega) (fun c_40 => ?_) (fun c_40 => ?_)
        · refine g_l dX5_readShutter_52 rfl rfl ?_
          refine g_iconst dX5_readShutter_53 rfl ?_
          refine g_iadd dX5_readShutter_54 rfl ?_
          refine g_retI dX5_readShutter_55 rfl rfl ?_
          rw [if_pos (Or.inr (Or.inl c_40))] at hq
          exact hq
        · have r5 := r4 i (by omega) (by omega)
          refine g_l dX5_readShutter_43 rfl rfl ?_
          refine g_getf dX5_readShutter_44 h3 f_5_23 rfl rfl ?_
          refine g_l dX5_readShutter_47 rfl rfl ?_
          refine g_bald dX5_readShutter_48 h12 (by omega) (by decide) rfl ?_
          refine g_if_eq (t := 56) dX5_readShutter_49 (by decide) rfl (by omega) (fun c_49 => ?_) (fun c_49 => ?_)
          · refine g_l dX5_readShutter_56 rfl rfl ?_
            refine g_l dX5_readShutter_57 rfl rfl ?_
            refine g_iconst dX5_readShutter_58 rfl ?_
            refine g_iadd dX5_readShutter_59 rfl ?_
            refine g_callV dX5_readShutter_60 m_5_33 (n := 1) rfl h1 rfl (Nat.le_of_ble_eq_true rfl) (Nat.le_of_ble_eq_true rfl) rfl rfl ?_
            rw [if_neg (by omega)] at hq
            refine s_X7_digitAt hx (by omega) ?_
            simp only [Option.toList_some, Option.toList_none, List.cons_append, List.nil_append]
            generalize dgF (S 1 1) (S 2) (a + 2) = s at hd2 hq ⊢
            refine g_l (loc' := [some _, some _, some _, some _, some _, _]) dX5_readShutter_63 rfl rfl ?_
            refine g_l dX5_readShutter_65 rfl rfl ?_
            refine g_if_ge (t := 74) dX5_readShutter_67 (by decide) rfl (by omega) (fun c_67 => ?_) (fun c_67 => ?_)
            · refine g_l dX5_readShutter_74 rfl rfl ?_
              refine g_l dX5_readShutter_75 rfl rfl ?_
              refine g_iconst dX5_readShutter_76 rfl ?_
              refine g_iadd dX5_readShutter_77 rfl ?_
              refine g_callV dX5_readShutter_78 m_5_33 (n := 1) rfl h1 rfl (Nat.le_of_ble_eq_true rfl) (Nat.le_of_ble_eq_true rfl) rfl rfl ?_
              rw [if_neg (by omega)] at hq
              refine s_X7_digitAt hx (by omega) ?_
              simp only [Option.toList_some, Option.toList_none, List.cons_append, List.nil_append]
              generalize dgF (S 1 1) (S 2) (a + 3) = z at hd3 hq ⊢
              refine g_l (loc' := [some _, some _, some _, some _, some _, some _]) dX5_readShutter_81 rfl rfl ?_
              refine g_l dX5_readShutter_83 rfl rfl ?_
              refine g_if_lt (t := 98) dX5_readShutter_85 (by decide) rfl (by omega) (fun c_85 => ?_) (fun c_85 => ?_)
              · refine g_l dX5_readShutter_98 rfl rfl ?_
                refine g_iconst dX5_readShutter_99 rfl ?_
                refine g_iadd dX5_readShutter_100 rfl ?_
                refine g_retI dX5_readShutter_101 rfl rfl ?_
                rw [if_pos (Or.inl c_85)] at hq
                exact hq
              · refine g_l dX5_readShutter_88 rfl rfl ?_
                refine g_l dX5_readShutter_90 rfl rfl ?_
                refine g_iadd dX5_readShutter_92 rfl ?_
                refine g_bipush dX5_readShutter_93 (by decide) rfl ?_
                refine g_icmp_le (t := 102) dX5_readShutter_95 (by decide) rfl (by omega) (by omega) (fun c_95 => ?_) (fun c_95 => ?_)
                · refine g_l dX5_readShutter_102 rfl rfl ?_
                  refine g_getf dX5_readShutter_103 h3 f_5_9 rfl rfl ?_
                  refine g_l dX5_readShutter_106 rfl rfl ?_
                  refine g_l dX5_readShutter_107 rfl rfl ?_
                  refine g_iast dX5_readShutter_109 h4 (by omega) (by decide) p4 rfl ?_
                  refine g_l dX5_readShutter_110 rfl rfl ?_
                  refine g_getf dX5_readShutter_111 h3 f_5_15 rfl rfl ?_
                  refine g_l dX5_readShutter_114 rfl rfl ?_
                  refine g_l dX5_readShutter_115 rfl rfl ?_
                  refine g_iast dX5_readShutter_117 h5 (by omega) (by decide) p5 rfl ?_
                  refine g_l dX5_readShutter_118 rfl rfl ?_
                  refine g_getf dX5_readShutter_119 h3 f_5_23 rfl rfl ?_
                  refine g_l dX5_readShutter_122 rfl rfl ?_
                  refine g_iconst dX5_readShutter_123 rfl ?_
                  refine g_bast dX5_readShutter_124 h12 (by omega) (by omega) (by decide) p12 rfl ?_
                  refine g_l dX5_readShutter_125 rfl rfl ?_
                  refine g_s dX5_readShutter_126 rfl rfl rfl ?_
                  refine g_getf dX5_readShutter_127 h3 f_5_51 rfl rfl ?_
                  refine g_iconst dX5_readShutter_130 rfl ?_
                  refine g_iadd dX5_readShutter_131 rfl ?_
                  refine g_putf dX5_readShutter_132 h3 f_5_51 (Nat.le_of_ble_eq_true rfl) rfl rfl p3_6 rfl ?_
                  refine g_bipush dX5_readShutter_135 (by decide) rfl ?_
                  refine g_retI dX5_readShutter_137 rfl rfl ?_
                  rw [if_neg (by omega)] at hq
                  rw [wS_o (by decide), wS_o (by decide), wS_o (by decide)]
                  exact hq
                · refine g_l dX5_readShutter_98 rfl rfl ?_
                  refine g_iconst dX5_readShutter_99 rfl ?_
                  refine g_iadd dX5_readShutter_100 rfl ?_
                  refine g_retI dX5_readShutter_101 rfl rfl ?_
                  rw [if_pos (Or.inr c_95)] at hq
                  exact hq
            · refine g_l dX5_readShutter_70 rfl rfl ?_
              refine g_iconst dX5_readShutter_71 rfl ?_
              refine g_iadd dX5_readShutter_72 rfl ?_
              refine g_retI dX5_readShutter_73 rfl rfl ?_
              rw [if_pos c_67] at hq
              exact hq
          · refine g_l dX5_readShutter_52 rfl rfl ?_
            refine g_iconst dX5_readShutter_53 rfl ?_
            refine g_iadd dX5_readShutter_54 rfl ?_
            refine g_retI dX5_readShutter_55 rfl rfl ?_
            rw [if_pos (Or.inr (Or.inr c_49))] at hq
            exact hq
    · refine g_l dX5_readShutter_21 rfl rfl ?_
      refine g_retI dX5_readShutter_22 rfl rfl ?_
      rw [if_pos (Or.inr c_18)] at hq
      exact hq
end RE
