/-! Told: the spec of each method -/
/-- what is told of pots is in its bounds -/
def pOk (S : Nat → Int → Int) : Prop := 0 ≤ S 13 5 ∧ S 13 5 ≤ 5 ∧ ∀ p, 0 ≤ p → p < S 13 5 → (0 ≤ S 14 p ∧ S 14 p ≤ 3) ∧ (0 ≤ S 15 p ∧ S 15 p ≤ 9) ∧ (0 ≤ S 16 p ∧ S 16 p ≤ 9) ∧ (1 ≤ S 17 p ∧ S 17 p ≤ 9) ∧ (1 ≤ S 18 p ∧ S 18 p ≤ 9)
def mjF (S : Nat → Int → Int) (p : Int) : Int := S 18 p * (if S 14 p = 3 then 20 else 10)
theorem mjF_in {S : Nat → Int → Int} (h : pOk S) {p : Int} (h0 : 0 ≤ p) (h1 : p < S 13 5) : 0 ≤ mjF S p ∧ mjF S p ≤ 180 := by
  obtain ⟨-, -, h⟩ := h
  obtain ⟨-, -, -, -, b⟩ := h p h0 h1
  unfold mjF
  split <;> omega
section TO
variable {S : Nat → Int → Int} {Tw : Nat → Nat → Int → Int} {M : Nat → Int → Int} {P : Nat → Nat} {d : Nat} {Q : Option Value → GH → Prop}
theorem s_X8_isThere {k : Int} (hk : R32 k) (hn : R32 (S 13 5)) (h1 : 0 ≤ k ∧ k < S 13 5 → Q (some (.int (iI 1))) (hO S Tw M P)) (h0 : k < 0 ∨ S 13 5 ≤ k → Q (some (.int (iI 0))) (hO S Tw M P)) : CallD (d + 1) 66 [.ref 13, .int (iI k)] (hO S Tw M P) Q := by
  refine g_enter (loc := [some _, some _]) e_X8_isThere i_X8_isThere (Nat.le_of_ble_eq_true rfl) rfl ?_
  refine g_l dX8_isThere_0 rfl rfl ?_
  refine g_if_lt (t := 16) dX8_isThere_1 (by decide) rfl (by omega) (fun c_1 => ?_) (fun c_1 => ?_)
  · refine g_iconst dX8_isThere_16 rfl ?_
    refine g_retZ dX8_isThere_17 rfl rfl (by omega) ?_
    exact h0 (by omega)
  · refine g_l dX8_isThere_4 rfl rfl ?_
    refine g_l dX8_isThere_5 rfl rfl ?_
    refine g_getf dX8_isThere_6 h13 f_8_33 rfl rfl ?_
    refine g_icmp_ge (t := 16) dX8_isThere_9 (by decide) rfl (by omega) (by omega) (fun c_9 => ?_) (fun c_9 => ?_)
    · refine g_iconst dX8_isThere_16 rfl ?_
      refine g_retZ dX8_isThere_17 rfl rfl (by omega) ?_
      exact h0 (by omega)
    · refine g_iconst dX8_isThere_12 rfl ?_
      refine g_goto (t := 17) dX8_isThere_13 (by decide) ?_
      refine g_retZ dX8_isThere_17 rfl rfl (by omega) ?_
      exact h1 (by omega)
theorem s_X8_isSet {k : Int} (hk : R32 k) (h1 : 0 ≤ k ∧ k < bShl 1 (S 13 5) → Q (some (.int (iI 1))) (hO S Tw M P)) (h0 : k < 0 ∨ bShl 1 (S 13 5) ≤ k → Q (some (.int (iI 0))) (hO S Tw M P)) : CallD (d + 1) 67 [.ref 13, .int (iI k)] (hO S Tw M P) Q := by
  have hb : R32 (bShl 1 (S 13 5)) := R_bShl
  refine g_enter (loc := [some _, some _]) e_X8_isSet i_X8_isSet (Nat.le_of_ble_eq_true rfl) rfl ?_
  refine g_l dX8_isSet_0 rfl rfl ?_
  refine g_if_lt (t := 18) dX8_isSet_1 (by decide) rfl (by omega) (fun c_1 => ?_) (fun c_1 => ?_)
  · refine g_iconst dX8_isSet_18 rfl ?_
    refine g_retZ dX8_isSet_19 rfl rfl (by omega) ?_
    exact h0 (by omega)
  · refine g_l dX8_isSet_4 rfl rfl ?_
    refine g_iconst dX8_isSet_5 rfl ?_
    refine g_l dX8_isSet_6 rfl rfl ?_
    refine g_getf dX8_isSet_7 h13 f_8_33 rfl rfl ?_
    refine g_ishl dX8_isSet_10 rfl ?_
    refine g_icmp_ge (t := 18) dX8_isSet_11 (by decide) rfl (by omega) (by omega) (fun c_11 => ?_) (fun c_11 => ?_)
    · refine g_iconst dX8_isSet_18 rfl ?_
      refine g_retZ dX8_isSet_19 rfl rfl (by omega) ?_
      exact h0 (by omega)
    · refine g_iconst dX8_isSet_14 rfl ?_
      refine g_goto (t := 19) dX8_isSet_15 (by decide) ?_
      refine g_retZ dX8_isSet_19 rfl rfl (by omega) ?_
      exact h1 (by omega)
theorem s_X8_isSalt {p : Int} (hp : pOk S) (h0 : 0 ≤ p) (h1 : p < S 13 5) (hy : S 14 p = 1 → Q (some (.int (iI 1))) (hO S Tw M P)) (hn : ¬ S 14 p = 1 → Q (some (.int (iI 0))) (hO S Tw M P)) : CallD (d + 1) 68 [.ref 13, .int (iI p)] (hO S Tw M P) Q := by
  obtain ⟨a, b, hp⟩ := hp
  obtain ⟨b1, -⟩ := hp p h0 h1
  refine g_enter (loc := [some _, some _]) e_X8_isSalt i_X8_isSalt (Nat.le_of_ble_eq_true rfl) rfl ?_
  refine g_l dX8_isSalt_0 rfl rfl ?_
  refine g_getf dX8_isSalt_1 h13 f_8_9 rfl rfl ?_
  refine g_l dX8_isSalt_4 rfl rfl ?_
  refine g_iald dX8_isSalt_5 h14 (by omega) (by decide) rfl ?_
  refine g_iconst dX8_isSalt_6 rfl ?_
  refine g_icmp_ne (t := 14) dX8_isSalt_7 (by decide) rfl (by omega) (by omega) (fun c_7 => ?_) (fun c_7 => ?_)
  · refine g_iconst dX8_isSalt_14 rfl ?_
    refine g_retZ dX8_isSalt_15 rfl rfl (by omega) ?_
    exact hn (by omega)
  · refine g_iconst dX8_isSalt_10 rfl ?_
    refine g_goto (t := 15) dX8_isSalt_11 (by decide) ?_
    refine g_retZ dX8_isSalt_15 rfl rfl (by omega) ?_
    exact hy (by omega)
theorem s_X8_isRaw {p : Int} (hp : pOk S) (h0 : 0 ≤ p) (h1 : p < S 13 5) (hy : S 14 p = 2 → Q (some (.int (iI 1))) (hO S Tw M P)) (hn : ¬ S 14 p = 2 → Q (some (.int (iI 0))) (hO S Tw M P)) : CallD (d + 1) 69 [.ref 13, .int (iI p)] (hO S Tw M P) Q := by
  obtain ⟨a, b, hp⟩ := hp
  obtain ⟨b1, -⟩ := hp p h0 h1
  refine g_enter (loc := [some _, some _]) e_X8_isRaw i_X8_isRaw (Nat.le_of_ble_eq_true rfl) rfl ?_
  refine g_l dX8_isRaw_0 rfl rfl ?_
  refine g_getf dX8_isRaw_1 h13 f_8_9 rfl rfl ?_
  refine g_l dX8_isRaw_4 rfl rfl ?_
  refine g_iald dX8_isRaw_5 h14 (by omega) (by decide) rfl ?_
  refine g_iconst dX8_isRaw_6 rfl ?_
  refine g_icmp_ne (t := 14) dX8_isRaw_7 (by decide) rfl (by omega) (by omega) (fun c_7 => ?_) (fun c_7 => ?_)
  · refine g_iconst dX8_isRaw_14 rfl ?_
    refine g_retZ dX8_isRaw_15 rfl rfl (by omega) ?_
    exact hn (by omega)
  · refine g_iconst dX8_isRaw_10 rfl ?_
    refine g_goto (t := 15) dX8_isRaw_11 (by decide) ?_
    refine g_retZ dX8_isRaw_15 rfl rfl (by omega) ?_
    exact hy (by omega)
theorem s_X8_mostJump {p : Int} (hp : pOk S) (h0 : 0 ≤ p) (h1 : p < S 13 5) (hq : Q (some (.int (iI (mjF S p)))) (hO S Tw M P)) : CallD (d + 1) 70 [.ref 13, .int (iI p)] (hO S Tw M P) Q := by
  obtain ⟨a, b, hp⟩ := hp
  obtain ⟨b1, -⟩ := hp p h0 h1
  refine g_enter (loc := [some _, some _]) e_X8_mostJump i_X8_mostJump (Nat.le_of_ble_eq_true rfl) rfl ?_
  refine g_l dX8_mostJump_0 rfl rfl ?_
  refine g_getf dX8_mostJump_1 h13 f_8_24 rfl rfl ?_
  refine g_l dX8_mostJump_4 rfl rfl ?_
  refine g_iald dX8_mostJump_5 h18 (by omega) (by decide) rfl ?_
  refine g_l dX8_mostJump_6 rfl rfl ?_
  refine g_getf dX8_mostJump_7 h13 f_8_9 rfl rfl ?_
  refine g_l dX8_mostJump_10 rfl rfl ?_
  refine g_iald dX8_mostJump_11 h14 (by omega) (by decide) rfl ?_
  refine g_iconst dX8_mostJump_12 rfl ?_
  refine g_icmp_ne (t := 21) dX8_mostJump_13 (by decide) rfl (by omega) (by omega) (fun c_13 => ?_) (fun c_13 => ?_)
  · refine g_bipush dX8_mostJump_21 (by decide) rfl ?_
    refine g_imul dX8_mostJump_23 rfl ?_
    refine g_retI dX8_mostJump_24 rfl rfl ?_
    unfold mjF at hq
    rwa [if_neg c_13] at hq
  · refine g_bipush dX8_mostJump_16 (by decide) rfl ?_
    refine g_goto (t := 23) dX8_mostJump_18 (by decide) ?_
    refine g_imul dX8_mostJump_23 rfl ?_
    refine g_retI dX8_mostJump_24 rfl rfl ?_
    unfold mjF at hq
    rwa [if_pos c_13] at hq
theorem s_X8_wants {p h : Int} (hp : pOk S) (h0 : 0 ≤ p) (h1 : p < S 13 5) (hh : R32 h) (hy : 10 * S 15 p ≤ h ∧ h ≤ 10 * S 16 p → Q (some (.int (iI 1))) (hO S Tw M P)) (hn : ¬ (10 * S 15 p ≤ h ∧ h ≤ 10 * S 16 p) → Q (some (.int (iI 0))) (hO S Tw M P)) : CallD (d + 1) 71 [.ref 13, .int (iI p), .int (iI h)] (hO S Tw M P) Q := by
  obtain ⟨a, b, hp⟩ := hp
  obtain ⟨-, b1, b2, -⟩ := hp p h0 h1
  refine g_enter (loc := [some _, some _, some _]) e_X8_wants i_X8_wants (Nat.le_of_ble_eq_true rfl) rfl ?_
  refine g_l dX8_wants_0 rfl rfl ?_
  refine g_bipush dX8_wants_1 (by decide) rfl ?_
  refine g_l dX8_wants_3 rfl rfl ?_
  refine g_getf dX8_wants_4 h13 f_8_15 rfl rfl ?_
  refine g_l dX8_wants_7 rfl rfl ?_
  refine g_iald dX8_wants_8 h15 (by omega) (by decide) rfl ?_
  refine g_imul dX8_wants_9 rfl ?_
  refine g_icmp_lt (t := 30) dX8_wants_10 (by decide) rfl (by omega) (by omega) (fun c_10 => ?_) (fun c_10 => ?_)
  · refine g_iconst dX8_wants_30 rfl ?_
    refine g_retZ dX8_wants_31 rfl rfl (by omega) ?_
    exact hn (by omega)
  · refine g_l dX8_wants_13 rfl rfl ?_
    refine g_bipush dX8_wants_14 (by decide) rfl ?_
    refine g_l dX8_wants_16 rfl rfl ?_
    refine g_getf dX8_wants_17 h13 f_8_18 rfl rfl ?_
    refine g_l dX8_wants_20 rfl rfl ?_
    refine g_iald dX8_wants_21 h16 (by omega) (by decide) rfl ?_
    refine g_imul dX8_wants_22 rfl ?_
    refine g_icmp_gt (t := 30) dX8_wants_23 (by decide) rfl (by omega) (by omega) (fun c_23 => ?_) (fun c_23 => ?_)
    · refine g_iconst dX8_wants_30 rfl ?_
      refine g_retZ dX8_wants_31 rfl rfl (by omega) ?_
      exact hn (by omega)
    · refine g_iconst dX8_wants_26 rfl ?_
      refine g_goto (t := 31) dX8_wants_27 (by decide) ?_
      refine g_retZ dX8_wants_31 rfl rfl (by omega) ?_
      exact hy (by omega)
/-- what was read becomes what is told -/
theorem s_X8_copyFrom (hn : 0 ≤ S 3 4 ∧ S 3 4 ≤ 5) (hq : ∀ S', (∀ c, ¬ (13 ≤ c ∧ c ≤ 18) → S' c = S c) → S' 13 5 = S 3 4 → (∀ p, 0 ≤ p → p < S 3 4 → S' 14 p = S (7 + p.toNat) 1 ∧ S' 15 p = S (7 + p.toNat) 2 ∧ S' 16 p = S (7 + p.toNat) 3 ∧ S' 17 p = S (7 + p.toNat) 4 ∧ S' 18 p = S (7 + p.toNat) 5) → Q none (hO S' Tw M P)) : CallD (d + 1) 65 [.ref 13, .ref 3] (hO S Tw M P) Q := by
  refine g_enter (loc := [some _, some _, _]) e_X8_copyFrom i_X8_copyFrom (Nat.le_of_ble_eq_true rfl) rfl ?_
  refine g_l dX8_copyFrom_0 rfl rfl ?_
  refine g_l dX8_copyFrom_1 rfl rfl ?_
  refine g_getf dX8_copyFrom_2 h3 f_8_27 rfl rfl ?_
  refine g_putf dX8_copyFrom_5 h13 f_8_33 (Nat.le_of_ble_eq_true rfl) rfl rfl p13_5 rfl ?_
  refine g_iconst dX8_copyFrom_8 rfl ?_
  refine g_l (loc' := [some _, some _, some _]) dX8_copyFrom_9 rfl rfl ?_
  have loop : ∀ (m : Nat) (i : Int) (S' : Nat → Int → Int), 0 ≤ i → i ≤ S 3 4 → (S 3 4 - i).toNat = m → (∀ c, ¬ (13 ≤ c ∧ c ≤ 18) → S' c = S c) → S' 13 5 = S 3 4 → (∀ p, 0 ≤ p → p < i → S' 14 p = S (7 + p.toNat) 1 ∧ S' 15 p = S (7 + p.toNat) 2 ∧ S' 16 p = S (7 + p.toNat) 3 ∧ S' 17 p = S (7 + p.toNat) 4 ∧ S' 18 p = S (7 + p.toNat) 5) →
      G none d 8 false none 0 0 (hO S Tw M P).length cX8_copyFrom Q 0 10 [some (.ref 13), some (.ref 3), some (.int (iI i))] [] (hO S' Tw M P) := by
    intro m
    induction m with
    | zero =>
      intro i S' h0 h5 hm f1 f2 f3
      have hi : i = S 3 4 := by omega
      subst hi
      refine g_l dX8_copyFrom_10 rfl rfl ?_
      refine g_l dX8_copyFrom_11 rfl rfl ?_
      refine g_getf dX8_copyFrom_12 h13 f_8_33 rfl rfl ?_
      refine g_icmp_ge (t := 94) dX8_copyFrom_15 (by decide) rfl (by omega) (by omega) (fun c_15 => ?_) (fun c_15 => False.elim (by omega))
      refine g_retV dX8_copyFrom_94 rfl rfl ?_
      exact hq _ f1 f2 f3
    | succ m ih =>
      intro i S' h0 h5 hm f1 f2 f3
      refine g_l dX8_copyFrom_10 rfl rfl ?_
      refine g_l dX8_copyFrom_11 rfl rfl ?_
      refine g_getf dX8_copyFrom_12 h13 f_8_33 rfl rfl ?_
      refine g_icmp_ge (t := 94) dX8_copyFrom_15 (by decide) rfl (by omega) (by omega) (fun c_15 => False.elim (by omega)) (fun c_15 => ?_)
      refine g_l dX8_copyFrom_18 rfl rfl ?_
      refine g_getf dX8_copyFrom_19 h13 f_8_9 rfl rfl ?_
      refine g_l dX8_copyFrom_22 rfl rfl ?_
      refine g_l dX8_copyFrom_23 rfl rfl ?_
      refine g_getf dX8_copyFrom_24 h3 f_8_36 rfl rfl ?_
      refine g_l dX8_copyFrom_27 rfl rfl ?_
      refine g_aald6 dX8_copyFrom_28 (by omega) rfl ?_
      refine g_iconst dX8_copyFrom_29 rfl ?_
      refine g_iald dX8_copyFrom_30 (hdig (by omega)) (by omega) (by decide) rfl ?_
      refine g_iast dX8_copyFrom_31 h14 (by omega) (by decide) p14 rfl ?_
      refine g_l dX8_copyFrom_32 rfl rfl ?_
      refine g_getf dX8_copyFrom_33 h13 f_8_15 rfl rfl ?_
      refine g_l dX8_copyFrom_36 rfl rfl ?_
      refine g_l dX8_copyFrom_37 rfl rfl ?_
      refine g_getf dX8_copyFrom_38 h3 f_8_36 rfl rfl ?_
      refine g_l dX8_copyFrom_41 rfl rfl ?_
      refine g_aald6 dX8_copyFrom_42 (by omega) rfl ?_
      refine g_iconst dX8_copyFrom_43 rfl ?_
      refine g_iald dX8_copyFrom_44 (hdig (by omega)) (by omega) (by decide) rfl ?_
      refine g_iast dX8_copyFrom_45 h15 (by omega) (by decide) p15 rfl ?_
      refine g_l dX8_copyFrom_46 rfl rfl ?_
      refine g_getf dX8_copyFrom_47 h13 f_8_18 rfl rfl ?_
      refine g_l dX8_copyFrom_50 rfl rfl ?_
      refine g_l dX8_copyFrom_51 rfl rfl ?_
      refine g_getf dX8_copyFrom_52 h3 f_8_36 rfl rfl ?_
      refine g_l dX8_copyFrom_55 rfl rfl ?_
      refine g_aald6 dX8_copyFrom_56 (by omega) rfl ?_
      refine g_iconst dX8_copyFrom_57 rfl ?_
      refine g_iald dX8_copyFrom_58 (hdig (by omega)) (by omega) (by decide) rfl ?_
      refine g_iast dX8_copyFrom_59 h16 (by omega) (by decide) p16 rfl ?_
      refine g_l dX8_copyFrom_60 rfl rfl ?_
      refine g_getf dX8_copyFrom_61 h13 f_8_21 rfl rfl ?_
      refine g_l dX8_copyFrom_64 rfl rfl ?_
      refine g_l dX8_copyFrom_65 rfl rfl ?_
      refine g_getf dX8_copyFrom_66 h3 f_8_36 rfl rfl ?_
      refine g_l dX8_copyFrom_69 rfl rfl ?_
      refine g_aald6 dX8_copyFrom_70 (by omega) rfl ?_
      refine g_iconst dX8_copyFrom_71 rfl ?_
      refine g_iald dX8_copyFrom_72 (hdig (by omega)) (by omega) (by decide) rfl ?_
      refine g_iast dX8_copyFrom_73 h17 (by omega) (by decide) p17 rfl ?_
      refine g_l dX8_copyFrom_74 rfl rfl ?_
      refine g_getf dX8_copyFrom_75 h13 f_8_24 rfl rfl ?_
      refine g_l dX8_copyFrom_78 rfl rfl ?_
      refine g_l dX8_copyFrom_79 rfl rfl ?_
      refine g_getf dX8_copyFrom_80 h3 f_8_36 rfl rfl ?_
      refine g_l dX8_copyFrom_83 rfl rfl ?_
      refine g_aald6 dX8_copyFrom_84 (by omega) rfl ?_
      refine g_iconst dX8_copyFrom_85 rfl ?_
      refine g_iald dX8_copyFrom_86 (hdig (by omega)) (by omega) (by decide) rfl ?_
      refine g_iast dX8_copyFrom_87 h18 (by omega) (by decide) p18 rfl ?_
      refine g_iinc (loc' := [some _, some _, some _]) dX8_copyFrom_88 rfl rfl rfl ?_
      refine g_goto (t := 10) dX8_copyFrom_91 (by decide) ?_
      have o1 : ∀ (c : Nat) (g : Nat → Int → Int) (j v : Int), c ≠ 7 + i.toNat → wS g c j v (7 + i.toNat) = g (7 + i.toNat) := fun c g j v h => wS_o (Ne.symm h)
      have n1 : (14 : Nat) ≠ 7 + i.toNat := by omega
      have n2 : (15 : Nat) ≠ 7 + i.toNat := by omega
      have n3 : (16 : Nat) ≠ 7 + i.toNat := by omega
      have n4 : (17 : Nat) ≠ 7 + i.toNat := by omega
      simp only [o1 14 _ _ _ n1, o1 15 _ _ _ n2, o1 16 _ _ _ n3, o1 17 _ _ _ n4, f1 (7 + i.toNat) (by omega)]
      refine ih (i + 1) _ (by omega) (by omega) (by omega) (fun c hc => ?_) ?_ (fun p a b => ?_)
      · rw [wS_o (by omega), wS_o (by omega), wS_o (by omega), wS_o (by omega), wS_o (by omega), f1 c hc]
      · rw [wS_o (by omega), wS_o (by omega), wS_o (by omega), wS_o (by omega), wS_o (by omega), f2]
      · by_cases h : p = i
        · subst h
          refine ⟨?_, ?_, ?_, ?_, ?_⟩
          · rw [wS_o (by omega), wS_o (by omega), wS_o (by omega), wS_o (by omega), wS_e]
          · rw [wS_o (by omega), wS_o (by omega), wS_o (by omega), wS_e]
          · rw [wS_o (by omega), wS_o (by omega), wS_e]
          · rw [wS_o (by omega), wS_e]
          · rw [wS_e]
        · obtain ⟨g1, g2, g3, g4, g5⟩ := f3 p a (by omega)
          refine ⟨?_, ?_, ?_, ?_, ?_⟩
          · rw [wS_o (by omega), wS_o (by omega), wS_o (by omega), wS_o (by omega), wS_s, if_neg h, g1]
          · rw [wS_o (by omega), wS_o (by omega), wS_o (by omega), wS_s, if_neg h, wS_o (by omega), g2]
          · rw [wS_o (by omega), wS_o (by omega), wS_s, if_neg h, wS_o (by omega), wS_o (by omega), g3]
          · rw [wS_o (by omega), wS_s, if_neg h, wS_o (by omega), wS_o (by omega), wS_o (by omega), g4]
          · rw [wS_s, if_neg h, wS_o (by omega), wS_o (by omega), wS_o (by omega), wS_o (by omega), g5]
  refine loop _ 0 _ (by omega) hn.1 rfl (fun c hc => wS_o (by omega)) wS_e (fun p a b => by omega)
end TO
