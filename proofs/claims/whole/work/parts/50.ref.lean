/-! the reference: small questions -/
section RA
variable {S : Nat → Int → Int} {Tw : Nat → Nat → Int → Int} {M : Nat → Int → Int} {P : Nat → Nat} {d : Nat} {Q : Option Value → GH → Prop}
theorem cmp3_s (a b : Int) : R32 (cmp3 a b) ∧ (cmp3 a b < 0 ↔ a < b) ∧ (0 < cmp3 a b ↔ b < a) := by
  unfold cmp3
  split
  · omega
  · split <;> omega
theorem s_X12_in {v a b : Int} (hv : R64 v) (ha : R64 a) (hb : R64 b) (hy : a ≤ v ∧ v ≤ b → Q (some (.int (iI 1))) (hO S Tw M P)) (hn : ¬ (a ≤ v ∧ v ≤ b) → Q (some (.int (iI 0))) (hO S Tw M P)) : CallD (d + 1) 114 [.long (lI v), .long (lI a), .long (lI b)] (hO S Tw M P) Q := by
  obtain ⟨c1, c2, c3⟩ := cmp3_s v a
  obtain ⟨e1, e2, e3⟩ := cmp3_s v b
  refine g_enter (loc := [some _, _, some _, _, some _, _]) e_X12_in i_X12_in (Nat.le_of_ble_eq_true rfl) rfl ?_
  refine g_l dX12_in_0 rfl rfl ?_
  refine g_l dX12_in_1 rfl rfl ?_
  refine g_lcmp dX12_in_2 hv ha rfl ?_
  refine g_if_lt (t := 17) dX12_in_3 (by decide) rfl (by omega) (fun c_3 => ?_) (fun c_3 => ?_)
  · refine g_iconst dX12_in_17 rfl ?_
    refine g_retZ dX12_in_18 rfl rfl (by omega) ?_
    exact hn (by omega)
  · refine g_l dX12_in_6 rfl rfl ?_
    refine g_l dX12_in_7 rfl rfl ?_
    refine g_lcmp dX12_in_9 hv hb rfl ?_
    refine g_if_gt (t := 17) dX12_in_10 (by decide) rfl (by omega) (fun c_10 => ?_) (fun c_10 => ?_)
    · refine g_iconst dX12_in_17 rfl ?_
      refine g_retZ dX12_in_18 rfl rfl (by omega) ?_
      exact hn (by omega)
    · refine g_iconst dX12_in_13 rfl ?_
      refine g_goto (t := 18) dX12_in_14 (by decide) ?_
      refine g_retZ dX12_in_18 rfl rfl (by omega) ?_
      exact hy (by omega)
theorem s_X12_has {x k : Int} (hy : hasB x k → Q (some (.int (iI 1))) (hO S Tw M P)) (hn : ¬ hasB x k → Q (some (.int (iI 0))) (hO S Tw M P)) : CallD (d + 1) 115 [.int (iI x), .int (iI k)] (hO S Tw M P) Q := by
  have rb : R32 (bAnd (bShr x k) 1) := R_bAnd
  unfold hasB at hy hn
  refine g_enter (loc := [some _, some _]) e_X12_has i_X12_has (Nat.le_of_ble_eq_true rfl) rfl ?_
  refine g_l dX12_has_0 rfl rfl ?_
  refine g_l dX12_has_1 rfl rfl ?_
  refine g_ishr dX12_has_2 rfl ?_
  refine g_iconst dX12_has_3 rfl ?_
  refine g_iand dX12_has_4 rfl ?_
  refine g_iconst dX12_has_5 rfl ?_
  refine g_icmp_ne (t := 13) dX12_has_6 (by decide) rfl (by omega) (by omega) (fun c_6 => ?_) (fun c_6 => ?_)
  · refine g_iconst dX12_has_13 rfl ?_
    refine g_retZ dX12_has_14 rfl rfl (by omega) ?_
    exact hn c_6
  · refine g_iconst dX12_has_9 rfl ?_
    refine g_goto (t := 14) dX12_has_10 (by decide) ?_
    refine g_retZ dX12_has_14 rfl rfl (by omega) ?_
    exact hy (by omega)
theorem s_X12_noKiln {k : Int} (hk : R32 k) (hm : 2 ≤ M 0 4 ∧ M 0 4 ≤ 5) (hy : ¬ (0 ≤ k ∧ k < M 0 4) → Q (some (.int (iI 1))) (hO S Tw M P)) (hn : 0 ≤ k ∧ k < M 0 4 → Q (some (.int (iI 0))) (hO S Tw M P)) : CallD (d + 2) 116 [.ref 248, .int (iI k)] (hO S Tw M P) Q := by
  refine g_enter (loc := [some _, some _]) e_X12_noKiln i_X12_noKiln (Nat.le_of_ble_eq_true rfl) rfl ?_
  refine g_l dX12_noKiln_0 rfl rfl ?_
  refine g_i2l dX12_noKiln_1 hk rfl ?_
  refine g_lconst0 dX12_noKiln_2 rfl rfl ?_
  refine g_l dX12_noKiln_3 rfl rfl ?_
  refine g_getf dX12_noKiln_4 h248 f_12_13 rfl rfl ?_
  refine g_iconst dX12_noKiln_7 rfl ?_
  refine g_isub dX12_noKiln_8 rfl ?_
  refine g_i2l dX12_noKiln_9 (by omega) rfl ?_
  refine g_callS dX12_noKiln_10 m_12_111 (n := 3) rfl (by exact Nat.le_of_ble_eq_true rfl) (by exact Nat.le_of_ble_eq_true rfl) (by rfl) (by rfl) (by rfl) ?_
  refine s_X12_in (by omega) (by omega) (by omega) (fun z => ?_) (fun z => ?_)
  · simp only [Option.toList_some, Option.toList_none, List.cons_append, List.nil_append]
    refine g_if_ne (t := 20) dX12_noKiln_13 (by decide) rfl (by omega) (fun c_13 => ?_) (fun c_13 => False.elim (by omega))
    refine g_iconst dX12_noKiln_20 rfl ?_
    refine g_retZ dX12_noKiln_21 rfl rfl (by omega) ?_
    exact hn (by omega)
  · simp only [Option.toList_some, Option.toList_none, List.cons_append, List.nil_append]
    refine g_if_ne (t := 20) dX12_noKiln_13 (by decide) rfl (by omega) (fun c_13 => False.elim (by omega)) (fun c_13 => ?_)
    refine g_iconst dX12_noKiln_16 rfl ?_
    refine g_goto (t := 21) dX12_noKiln_17 (by decide) ?_
    refine g_retZ dX12_noKiln_21 rfl rfl (by omega) ?_
    exact hy (by omega)
theorem s_X12_noPot {k : Int} (hk : R32 k) (hm : 0 ≤ M 0 5 ∧ M 0 5 ≤ 5) (hy : ¬ (0 ≤ k ∧ k < M 0 5) → Q (some (.int (iI 1))) (hO S Tw M P)) (hn : 0 ≤ k ∧ k < M 0 5 → Q (some (.int (iI 0))) (hO S Tw M P)) : CallD (d + 2) 117 [.ref 248, .int (iI k)] (hO S Tw M P) Q := by
  refine g_enter (loc := [some _, some _]) e_X12_noPot i_X12_noPot (Nat.le_of_ble_eq_true rfl) rfl ?_
  refine g_l dX12_noPot_0 rfl rfl ?_
  refine g_i2l dX12_noPot_1 hk rfl ?_
  refine g_lconst0 dX12_noPot_2 rfl rfl ?_
  refine g_l dX12_noPot_3 rfl rfl ?_
  refine g_getf dX12_noPot_4 h248 f_12_115 rfl rfl ?_
  refine g_iconst dX12_noPot_7 rfl ?_
  refine g_isub dX12_noPot_8 rfl ?_
  refine g_i2l dX12_noPot_9 (by omega) rfl ?_
  refine g_callS dX12_noPot_10 m_12_111 (n := 3) rfl (by exact Nat.le_of_ble_eq_true rfl) (by exact Nat.le_of_ble_eq_true rfl) (by rfl) (by rfl) (by rfl) ?_
  refine s_X12_in (by omega) (by omega) (by omega) (fun z => ?_) (fun z => ?_)
  · simp only [Option.toList_some, Option.toList_none, List.cons_append, List.nil_append]
    refine g_if_ne (t := 20) dX12_noPot_13 (by decide) rfl (by omega) (fun c_13 => ?_) (fun c_13 => False.elim (by omega))
    refine g_iconst dX12_noPot_20 rfl ?_
    refine g_retZ dX12_noPot_21 rfl rfl (by omega) ?_
    exact hn (by omega)
  · simp only [Option.toList_some, Option.toList_none, List.cons_append, List.nil_append]
    refine g_if_ne (t := 20) dX12_noPot_13 (by decide) rfl (by omega) (fun c_13 => False.elim (by omega)) (fun c_13 => ?_)
    refine g_iconst dX12_noPot_16 rfl ?_
    refine g_goto (t := 21) dX12_noPot_17 (by decide) ?_
    refine g_retZ dX12_noPot_21 rfl rfl (by omega) ?_
    exact hy (by omega)
theorem s_X12_wipe (hq : Q (some (.int (iI (M 0 2)))) (hO S Tw (wS (wS M 0 0 0) 0 2 0) P)) : CallD (d + 1) 120 [.ref 248] (hO S Tw M P) Q := by
  have e : wS M 0 0 0 0 2 = M 0 2 := by rw [wS_s, if_neg (by decide)]
  refine g_enter (loc := [some _, _]) e_X12_wipe i_X12_wipe (Nat.le_of_ble_eq_true rfl) rfl ?_
  refine g_l dX12_wipe_0 rfl rfl ?_
  refine g_iconst dX12_wipe_1 rfl ?_
  refine g_putf dX12_wipe_2 h248 f_12_108 (Nat.le_of_ble_eq_true rfl) rfl rfl p248_0 rfl ?_
  refine g_l dX12_wipe_5 rfl rfl ?_
  refine g_getf dX12_wipe_6 h248 f_12_122 rfl rfl ?_
  rw [e]
  refine g_l (loc' := [some _, some _]) dX12_wipe_9 rfl rfl ?_
  refine g_l dX12_wipe_10 rfl rfl ?_
  refine g_iconst dX12_wipe_11 rfl ?_
  refine g_putf dX12_wipe_12 h248 f_12_122 (Nat.le_of_ble_eq_true rfl) rfl rfl p248_2 rfl ?_
  refine g_l dX12_wipe_15 rfl rfl ?_
  refine g_retI dX12_wipe_16 rfl rfl ?_
  exact hq
theorem s_X12_noFire {n w : Int} (hn0 : R32 n) (hw : R32 w) (hy : ¬ ((1 ≤ n ∧ n ≤ 9) ∧ 0 ≤ w ∧ w ≤ 9) → Q (some (.int (iI 1))) (hO S Tw M P)) (hn : (1 ≤ n ∧ n ≤ 9) ∧ 0 ≤ w ∧ w ≤ 9 → Q (some (.int (iI 0))) (hO S Tw M P)) : CallD (d + 2) 118 [.int (iI n), .int (iI w)] (hO S Tw M P) Q := by
  have e9 : (9 : Int64) = lI 9 := rfl
  refine g_enter (loc := [some _, some _]) e_X12_noFire i_X12_noFire (Nat.le_of_ble_eq_true rfl) rfl ?_
  refine g_l dX12_noFire_0 rfl rfl ?_
  refine g_i2l dX12_noFire_1 hn0 rfl ?_
  refine g_lconst1 dX12_noFire_2 rfl rfl ?_
  refine g_ldc2_w dX12_noFire_3 k_12_118 rfl ?_
  rw [e9]
  refine g_callS dX12_noFire_6 m_12_111 (n := 3) rfl (by exact Nat.le_of_ble_eq_true rfl) (by exact Nat.le_of_ble_eq_true rfl) (by rfl) (by rfl) (by rfl) ?_
  refine s_X12_in (by omega) (by decide) (by decide) (fun z => ?_) (fun z => ?_)
  · simp only [Option.toList_some, Option.toList_none, List.cons_append, List.nil_append]
    refine g_if_eq (t := 24) dX12_noFire_9 (by decide) rfl (by omega) (fun c_9 => False.elim (by omega)) (fun c_9 => ?_)
    refine g_l dX12_noFire_12 rfl rfl ?_
    refine g_i2l dX12_noFire_13 hw rfl ?_
    refine g_lconst0 dX12_noFire_14 rfl rfl ?_
    refine g_ldc2_w dX12_noFire_15 k_12_118 rfl ?_
    rw [e9]
    refine g_callS dX12_noFire_18 m_12_111 (n := 3) rfl (by exact Nat.le_of_ble_eq_true rfl) (by exact Nat.le_of_ble_eq_true rfl) (by rfl) (by rfl) (by rfl) ?_
    refine s_X12_in (by omega) (by decide) (by decide) (fun y => ?_) (fun y => ?_)
    · simp only [Option.toList_some, Option.toList_none, List.cons_append, List.nil_append]
      refine g_if_ne (t := 28) dX12_noFire_21 (by decide) rfl (by omega) (fun c_21 => ?_) (fun c_21 => False.elim (by omega))
      refine g_iconst dX12_noFire_28 rfl ?_
      refine g_retZ dX12_noFire_29 rfl rfl (by omega) ?_
      exact hn ⟨z, y⟩
    · simp only [Option.toList_some, Option.toList_none, List.cons_append, List.nil_append]
      refine g_if_ne (t := 28) dX12_noFire_21 (by decide) rfl (by omega) (fun c_21 => False.elim (by omega)) (fun c_21 => ?_)
      refine g_iconst dX12_noFire_24 rfl ?_
      refine g_goto (t := 29) dX12_noFire_25 (by decide) ?_
      refine g_retZ dX12_noFire_29 rfl rfl (by omega) ?_
      exact hy (fun v => y v.2)
  · simp only [Option.toList_some, Option.toList_none, List.cons_append, List.nil_append]
    refine g_if_eq (t := 24) dX12_noFire_9 (by decide) rfl (by omega) (fun c_9 => ?_) (fun c_9 => False.elim (by omega))
    refine g_iconst dX12_noFire_24 rfl ?_
    refine g_goto (t := 29) dX12_noFire_25 (by decide) ?_
    refine g_retZ dX12_noFire_29 rfl rfl (by omega) ?_
    exact hy (fun v => z v.1)
/-- what is looked at begins as all is now -/
def bgP (M M' : Nat → Int → Int) : Prop := (∀ c, c ≠ 0 → c ≠ 19 → c ≠ 22 → c ≠ 23 → c ≠ 24 → M' c = M c) ∧ (∀ j, j ≠ 34 → M' 0 j = M 0 j) ∧ M' 0 34 = 0 ∧ (∀ k, 0 ≤ k → k < M 0 4 → M' 19 k = M 4 k) ∧ ∀ p, 0 ≤ p → p < M 0 5 → M' 22 p = M 11 p ∧ M' 23 p = M 12 p ∧ M' 24 p = M 5 p
theorem s_X12_begin (hk : 2 ≤ M 0 4 ∧ M 0 4 ≤ 5) (hp : 0 ≤ M 0 5 ∧ M 0 5 ≤ 5) (hq : ∀ M', bgP M M' → Q none (hO S Tw M' P)) : CallD (d + 1) 136 [.ref 248] (hO S Tw M P) Q := by
  refine g_enter (loc := [some _, _]) e_X12_begin i_X12_begin (Nat.le_of_ble_eq_true rfl) rfl ?_
  refine g_iconst dX12_begin_0 rfl ?_
  refine g_l (loc' := [some _, some _]) dX12_begin_1 rfl rfl ?_
  have loop2 : ∀ (m : Nat) (i : Int) (M1 : Nat → Int → Int), 0 ≤ i → i ≤ M 0 5 → (M 0 5 - i).toNat = m → (∀ c, c ≠ 19 → c ≠ 22 → c ≠ 23 → c ≠ 24 → M1 c = M c) → (∀ k, 0 ≤ k → k < M 0 4 → M1 19 k = M 4 k) → (∀ p, 0 ≤ p → p < i → M1 22 p = M 11 p ∧ M1 23 p = M 12 p ∧ M1 24 p = M 5 p) →
      G none d 12 false none 0 0 (hO S Tw M P).length cX12_begin Q 0 30 [some (.ref 248), some (.int (iI i))] [] (hO S Tw M1 P) := by
    intro m
    induction m with
    | zero =>
      intro i M1 b1 b2 hm f1 f2 f3
      have e0 : M1 0 = M 0 := f1 0 (by decide) (by decide) (by decide) (by decide)
      refine g_l dX12_begin_30 rfl rfl ?_
      refine g_l dX12_begin_31 rfl rfl ?_
      refine g_getf dX12_begin_32 h248 f_12_115 rfl rfl ?_
      rw [e0]
      refine g_icmp_ge (t := 80) dX12_begin_35 (by decide) rfl (by omega) (by omega) (fun c_35 => ?_) (fun c_35 => False.elim (by omega))
      refine g_l dX12_begin_80 rfl rfl ?_
      refine g_iconst dX12_begin_81 rfl ?_
      refine g_putf dX12_begin_82 h248 f_12_179 (Nat.le_of_ble_eq_true rfl) rfl rfl p248_34 rfl ?_
      refine g_retV dX12_begin_85 rfl rfl ?_
      refine hq _ ⟨fun c y1 y2 y3 y4 y5 => by rw [wS_o y1]; exact f1 c y2 y3 y4 y5, fun j hj => by rw [wS_s, if_neg hj, e0], wS_e, fun k y1 y2 => by rw [wS_o (by decide)]; exact f2 k y1 y2, fun p y1 y2 => ?_⟩
      rw [wS_o (show (22 : Nat) ≠ 0 by decide), wS_o (show (23 : Nat) ≠ 0 by decide), wS_o (show (24 : Nat) ≠ 0 by decide)]
      exact f3 p y1 (by omega)
    | succ m ih =>
      intro i M1 b1 b2 hm f1 f2 f3
      have e0 : M1 0 = M 0 := f1 0 (by decide) (by decide) (by decide) (by decide)
      have ea : M1 11 = M 11 := f1 11 (by decide) (by decide) (by decide) (by decide)
      have eb : M1 12 = M 12 := f1 12 (by decide) (by decide) (by decide) (by decide)
      have ec : M1 5 = M 5 := f1 5 (by decide) (by decide) (by decide) (by decide)
      refine g_l dX12_begin_30 rfl rfl ?_
      refine g_l dX12_begin_31 rfl rfl ?_
      refine g_getf dX12_begin_32 h248 f_12_115 rfl rfl ?_
      rw [e0]
      refine g_icmp_ge (t := 80) dX12_begin_35 (by decide) rfl (by omega) (by omega) (fun c_35 => False.elim (by omega)) (fun c_35 => ?_)
      refine g_l dX12_begin_38 rfl rfl ?_
      refine g_getf dX12_begin_39 h248 f_12_78 rfl rfl ?_
      refine g_l dX12_begin_42 rfl rfl ?_
      refine g_l dX12_begin_43 rfl rfl ?_
      refine g_getf dX12_begin_44 h248 f_12_44 rfl rfl ?_
      refine g_l dX12_begin_47 rfl rfl ?_
      refine g_iald dX12_begin_48 h259 (by omega) (by decide) rfl ?_
      refine g_iast dX12_begin_49 h270 (by omega) (by decide) p270 rfl ?_
      refine g_l dX12_begin_50 rfl rfl ?_
      refine g_getf dX12_begin_51 h248 f_12_81 rfl rfl ?_
      refine g_l dX12_begin_54 rfl rfl ?_
      refine g_l dX12_begin_55 rfl rfl ?_
      refine g_getf dX12_begin_56 h248 f_12_47 rfl rfl ?_
      refine g_l dX12_begin_59 rfl rfl ?_
      refine g_iald dX12_begin_60 h260 (by omega) (by decide) rfl ?_
      refine g_iast dX12_begin_61 h271 (by omega) (by decide) p271 rfl ?_
      refine g_l dX12_begin_62 rfl rfl ?_
      refine g_getf dX12_begin_63 h248 f_12_84 rfl rfl ?_
      refine g_l dX12_begin_66 rfl rfl ?_
      refine g_l dX12_begin_67 rfl rfl ?_
      refine g_getf dX12_begin_68 h248 f_12_26 rfl rfl ?_
      refine g_l dX12_begin_71 rfl rfl ?_
      refine g_iald dX12_begin_72 h253 (by omega) (by decide) rfl ?_
      refine g_iast dX12_begin_73 h272 (by omega) (by decide) p272 rfl ?_
      refine g_iinc (loc' := [some _, some _]) dX12_begin_74 rfl rfl rfl ?_
      refine g_goto (t := 30) dX12_begin_77 (by decide) ?_
      refine ih (i + 1) _ (by omega) (by omega) (by omega) (fun c y1 y2 y3 y4 => by rw [wS_o y4, wS_o y3, wS_o y2]; exact f1 c y1 y2 y3 y4) (fun k y1 y2 => by rw [wS_o (by decide), wS_o (by decide), wS_o (by decide)]; exact f2 k y1 y2) (fun p y1 y2 => ?_)
      rw [wS_o (show (22 : Nat) ≠ 24 by decide), wS_o (show (22 : Nat) ≠ 23 by decide), wS_o (show (23 : Nat) ≠ 24 by decide), wS_s, wS_s, wS_s, wS_o (show (12 : Nat) ≠ 22 by decide), wS_o (show (5 : Nat) ≠ 23 by decide), wS_o (show (5 : Nat) ≠ 22 by decide), wS_o (show (23 : Nat) ≠ 22 by decide), wS_o (show (24 : Nat) ≠ 23 by decide), wS_o (show (24 : Nat) ≠ 22 by decide), ea, eb, ec]
      by_cases e : p = i
      · rw [if_pos e, if_pos e, if_pos e, e]; exact ⟨rfl, rfl, rfl⟩
      · rw [if_neg e, if_neg e, if_neg e]; exact f3 p y1 (by omega)
  have loop : ∀ (m : Nat) (i : Int) (M1 : Nat → Int → Int), 0 ≤ i → i ≤ M 0 4 → (M 0 4 - i).toNat = m → (∀ c, c ≠ 19 → M1 c = M c) → (∀ k, 0 ≤ k → k < i → M1 19 k = M 4 k) →
      G none d 12 false none 0 0 (hO S Tw M P).length cX12_begin Q 0 2 [some (.ref 248), some (.int (iI i))] [] (hO S Tw M1 P) := by
    intro m
    induction m with
    | zero =>
      intro i M1 b1 b2 hm f1 f2
      have e0 : M1 0 = M 0 := f1 0 (by decide)
      refine g_l dX12_begin_2 rfl rfl ?_
      refine g_l dX12_begin_3 rfl rfl ?_
      refine g_getf dX12_begin_4 h248 f_12_13 rfl rfl ?_
      rw [e0]
      refine g_icmp_ge (t := 28) dX12_begin_7 (by decide) rfl (by omega) (by omega) (fun c_7 => ?_) (fun c_7 => False.elim (by omega))
      refine g_iconst dX12_begin_28 rfl ?_
      refine g_l (loc' := [some _, some _]) dX12_begin_29 rfl rfl ?_
      exact loop2 (M 0 5).toNat 0 M1 (by omega) hp.1 (by rw [Int.sub_zero]) (fun c y1 _ _ _ => f1 c y1) (fun k y1 y2 => f2 k y1 (by omega)) (fun p y1 y2 => by omega)
    | succ m ih =>
      intro i M1 b1 b2 hm f1 f2
      have e0 : M1 0 = M 0 := f1 0 (by decide)
      have e4 : M1 4 = M 4 := f1 4 (by decide)
      refine g_l dX12_begin_2 rfl rfl ?_
      refine g_l dX12_begin_3 rfl rfl ?_
      refine g_getf dX12_begin_4 h248 f_12_13 rfl rfl ?_
      rw [e0]
      refine g_icmp_ge (t := 28) dX12_begin_7 (by decide) rfl (by omega) (by omega) (fun c_7 => False.elim (by omega)) (fun c_7 => ?_)
      refine g_l dX12_begin_10 rfl rfl ?_
      refine g_getf dX12_begin_11 h248 f_12_69 rfl rfl ?_
      refine g_l dX12_begin_14 rfl rfl ?_
      refine g_l dX12_begin_15 rfl rfl ?_
      refine g_getf dX12_begin_16 h248 f_12_23 rfl rfl ?_
      refine g_l dX12_begin_19 rfl rfl ?_
      refine g_iald dX12_begin_20 h252 (by omega) (by decide) rfl ?_
      refine g_iast dX12_begin_21 h267 (by omega) (by decide) p267 rfl ?_
      refine g_iinc (loc' := [some _, some _]) dX12_begin_22 rfl rfl rfl ?_
      refine g_goto (t := 2) dX12_begin_25 (by decide) ?_
      refine ih (i + 1) _ (by omega) (by omega) (by omega) (fun c y1 => by rw [wS_o y1]; exact f1 c y1) (fun k y1 y2 => ?_)
      rw [wS_s, e4]
      by_cases e : k = i
      · rw [if_pos e, e]
      · rw [if_neg e]; exact f2 k y1 (by omega)
  exact loop (M 0 4).toNat 0 M (by omega) (by omega) (by rw [Int.sub_zero]) (fun _ _ => rfl) (fun k y1 y2 => by omega)
theorem s_X12_allHeat (hn : 0 ≤ M 0 4 ∧ M 0 4 ≤ 5) (hq : Q (some (.int (iI (sumF (M 4) (M 0 4).toNat)))) (hO S Tw M P)) : CallD (d + 1) 128 [.ref 248] (hO S Tw M P) Q := by
  refine g_enter (loc := [some _, _, _]) e_X12_allHeat i_X12_allHeat (Nat.le_of_ble_eq_true rfl) rfl ?_
  refine g_iconst dX12_allHeat_0 rfl ?_
  refine g_l (loc' := [some _, some _, _]) dX12_allHeat_1 rfl rfl ?_
  refine g_iconst dX12_allHeat_2 rfl ?_
  refine g_l (loc' := [some _, some _, some _]) dX12_allHeat_3 rfl rfl ?_
  have loop : ∀ (m : Nat) (i : Int), 0 ≤ i → i ≤ M 0 4 → (M 0 4 - i).toNat = m → G none d 12 false (some .int) 0 0 (hO S Tw M P).length cX12_allHeat Q 0 4 [some (.ref 248), some (.int (iI (sumF (M 4) i.toNat))), some (.int (iI i))] [] (hO S Tw M P) := by
    intro m
    induction m with
    | zero =>
      intro i b1 b2 hm
      refine g_l dX12_allHeat_4 rfl rfl ?_
      refine g_l dX12_allHeat_5 rfl rfl ?_
      refine g_getf dX12_allHeat_6 h248 f_12_13 rfl rfl ?_
      refine g_icmp_ge (t := 27) dX12_allHeat_9 (by decide) rfl (by omega) (by omega) (fun c_9 => ?_) (fun c_9 => False.elim (by omega))
      refine g_l dX12_allHeat_27 rfl rfl ?_
      refine g_retI dX12_allHeat_28 rfl rfl ?_
      rw [show i = M 0 4 by omega]
      exact hq
    | succ m ih =>
      intro i b1 b2 hm
      have es : sumF (M 4) (i + 1).toNat = sumF (M 4) i.toNat + M 4 i := by
        rw [show (i + 1).toNat = i.toNat + 1 by omega]
        show sumF (M 4) i.toNat + M 4 ((i.toNat : Nat) : Int) = _
        rw [Int.toNat_of_nonneg b1]
      refine g_l dX12_allHeat_4 rfl rfl ?_
      refine g_l dX12_allHeat_5 rfl rfl ?_
      refine g_getf dX12_allHeat_6 h248 f_12_13 rfl rfl ?_
      refine g_icmp_ge (t := 27) dX12_allHeat_9 (by decide) rfl (by omega) (by omega) (fun c_9 => False.elim (by omega)) (fun c_9 => ?_)
      refine g_l dX12_allHeat_12 rfl rfl ?_
      refine g_l dX12_allHeat_13 rfl rfl ?_
      refine g_getf dX12_allHeat_14 h248 f_12_23 rfl rfl ?_
      refine g_l dX12_allHeat_17 rfl rfl ?_
      refine g_iald dX12_allHeat_18 h252 (by omega) (by decide) rfl ?_
      refine g_iadd dX12_allHeat_19 rfl ?_
      rw [← es]
      refine g_l (loc' := [some _, some _, some _]) dX12_allHeat_20 rfl rfl ?_
      refine g_iinc (loc' := [some _, some _, some _]) dX12_allHeat_21 rfl rfl rfl ?_
      refine g_goto (t := 4) dX12_allHeat_24 (by decide) ?_
      exact ih (i + 1) (by omega) (by omega) (by omega)
  exact loop (M 0 4).toNat 0 (by omega) hn.1 (by rw [Int.sub_zero])
theorem s_X12_countHow {x : Int} (hx : R32 x) (hn : 0 ≤ M 0 5 ∧ M 0 5 ≤ 5) (hr : ∀ i, 0 ≤ i → i < M 0 5 → R32 (M 12 i)) (hq : Q (some (.int (iI (cntF (fun i => M 12 i = x) (M 0 5).toNat)))) (hO S Tw M P)) : CallD (d + 1) 129 [.ref 248, .int (iI x)] (hO S Tw M P) Q := by
  refine g_enter (loc := [some _, some _, _, _]) e_X12_countHow i_X12_countHow (Nat.le_of_ble_eq_true rfl) rfl ?_
  refine g_iconst dX12_countHow_0 rfl ?_
  refine g_l (loc' := [some _, some _, some _, _]) dX12_countHow_1 rfl rfl ?_
  refine g_iconst dX12_countHow_2 rfl ?_
  refine g_l (loc' := [some _, some _, some _, some _]) dX12_countHow_3 rfl rfl ?_
  have loop : ∀ (m : Nat) (i : Int), 0 ≤ i → i ≤ M 0 5 → (M 0 5 - i).toNat = m → G none d 12 false (some .int) 0 0 (hO S Tw M P).length cX12_countHow Q 0 4 [some (.ref 248), some (.int (iI x)), some (.int (iI (cntF (fun i => M 12 i = x) i.toNat))), some (.int (iI i))] [] (hO S Tw M P) := by
    intro m
    induction m with
    | zero =>
      intro i b1 b2 hm
      refine g_l dX12_countHow_4 rfl rfl ?_
      refine g_l dX12_countHow_5 rfl rfl ?_
      refine g_getf dX12_countHow_6 h248 f_12_115 rfl rfl ?_
      refine g_icmp_ge (t := 36) dX12_countHow_9 (by decide) rfl (by omega) (by omega) (fun c_9 => ?_) (fun c_9 => False.elim (by omega))
      refine g_l dX12_countHow_36 rfl rfl ?_
      refine g_retI dX12_countHow_37 rfl rfl ?_
      rw [show i = M 0 5 by omega]
      exact hq
    | succ m ih =>
      intro i b1 b2 hm
      have r1 := hr i b1 (by omega)
      have es : cntF (fun i => M 12 i = x) (i + 1).toNat = cntF (fun i => M 12 i = x) i.toNat + (if M 12 i = x then 1 else 0) := cntF_s b1
      refine g_l dX12_countHow_4 rfl rfl ?_
      refine g_l dX12_countHow_5 rfl rfl ?_
      refine g_getf dX12_countHow_6 h248 f_12_115 rfl rfl ?_
      refine g_icmp_ge (t := 36) dX12_countHow_9 (by decide) rfl (by omega) (by omega) (fun c_9 => False.elim (by omega)) (fun c_9 => ?_)
      refine g_l dX12_countHow_12 rfl rfl ?_
      refine g_l dX12_countHow_13 rfl rfl ?_
      refine g_getf dX12_countHow_14 h248 f_12_47 rfl rfl ?_
      refine g_l dX12_countHow_17 rfl rfl ?_
      refine g_iald dX12_countHow_18 h260 (by omega) (by decide) rfl ?_
      refine g_l dX12_countHow_19 rfl rfl ?_
      refine g_icmp_ne (t := 27) dX12_countHow_20 (by decide) rfl (by omega) (by omega) (fun c_20 => ?_) (fun c_20 => ?_)
      · rw [if_neg c_20] at es
        refine g_iconst dX12_countHow_27 rfl ?_
        refine g_iadd dX12_countHow_28 rfl ?_
        rw [← es]
        refine g_l (loc' := [some _, some _, some _, some _]) dX12_countHow_29 rfl rfl ?_
        refine g_iinc (loc' := [some _, some _, some _, some _]) dX12_countHow_30 rfl rfl rfl ?_
        refine g_goto (t := 4) dX12_countHow_33 (by decide) ?_
        exact ih (i + 1) (by omega) (by omega) (by omega)
      · rw [if_pos (by omega)] at es
        refine g_iconst dX12_countHow_23 rfl ?_
        refine g_goto (t := 28) dX12_countHow_24 (by decide) ?_
        refine g_iadd dX12_countHow_28 rfl ?_
        rw [← es]
        refine g_l (loc' := [some _, some _, some _, some _]) dX12_countHow_29 rfl rfl ?_
        refine g_iinc (loc' := [some _, some _, some _, some _]) dX12_countHow_30 rfl rfl rfl ?_
        refine g_goto (t := 4) dX12_countHow_33 (by decide) ?_
        exact ih (i + 1) (by omega) (by omega) (by omega)
  exact loop (M 0 5).toNat 0 (by omega) hn.1 (by rw [Int.sub_zero])
/-- salt stands right below kiln k -/
def sltP (M : Nat → Int → Int) (k : Int) : Prop := ∃ q, 0 ≤ q ∧ q < M 0 5 ∧ M 6 q = 1 ∧ M 24 q = k - 1
theorem s_X12_isSalted {p : Int} (hn : 0 ≤ M 0 5 ∧ M 0 5 ≤ 5) (hp : 0 ≤ p ∧ p < M 0 5) (hr : ∀ i, 0 ≤ i → i < M 0 5 → (0 ≤ M 6 i ∧ M 6 i ≤ 3) ∧ 0 ≤ M 24 i ∧ M 24 i < 5) (hu : 0 < M 24 p → R32 (M 21 (M 24 p - 1))) (hy : sltP M (M 24 p) → 0 < M 24 p → 0 < M 21 (M 24 p - 1) → Q (some (.int (iI 1))) (hO S Tw M P)) (hno : ¬ (sltP M (M 24 p) ∧ 0 < M 24 p ∧ 0 < M 21 (M 24 p - 1)) → Q (some (.int (iI 0))) (hO S Tw M P)) : CallD (d + 1) 138 [.ref 248, .int (iI p)] (hO S Tw M P) Q := by
  have rp := hr p hp.1 hp.2
  refine g_enter (loc := [some _, some _, _, _, _]) e_X12_isSalted i_X12_isSalted (Nat.le_of_ble_eq_true rfl) rfl ?_
  refine g_l dX12_isSalted_0 rfl rfl ?_
  refine g_getf dX12_isSalted_1 h248 f_12_84 rfl rfl ?_
  refine g_l dX12_isSalted_4 rfl rfl ?_
  refine g_iald dX12_isSalted_5 h272 (by omega) (by decide) rfl ?_
  refine g_l (loc' := [some _, some _, some _, _, _]) dX12_isSalted_6 rfl rfl ?_
  refine g_iconst dX12_isSalted_7 rfl ?_
  refine g_l (loc' := [some _, some _, some _, some _, _]) dX12_isSalted_8 rfl rfl ?_
  refine g_iconst dX12_isSalted_9 rfl ?_
  refine g_l (loc' := [some _, some _, some _, some _, some _]) dX12_isSalted_10 rfl rfl ?_
  have loop : ∀ (m : Nat) (i b : Int), 0 ≤ i → i ≤ M 0 5 → (M 0 5 - i).toNat = m → (b = 0 ∧ (∀ q, 0 ≤ q → q < i → ¬ (M 6 q = 1 ∧ M 24 q = M 24 p - 1)) ∨ b = 1 ∧ sltP M (M 24 p)) →
      G none d 12 false (some .boolean) 0 0 (hO S Tw M P).length cX12_isSalted Q 0 12 [some (.ref 248), some (.int (iI p)), some (.int (iI (M 24 p))), some (.int (iI b)), some (.int (iI i))] [] (hO S Tw M P) := by
    intro m
    induction m with
    | zero =>
      intro i b b1 b2 hm hb
      have r1 := hu
      rcases hb with ⟨e, f⟩ | ⟨e, f⟩
      · rw [e]
        refine g_l dX12_isSalted_12 rfl rfl ?_
        refine g_l dX12_isSalted_14 rfl rfl ?_
        refine g_getf dX12_isSalted_15 h248 f_12_115 rfl rfl ?_
        refine g_icmp_ge (t := 61) dX12_isSalted_18 (by decide) rfl (by omega) (by omega) (fun c_18 => ?_) (fun c_18 => False.elim (by omega))
        refine g_l dX12_isSalted_61 rfl rfl ?_
        refine g_if_eq (t := 84) dX12_isSalted_62 (by decide) rfl (by omega) (fun c_62 => ?_) (fun c_62 => False.elim (by omega))
        refine g_iconst dX12_isSalted_84 rfl ?_
        refine g_retZ dX12_isSalted_85 rfl rfl (by omega) ?_
        exact hno (fun v => by
          obtain ⟨⟨q, y1, y2, y3, y4⟩, -⟩ := v
          exact f q y1 (by omega) ⟨y3, y4⟩)
      · rw [e]
        refine g_l dX12_isSalted_12 rfl rfl ?_
        refine g_l dX12_isSalted_14 rfl rfl ?_
        refine g_getf dX12_isSalted_15 h248 f_12_115 rfl rfl ?_
        refine g_icmp_ge (t := 61) dX12_isSalted_18 (by decide) rfl (by omega) (by omega) (fun c_18 => ?_) (fun c_18 => False.elim (by omega))
        refine g_l dX12_isSalted_61 rfl rfl ?_
        refine g_if_eq (t := 84) dX12_isSalted_62 (by decide) rfl (by omega) (fun c_62 => False.elim (by omega)) (fun c_62 => ?_)
        refine g_l dX12_isSalted_65 rfl rfl ?_
        refine g_if_le (t := 84) dX12_isSalted_66 (by decide) rfl (by omega) (fun c_66 => ?_) (fun c_66 => ?_)
        · refine g_iconst dX12_isSalted_84 rfl ?_
          refine g_retZ dX12_isSalted_85 rfl rfl (by omega) ?_
          exact hno (fun v => by omega)
        · have r2 := r1 (by omega)
          refine g_l dX12_isSalted_69 rfl rfl ?_
          refine g_getf dX12_isSalted_70 h248 f_12_75 rfl rfl ?_
          refine g_l dX12_isSalted_73 rfl rfl ?_
          refine g_iconst dX12_isSalted_74 rfl ?_
          refine g_isub dX12_isSalted_75 rfl ?_
          refine g_iald dX12_isSalted_76 h269 (by omega) (by decide) rfl ?_
          refine g_if_le (t := 84) dX12_isSalted_77 (by decide) rfl (by omega) (fun c_77 => ?_) (fun c_77 => ?_)
          · refine g_iconst dX12_isSalted_84 rfl ?_
            refine g_retZ dX12_isSalted_85 rfl rfl (by omega) ?_
            exact hno (fun v => by omega)
          · refine g_iconst dX12_isSalted_80 rfl ?_
            refine g_goto (t := 85) dX12_isSalted_81 (by decide) ?_
            refine g_retZ dX12_isSalted_85 rfl rfl (by omega) ?_
            exact hy f (by omega) (by omega)
    | succ m ih =>
      intro i b b1 b2 hm hb
      have ri := hr i b1 (by omega)
      rcases hb with ⟨e, f⟩ | ⟨e, f⟩
      · rw [e]
        refine g_l dX12_isSalted_12 rfl rfl ?_
        refine g_l dX12_isSalted_14 rfl rfl ?_
        refine g_getf dX12_isSalted_15 h248 f_12_115 rfl rfl ?_
        refine g_icmp_ge (t := 61) dX12_isSalted_18 (by decide) rfl (by omega) (by omega) (fun c_18 => False.elim (by omega)) (fun c_18 => ?_)
        refine g_l dX12_isSalted_21 rfl rfl ?_
        refine g_if_ne (t := 49) dX12_isSalted_22 (by decide) rfl (by omega) (fun c_22 => False.elim (by omega)) (fun c_22 => ?_)
        refine g_l dX12_isSalted_25 rfl rfl ?_
        refine g_getf dX12_isSalted_26 h248 f_12_29 rfl rfl ?_
        refine g_l dX12_isSalted_29 rfl rfl ?_
        refine g_iald dX12_isSalted_31 h254 (by omega) (by decide) rfl ?_
        refine g_iconst dX12_isSalted_32 rfl ?_
        refine g_icmp_ne (t := 53) dX12_isSalted_33 (by decide) rfl (by omega) (by omega) (fun c_33 => ?_) (fun c_33 => ?_)
        · refine g_iconst dX12_isSalted_53 rfl ?_
          refine g_l (loc' := [some _, some _, some _, some _, some _]) dX12_isSalted_54 rfl rfl ?_
          refine g_iinc (loc' := [some _, some _, some _, some _, some _]) dX12_isSalted_55 rfl rfl rfl ?_
          refine g_goto (t := 12) dX12_isSalted_58 (by decide) ?_
          refine ih (i + 1) 0 (by omega) (by omega) (by omega) (Or.inl ⟨rfl, fun q y1 y2 v => ?_⟩)
          by_cases eq : q = i
          · subst eq; exact c_33 v.1
          · exact f q y1 (by omega) v
        · refine g_l dX12_isSalted_36 rfl rfl ?_
          refine g_getf dX12_isSalted_37 h248 f_12_84 rfl rfl ?_
          refine g_l dX12_isSalted_40 rfl rfl ?_
          refine g_iald dX12_isSalted_42 h272 (by omega) (by decide) rfl ?_
          refine g_l dX12_isSalted_43 rfl rfl ?_
          refine g_iconst dX12_isSalted_44 rfl ?_
          refine g_isub dX12_isSalted_45 rfl ?_
          refine g_icmp_ne (t := 53) dX12_isSalted_46 (by decide) rfl (by omega) (by omega) (fun c_46 => ?_) (fun c_46 => ?_)
          · refine g_iconst dX12_isSalted_53 rfl ?_
            refine g_l (loc' := [some _, some _, some _, some _, some _]) dX12_isSalted_54 rfl rfl ?_
            refine g_iinc (loc' := [some _, some _, some _, some _, some _]) dX12_isSalted_55 rfl rfl rfl ?_
            refine g_goto (t := 12) dX12_isSalted_58 (by decide) ?_
            refine ih (i + 1) 0 (by omega) (by omega) (by omega) (Or.inl ⟨rfl, fun q y1 y2 v => ?_⟩)
            by_cases eq : q = i
            · subst eq; exact c_46 v.2
            · exact f q y1 (by omega) v
          · refine g_iconst dX12_isSalted_49 rfl ?_
            refine g_goto (t := 54) dX12_isSalted_50 (by decide) ?_
            refine g_l (loc' := [some _, some _, some _, some _, some _]) dX12_isSalted_54 rfl rfl ?_
            refine g_iinc (loc' := [some _, some _, some _, some _, some _]) dX12_isSalted_55 rfl rfl rfl ?_
            refine g_goto (t := 12) dX12_isSalted_58 (by decide) ?_
            exact ih (i + 1) 1 (by omega) (by omega) (by omega) (Or.inr ⟨rfl, i, b1, by omega, by omega, by omega⟩)
      · rw [e]
        refine g_l dX12_isSalted_12 rfl rfl ?_
        refine g_l dX12_isSalted_14 rfl rfl ?_
        refine g_getf dX12_isSalted_15 h248 f_12_115 rfl rfl ?_
        refine g_icmp_ge (t := 61) dX12_isSalted_18 (by decide) rfl (by omega) (by omega) (fun c_18 => False.elim (by omega)) (fun c_18 => ?_)
        refine g_l dX12_isSalted_21 rfl rfl ?_
        refine g_if_ne (t := 49) dX12_isSalted_22 (by decide) rfl (by omega) (fun c_22 => ?_) (fun c_22 => False.elim (by omega))
        refine g_iconst dX12_isSalted_49 rfl ?_
        refine g_goto (t := 54) dX12_isSalted_50 (by decide) ?_
        refine g_l (loc' := [some _, some _, some _, some _, some _]) dX12_isSalted_54 rfl rfl ?_
        refine g_iinc (loc' := [some _, some _, some _, some _, some _]) dX12_isSalted_55 rfl rfl rfl ?_
        refine g_goto (t := 12) dX12_isSalted_58 (by decide) ?_
        exact ih (i + 1) 1 (by omega) (by omega) (by omega) (Or.inr ⟨rfl, f⟩)
  exact loop (M 0 5).toNat 0 0 (by omega) hn.1 (by rw [Int.sub_zero]) (Or.inl ⟨rfl, fun q y1 y2 => by omega⟩)
end RA
