/-! Kilns: the spec of each method, by the ghost machine -/
section KI
variable {S : Nat → Int → Int} {Tw : Nat → Nat → Int → Int} {M : Nat → Int → Int} {P : Nat → Nat} {d : Nat} {Q : Option Value → GH → Prop}
theorem s_X2_isThere {t : Nat} {k : Int} (ht : t < 19) (hk : R32 k) (hn : R32 (Tw t 1 5)) (h1 : 0 ≤ k ∧ k < Tw t 1 5 → Q (some (.int (iI 1))) (hO S Tw M P)) (h0 : k < 0 ∨ Tw t 1 5 ≤ k → Q (some (.int (iI 0))) (hO S Tw M P)) : CallD (d + 1) 16 [.ref (tR t 1), .int (iI k)] (hO S Tw M P) Q := by
  refine g_enter (loc := [some _, some _]) e_X2_isThere i_X2_isThere (Nat.le_of_ble_eq_true rfl) rfl ?_
  refine g_l dX2_isThere_0 rfl rfl ?_
  refine g_if_lt (t := 16) dX2_isThere_1 (by decide) rfl (by omega) (fun c_1 => ?_) (fun c_1 => ?_)
  · refine g_iconst dX2_isThere_16 rfl ?_
    refine g_retZ dX2_isThere_17 rfl rfl (by omega) ?_
    exact h0 (by omega)
  · refine g_l dX2_isThere_4 rfl rfl ?_
    refine g_l dX2_isThere_5 rfl rfl ?_
    refine g_getf dX2_isThere_6 (hT1 (by omega)) f_2_27 rfl rfl ?_
    refine g_icmp_ge (t := 16) dX2_isThere_9 (by decide) rfl (by omega) (by omega) (fun c_9 => ?_) (fun c_9 => ?_)
    · refine g_iconst dX2_isThere_16 rfl ?_
      refine g_retZ dX2_isThere_17 rfl rfl (by omega) ?_
      exact h0 (by omega)
    · refine g_iconst dX2_isThere_12 rfl ?_
      refine g_goto (t := 17) dX2_isThere_13 (by decide) ?_
      refine g_retZ dX2_isThere_17 rfl rfl (by omega) ?_
      exact h1 (by omega)
theorem s_X2_copyHeat {t u : Nat} (ht : t < 19) (hu : u < 19) (hq : ∀ Tw', frT t Tw Tw' → Tw' t 2 = Tw u 2 → Tw' t 1 6 = Tw u 1 6 → (∀ j, j ≠ 6 → Tw' t 1 j = Tw t 1 j) → (∀ o, o ≠ 1 → o ≠ 2 → Tw' t o = Tw t o) → Q none (hO S Tw' M P)) : CallD (d + 1) 20 [.ref (tR t 1), .ref (tR u 1)] (hO S Tw M P) Q := by
  refine g_enter (loc := [some _, some _]) e_X2_copyHeat i_X2_copyHeat (Nat.le_of_ble_eq_true rfl) rfl ?_
  refine g_l dX2_copyHeat_0 rfl rfl ?_
  refine g_l dX2_copyHeat_1 rfl rfl ?_
  refine g_getf dX2_copyHeat_2 (hT1 (by omega)) f_2_36 rfl rfl ?_
  refine g_putf dX2_copyHeat_5 (hT1 (by omega)) f_2_36 (Nat.le_of_ble_eq_true rfl) rfl rfl (pT1_6 (by omega)) rfl ?_
  refine g_l dX2_copyHeat_8 rfl rfl ?_
  refine g_getf dX2_copyHeat_9 (hT1 (by omega)) f_2_9 rfl rfl ?_
  refine g_iconst dX2_copyHeat_12 rfl ?_
  refine g_l dX2_copyHeat_13 rfl rfl ?_
  refine g_getf dX2_copyHeat_14 (hT1 (by omega)) f_2_9 rfl rfl ?_
  refine g_iconst dX2_copyHeat_17 rfl ?_
  refine g_iconst dX2_copyHeat_18 rfl ?_
  refine g_copy dX2_copyHeat_19 ac_2_43 (hTa2 (by omega)) (hTa2 (by omega)) rfl (by decide) (qTa2 (by omega)) (Nat.le_of_ble_eq_true rfl) rfl ?_
  refine g_retV dX2_copyHeat_22 rfl rfl ?_
  refine hq _ frT.rf.w.r ?_ ?_ ?_ ?_
  · rw [rT_s]
    by_cases h : u = t
    · subst h; exact wT_o (by decide)
    · rw [wT_u h]
  · rw [rT_o (by decide), wT_e]
  · intro j hj
    rw [rT_o (by decide), wT_s, if_neg hj]
  · intro o h1 h2
    rw [rT_o h2, wT_o h1]
theorem s_X2_copyFrom {t u : Nat} (ht : t < 19) (hu : u < 19) (hq : ∀ Tw', frT t Tw Tw' → (∀ o, o = 2 ∨ o = 3 ∨ o = 4 → Tw' t o = Tw u o) → Tw' t 1 5 = Tw u 1 5 → Tw' t 1 6 = Tw u 1 6 → (∀ o, 5 ≤ o → Tw' t o = Tw t o) → Q none (hO S Tw' M P)) : CallD (d + 2) 19 [.ref (tR t 1), .ref (tR u 1)] (hO S Tw M P) Q := by
  have e2 : ∀ (o : Nat) (j v : Int), o ≠ 1 → wT Tw t 1 j v u o = Tw u o := fun o j v ho => by
    by_cases h : u = t
    · subst h; exact wT_o ho
    · rw [wT_u h]
  have e6 : wT Tw t 1 5 (Tw u 1 5) u 1 6 = Tw u 1 6 := by
    by_cases h : u = t
    · subst h; rw [wT_s, if_neg (by decide)]
    · rw [wT_u h]
  refine g_enter (loc := [some _, some _]) e_X2_copyFrom i_X2_copyFrom (Nat.le_of_ble_eq_true rfl) rfl ?_
  refine g_l dX2_copyFrom_0 rfl rfl ?_
  refine g_l dX2_copyFrom_1 rfl rfl ?_
  refine g_getf dX2_copyFrom_2 (hT1 (by omega)) f_2_27 rfl rfl ?_
  refine g_putf dX2_copyFrom_5 (hT1 (by omega)) f_2_27 (Nat.le_of_ble_eq_true rfl) rfl rfl (pT1_5 (by omega)) rfl ?_
  refine g_l dX2_copyFrom_8 rfl rfl ?_
  refine g_l dX2_copyFrom_9 rfl rfl ?_
  refine g_callV dX2_copyFrom_10 m_2_50 (n := 1) rfl (hT1 (by omega)) rfl (Nat.le_of_ble_eq_true rfl) (Nat.le_of_ble_eq_true rfl) rfl rfl ?_
  refine s_X2_copyHeat ht hu (fun Tw' f1 f2 f3 f4 f5 => ?_)
  simp only [Option.toList_some, Option.toList_none, List.cons_append, List.nil_append]
  have g3 : Tw' u 3 = Tw u 3 ∧ Tw' u 4 = Tw u 4 := by
    by_cases h : u = t
    · subst h; exact ⟨(f5 3 (by decide) (by decide)).trans (e2 3 _ _ (by decide)), (f5 4 (by decide) (by decide)).trans (e2 4 _ _ (by decide))⟩
    · exact ⟨by rw [f1 u h]; exact e2 3 _ _ (by decide), by rw [f1 u h]; exact e2 4 _ _ (by decide)⟩
  refine g_l dX2_copyFrom_13 rfl rfl ?_
  refine g_getf dX2_copyFrom_14 (hT1 (by omega)) f_2_15 rfl rfl ?_
  refine g_iconst dX2_copyFrom_17 rfl ?_
  refine g_l dX2_copyFrom_18 rfl rfl ?_
  refine g_getf dX2_copyFrom_19 (hT1 (by omega)) f_2_15 rfl rfl ?_
  refine g_iconst dX2_copyFrom_22 rfl ?_
  refine g_iconst dX2_copyFrom_23 rfl ?_
  refine g_copy dX2_copyFrom_24 ac_2_43 (hTa3 (by omega)) (hTa3 (by omega)) rfl (by decide) (qTa3 (by omega)) (Nat.le_of_ble_eq_true rfl) rfl ?_
  refine g_l dX2_copyFrom_27 rfl rfl ?_
  refine g_getf dX2_copyFrom_28 (hT1 (by omega)) f_2_18 rfl rfl ?_
  refine g_iconst dX2_copyFrom_31 rfl ?_
  refine g_l dX2_copyFrom_32 rfl rfl ?_
  refine g_getf dX2_copyFrom_33 (hT1 (by omega)) f_2_18 rfl rfl ?_
  refine g_iconst dX2_copyFrom_36 rfl ?_
  refine g_iconst dX2_copyFrom_37 rfl ?_
  refine g_copy dX2_copyFrom_38 ac_2_43 (hTa4 (by omega)) (hTa4 (by omega)) rfl (by decide) (qTa4 (by omega)) (Nat.le_of_ble_eq_true rfl) rfl ?_
  refine g_retV dX2_copyFrom_41 rfl rfl ?_
  have e4 : rT Tw' t 3 (Tw' u 3) u 4 = Tw u 4 := by
    by_cases h : u = t
    · subst h; rw [rT_o (by decide)]; exact g3.2
    · rw [rT_u h]; exact g3.2
  refine hq _ (frT.rf.w.tr f1).r.r ?_ ?_ ?_ ?_
  · rintro o (rfl | rfl | rfl)
    · rw [rT_o (by decide), rT_o (by decide), f2, e2 2 _ _ (by decide)]
    · rw [rT_o (by decide), rT_s, g3.1]
    · rw [rT_s, e4]
  · rw [rT_o (by decide), rT_o (by decide), f4 5 (by decide), wT_e]
  · rw [rT_o (by decide), rT_o (by decide), f3, e6]
  · intro o ho
    rw [rT_o (by omega), rT_o (by omega), f5 o (by omega) (by omega), wT_o (by omega)]
theorem s_X2_cool {t : Nat} (ht : t < 19) (hq : ∀ Tw', frT t Tw Tw' → (∀ k, 0 ≤ k → k < 5 → Tw' t 2 k = 0) → (∀ o, o ≠ 2 → Tw' t o = Tw t o) → Q none (hO S Tw' M P)) : CallD (d + 1) 18 [.ref (tR t 1)] (hO S Tw M P) Q := by
  refine g_enter (loc := [some _, none]) e_X2_cool i_X2_cool (Nat.le_of_ble_eq_true rfl) rfl ?_
  refine g_iconst dX2_cool_0 rfl ?_
  refine g_l (loc' := [some _, some _]) dX2_cool_1 rfl rfl ?_
  have loop : ∀ (n : Nat) (i : Int) (Tw' : Nat → Nat → Int → Int), 0 ≤ i → i ≤ 5 → (5 - i).toNat = n → frT t Tw Tw' → (∀ k, 0 ≤ k → k < i → Tw' t 2 k = 0) → (∀ o, o ≠ 2 → Tw' t o = Tw t o) → G none d 2 false none 0 0 (hO S Tw M P).length cX2_cool Q 0 2 [some (.ref (tR t 1)), some (.int (iI i))] [] (hO S Tw' M P) := by
    intro n
    induction n with
    | zero =>
      intro i Tw' h0 h5 hn f1 f2 f3
      refine g_l dX2_cool_2 rfl rfl ?_
      refine g_iconst dX2_cool_3 rfl ?_
      refine g_icmp_ge (t := 20) dX2_cool_4 (by decide) rfl (by omega) (by omega) (fun c_4 => ?_) (fun c_4 => False.elim (by omega))
      refine g_retV dX2_cool_20 rfl rfl ?_
      exact hq _ f1 (fun k a b => f2 k a (by omega)) f3
    | succ n ih =>
      intro i Tw' h0 h5 hn f1 f2 f3
      refine g_l dX2_cool_2 rfl rfl ?_
      refine g_iconst dX2_cool_3 rfl ?_
      refine g_icmp_ge (t := 20) dX2_cool_4 (by decide) rfl (by omega) (by omega) (fun c_4 => False.elim (by omega)) (fun c_4 => ?_)
      refine g_l dX2_cool_7 rfl rfl ?_
      refine g_getf dX2_cool_8 (hT1 (by omega)) f_2_9 rfl rfl ?_
      refine g_l dX2_cool_11 rfl rfl ?_
      refine g_iconst dX2_cool_12 rfl ?_
      refine g_iast dX2_cool_13 (hTa2 (by omega)) (by omega) (by decide) (pTa2 (by omega)) rfl ?_
      refine g_iinc (loc' := [some _, some _]) dX2_cool_14 rfl rfl rfl ?_
      refine g_goto (t := 2) dX2_cool_17 (by decide) ?_
      refine ih _ _ (by omega) (by omega) (by omega) f1.w (fun k a b => ?_) (fun o ho => ?_)
      · rw [wT_s]
        by_cases h : k = i
        · rw [if_pos h]
        · rw [if_neg h, f2 k a (by omega)]
      · rw [wT_o ho, f3 o ho]
  exact loop _ 0 Tw (by omega) (by omega) rfl frT.rf (fun k a b => by omega) (fun o _ => rfl)
end KI
