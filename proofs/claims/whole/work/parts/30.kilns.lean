/-! Kilns: the spec of each method, by the ghost machine -/
section KI
variable {S : Nat → Int → Int} {Tw : Nat → Nat → Int → Int} {M : Nat → Int → Int} {P : Nat → Nat} {d : Nat} {Q : Option Value → GH → Prop}
theorem s_X2_isThere {t : Nat} {k : Int} (ht : t < 19) (hk : R32 k) (hn : R32 (Tw t 1 5)) (h1 : 0 ≤ k ∧ k < Tw t 1 5 → Q (some (.int (iI 1))) (hO S Tw M P)) (h0 : k < 0 ∨ Tw t 1 5 ≤ k → Q (some (.int (iI 0))) (hO S Tw M P)) : CallD (d + 1) 16 [.ref (tR t 1), .int (iI k)] (hO S Tw M P) Q := by
  refine g_enter (loc := [some _, some _]) e_X2_isThere i_X2_isThere (Nat.le_of_ble_eq_true rfl) rfl ?_
  refine g_l dX2_isThere_0 rfl rfl ?_
  refine g_if_lt (t := 16) dX2_isThere_1 (by decide) rfl (by omega) (fun c_1 => ?_) (fun c_1 => ?_)
  · refine g_iconst dX2_isThere_16 rfl ?_
    refine g_retZ dX2_isThere_17 rfl rfl (by omega) ?_
    exact h0 (by omega)
  · refine g_l dX2_isThere_4 rfl rfl ?_
    refine g_l dX2_isThere_5 rfl rfl ?_
    refine g_getf dX2_isThere_6 (hT1 (by omega)) f_2_27 rfl rfl ?_
    refine g_icmp_ge (t := 16) dX2_isThere_9 (by decide) rfl (by omega) (by omega) (fun c_9 => ?_) (fun c_9 => ?_)
    · refine g_iconst dX2_isThere_16 rfl ?_
      refine g_retZ dX2_isThere_17 rfl rfl (by omega) ?_
      exact h0 (by omega)
    · refine g_iconst dX2_isThere_12 rfl ?_
      refine g_goto (t := 17) dX2_isThere_13 (by decide) ?_
      refine g_retZ dX2_isThere_17 rfl rfl (by omega) ?_
      exact h1 (by omega)
theorem s_X2_copyHeat {t u : Nat} (ht : t < 19) (hu : u < 19) (hq : ∀ Tw', frT t Tw Tw' → Tw' t 2 = Tw u 2 → Tw' t 1 6 = Tw u 1 6 → (∀ j, j ≠ 6 → Tw' t 1 j = Tw t 1 j) → (∀ o, o ≠ 1 → o ≠ 2 → Tw' t o = Tw t o) → Q none (hO S Tw' M P)) : CallD (d + 1) 20 [.ref (tR t 1), .ref (tR u 1)] (hO S Tw M P) Q := by
  refine g_enter (loc := [some _, some _]) e_X2_copyHeat i_X2_copyHeat (Nat.le_of_ble_eq_true rfl) rfl ?_
  refine g_l dX2_copyHeat_0 rfl rfl ?_
  refine g_l dX2_copyHeat_1 rfl rfl ?_
  refine g_getf dX2_copyHeat_2 (hT1 (by omega)) f_2_36 rfl rfl ?_
  refine g_putf dX2_copyHeat_5 (hT1 (by omega)) f_2_36 (Nat.le_of_ble_eq_true rfl) rfl rfl (pT1_6 (by omega)) rfl ?_
  refine g_l dX2_copyHeat_8 rfl rfl ?_
  refine g_getf dX2_copyHeat_9 (hT1 (by omega)) f_2_9 rfl rfl ?_
  refine g_iconst dX2_copyHeat_12 rfl ?_
  refine g_l dX2_copyHeat_13 rfl rfl ?_
  refine g_getf dX2_copyHeat_14 (hT1 (by omega)) f_2_9 rfl rfl ?_
  refine g_iconst dX2_copyHeat_17 rfl ?_
  refine g_iconst dX2_copyHeat_18 rfl ?_
  refine g_copy dX2_copyHeat_19 ac_2_43 (hTa2 (by omega)) (hTa2 (by omega)) rfl (by decide) (qTa2 (by omega)) (Nat.le_of_ble_eq_true rfl) rfl ?_
  refine g_retV dX2_copyHeat_22 rfl rfl ?_
  refine hq _ frT.rf.w.r ?_ ?_ ?_ ?_
  · rw [rT_s]
    by_cases h : u = t
    · subst h; exact wT_o (by decide)
    · rw [wT_u h]
  · rw [rT_o (by decide), wT_e]
  · intro j hj
    rw [rT_o (by decide), wT_s, if_neg hj]
  · intro o h1 h2
    rw [rT_o h2, wT_o h1]
theorem s_X2_copyFrom {t u : Nat} (ht : t < 19) (hu : u < 19) (hq : ∀ Tw', frT t Tw Tw' → (∀ o, o = 2 ∨ o = 3 ∨ o = 4 → Tw' t o = Tw u o) → Tw' t 1 5 = Tw u 1 5 → Tw' t 1 6 = Tw u 1 6 → (∀ o, 5 ≤ o → Tw' t o = Tw t o) → Q none (hO S Tw' M P)) : CallD (d + 2) 19 [.ref (tR t 1), .ref (tR u 1)] (hO S Tw M P) Q := by
  have e2 : ∀ (o : Nat) (j v : Int), o ≠ 1 → wT Tw t 1 j v u o = Tw u o := fun o j v ho => by
    by_cases h : u = t
    · subst h; exact wT_o ho
    · rw [wT_u h]
  have e6 : wT Tw t 1 5 (Tw u 1 5) u 1 6 = Tw u 1 6 := by
    by_cases h : u = t
    · subst h; rw [wT_s, if_neg (by decide)]
    · rw [wT_u h]
  refine g_enter (loc := [some _, some _]) e_X2_copyFrom i_X2_copyFrom (Nat.le_of_ble_eq_true rfl) rfl ?_
  refine g_l dX2_copyFrom_0 rfl rfl ?_
  refine g_l dX2_copyFrom_1 rfl rfl ?_
  refine g_getf dX2_copyFrom_2 (hT1 (by omega)) f_2_27 rfl rfl ?_
  refine g_putf dX2_copyFrom_5 (hT1 (by omega)) f_2_27 (Nat.le_of_ble_eq_true rfl) rfl rfl (pT1_5 (by omega)) rfl ?_
  refine g_l dX2_copyFrom_8 rfl rfl ?_
  refine g_l dX2_copyFrom_9 rfl rfl ?_
  refine g_callV dX2_copyFrom_10 m_2_50 (n := 1) rfl (hT1 (by omega)) rfl (Nat.le_of_ble_eq_true rfl) (Nat.le_of_ble_eq_true rfl) rfl rfl ?_
  refine s_X2_copyHeat ht hu (fun Tw' f1 f2 f3 f4 f5 => ?_)
  simp only [Option.toList_some, Option.toList_none, List.cons_append, List.nil_append]
  have g3 : Tw' u 3 = Tw u 3 ∧ Tw' u 4 = Tw u 4 := by
    by_cases h : u = t
    · subst h; exact ⟨(f5 3 (by decide) (by decide)).trans (e2 3 _ _ (by decide)), (f5 4 (by decide) (by decide)).trans (e2 4 _ _ (by decide))⟩
    · exact ⟨by rw [f1 u h]; exact e2 3 _ _ (by decide), by rw [f1 u h]; exact e2 4 _ _ (by decide)⟩
  refine g_l dX2_copyFrom_13 rfl rfl ?_
  refine g_getf dX2_copyFrom_14 (hT1 (by omega)) f_2_15 rfl rfl ?_
  refine g_iconst dX2_copyFrom_17 rfl ?_
  refine g_l dX2_copyFrom_18 rfl rfl ?_
  refine g_getf dX2_copyFrom_19 (hT1 (by omega)) f_2_15 rfl rfl ?_
  refine g_iconst dX2_copyFrom_22 rfl ?_
  refine g_iconst dX2_copyFrom_23 rfl ?_
  refine g_copy dX2_copyFrom_24 ac_2_43 (hTa3 (by omega)) (hTa3 (by omega)) rfl (by decide) (qTa3 (by omega)) (Nat.le_of_ble_eq_true rfl) rfl ?_
  refine g_l dX2_copyFrom_27 rfl rfl ?_
  refine g_getf dX2_copyFrom_28 (hT1 (by omega)) f_2_18 rfl rfl ?_
  refine g_iconst dX2_copyFrom_31 rfl ?_
  refine g_l dX2_copyFrom_32 rfl rfl ?_
  refine g_getf dX2_copyFrom_33 (hT1 (by omega)) f_2_18 rfl rfl ?_
  refine g_iconst dX2_copyFrom_36 rfl ?_
  refine g_iconst dX2_copyFrom_37 rfl ?_
  refine g_copy dX2_copyFrom_38 ac_2_43 (hTa4 (by omega)) (hTa4 (by omega)) rfl (by decide) (qTa4 (by omega)) (Nat.le_of_ble_eq_true rfl) rfl ?_
  refine g_retV dX2_copyFrom_41 rfl rfl ?_
  have e4 : rT Tw' t 3 (Tw' u 3) u 4 = Tw u 4 := by
    by_cases h : u = t
    · subst h; rw [rT_o (by decide)]; exact g3.2
    · rw [rT_u h]; exact g3.2
  refine hq _ (frT.rf.w.tr f1).r.r ?_ ?_ ?_ ?_
  · rintro o (rfl | rfl | rfl)
    · rw [rT_o (by decide), rT_o (by decide), f2, e2 2 _ _ (by decide)]
    · rw [rT_o (by decide), rT_s, g3.1]
    · rw [rT_s, e4]
  · rw [rT_o (by decide), rT_o (by decide), f4 5 (by decide), wT_e]
  · rw [rT_o (by decide), rT_o (by decide), f3, e6]
  · intro o ho
    rw [rT_o (by omega), rT_o (by omega), f5 o (by omega) (by omega), wT_o (by omega)]
theorem s_X2_cool {t : Nat} (ht : t < 19) (hq : ∀ Tw', frT t Tw Tw' → (∀ k, 0 ≤ k → k < 5 → Tw' t 2 k = 0) → (∀ o, o ≠ 2 → Tw' t o = Tw t o) → Q none (hO S Tw' M P)) : CallD (d + 1) 18 [.ref (tR t 1)] (hO S Tw M P) Q := by
  refine g_enter (loc := [some _, _]) e_X2_cool i_X2_cool (Nat.le_of_ble_eq_true rfl) rfl ?_
  refine g_iconst dX2_cool_0 rfl ?_
  refine g_l (loc' := [some _, some _]) dX2_cool_1 rfl rfl ?_
  have loop : ∀ (n : Nat) (i : Int) (Tw' : Nat → Nat → Int → Int), 0 ≤ i → i ≤ 5 → (5 - i).toNat = n → frT t Tw Tw' → (∀ k, 0 ≤ k → k < i → Tw' t 2 k = 0) → (∀ o, o ≠ 2 → Tw' t o = Tw t o) → G none d 2 false none 0 0 (hO S Tw M P).length cX2_cool Q 0 2 [some (.ref (tR t 1)), some (.int (iI i))] [] (hO S Tw' M P) := by
    intro n
    induction n with
    | zero =>
      intro i Tw' h0 h5 hn f1 f2 f3
      refine g_l dX2_cool_2 rfl rfl ?_
      refine g_iconst dX2_cool_3 rfl ?_
      refine g_icmp_ge (t := 20) dX2_cool_4 (by decide) rfl (by omega) (by omega) (fun c_4 => ?_) (fun c_4 => False.elim (by omega))
      refine g_retV dX2_cool_20 rfl rfl ?_
      exact hq _ f1 (fun k a b => f2 k a (by omega)) f3
    | succ n ih =>
      intro i Tw' h0 h5 hn f1 f2 f3
      refine g_l dX2_cool_2 rfl rfl ?_
      refine g_iconst dX2_cool_3 rfl ?_
      refine g_icmp_ge (t := 20) dX2_cool_4 (by decide) rfl (by omega) (by omega) (fun c_4 => False.elim (by omega)) (fun c_4 => ?_)
      refine g_l dX2_cool_7 rfl rfl ?_
      refine g_getf dX2_cool_8 (hT1 (by omega)) f_2_9 rfl rfl ?_
      refine g_l dX2_cool_11 rfl rfl ?_
      refine g_iconst dX2_cool_12 rfl ?_
      refine g_iast dX2_cool_13 (hTa2 (by omega)) (by omega) (by decide) (pTa2 (by omega)) rfl ?_
      refine g_iinc (loc' := [some _, some _]) dX2_cool_14 rfl rfl rfl ?_
      refine g_goto (t := 2) dX2_cool_17 (by decide) ?_
      refine ih _ _ (by omega) (by omega) (by omega) f1.w (fun k a b => ?_) (fun o ho => ?_)
      · rw [wT_s]
        by_cases h : k = i
        · rw [if_pos h]
        · rw [if_neg h, f2 k a (by omega)]
      · rw [wT_o ho, f3 o ho]
  exact loop _ 0 Tw (by omega) (by omega) rfl frT.rf (fun k a b => by omega) (fun o _ => rfl)
theorem s_X2_allHeat {t : Nat} (ht : t < 19) (hn : 0 ≤ Tw t 1 5 ∧ Tw t 1 5 ≤ 5) (hq : Q (some (.int (iI (sumF (Tw t 2) (Tw t 1 5).toNat)))) (hO S Tw M P)) : CallD (d + 1) 25 [.ref (tR t 1)] (hO S Tw M P) Q := by
  refine g_enter (loc := [some _, _, _]) e_X2_allHeat i_X2_allHeat (Nat.le_of_ble_eq_true rfl) rfl ?_
  refine g_iconst dX2_allHeat_0 rfl ?_
  refine g_l (loc' := [some _, some _, _]) dX2_allHeat_1 rfl rfl ?_
  refine g_iconst dX2_allHeat_2 rfl ?_
  refine g_l (loc' := [some _, some _, some _]) dX2_allHeat_3 rfl rfl ?_
  have loop : ∀ (m : Nat) (i : Int), 0 ≤ i → i ≤ Tw t 1 5 → (Tw t 1 5 - i).toNat = m → G none d 2 false (some .int) 0 0 (hO S Tw M P).length cX2_allHeat Q 0 4 [some (.ref (tR t 1)), some (.int (iI (sumF (Tw t 2) i.toNat))), some (.int (iI i))] [] (hO S Tw M P) := by
    intro m
    induction m with
    | zero =>
      intro i h0 h5 hm
      refine g_l dX2_allHeat_4 rfl rfl ?_
      refine g_l dX2_allHeat_5 rfl rfl ?_
      refine g_getf dX2_allHeat_6 (hT1 (by omega)) f_2_27 rfl rfl ?_
      refine g_icmp_ge (t := 27) dX2_allHeat_9 (by decide) rfl (by omega) (by omega) (fun c_9 => ?_) (fun c_9 => False.elim (by omega))
      refine g_l dX2_allHeat_27 rfl rfl ?_
      refine g_retI dX2_allHeat_28 rfl rfl ?_
      rw [show i = Tw t 1 5 by omega]
      exact hq
    | succ m ih =>
      intro i h0 h5 hm
      refine g_l dX2_allHeat_4 rfl rfl ?_
      refine g_l dX2_allHeat_5 rfl rfl ?_
      refine g_getf dX2_allHeat_6 (hT1 (by omega)) f_2_27 rfl rfl ?_
      refine g_icmp_ge (t := 27) dX2_allHeat_9 (by decide) rfl (by omega) (by omega) (fun c_9 => False.elim (by omega)) (fun c_9 => ?_)
      refine g_l dX2_allHeat_12 rfl rfl ?_
      refine g_l dX2_allHeat_13 rfl rfl ?_
      refine g_getf dX2_allHeat_14 (hT1 (by omega)) f_2_9 rfl rfl ?_
      refine g_l dX2_allHeat_17 rfl rfl ?_
      refine g_iald dX2_allHeat_18 (hTa2 (by omega)) (by omega) (by decide) rfl ?_
      refine g_iadd dX2_allHeat_19 rfl ?_
      refine g_l (loc' := [some _, some _, some _]) dX2_allHeat_20 rfl rfl ?_
      refine g_iinc (loc' := [some _, some _, some _]) dX2_allHeat_21 rfl rfl rfl ?_
      refine g_goto (t := 4) dX2_allHeat_24 (by decide) ?_
      have e : sumF (Tw t 2) i.toNat + Tw t 2 i = sumF (Tw t 2) (i + 1).toNat := by
        rw [show (i + 1).toNat = i.toNat + 1 by omega]
        show _ = sumF (Tw t 2) i.toNat + Tw t 2 ((i.toNat : Nat) : Int)
        rw [show ((i.toNat : Nat) : Int) = i by omega]
      rw [e]
      exact ih (i + 1) (by omega) (by omega) (by omega)
  exact loop _ 0 (by omega) hn.1 rfl
theorem s_X2_jump {t : Nat} {k : Int} (ht : t < 19) (hk : 0 ≤ k ∧ k < 5) (h1 : 0 ≤ Tw t 2 k ∧ Tw t 2 k ≤ 10000000) (h2 : 0 ≤ Tw t 5 k ∧ Tw t 5 k ≤ 10000000) (hq : Q (some (.int (iI (if 0 ≤ Tw t 2 k - Tw t 5 k then Tw t 2 k - Tw t 5 k else -(Tw t 2 k - Tw t 5 k))))) (hO S Tw M P)) : CallD (d + 1) 24 [.ref (tR t 1), .int (iI k)] (hO S Tw M P) Q := by
  refine g_enter (loc := [some _, some _]) e_X2_jump i_X2_jump (Nat.le_of_ble_eq_true rfl) rfl ?_
  refine g_l dX2_jump_0 rfl rfl ?_
  refine g_getf dX2_jump_1 (hT1 (by omega)) f_2_9 rfl rfl ?_
  refine g_l dX2_jump_4 rfl rfl ?_
  refine g_iald dX2_jump_5 (hTa2 (by omega)) (by omega) (by decide) rfl ?_
  refine g_l dX2_jump_6 rfl rfl ?_
  refine g_getf dX2_jump_7 (hT1 (by omega)) f_2_21 rfl rfl ?_
  refine g_l dX2_jump_10 rfl rfl ?_
  refine g_iald dX2_jump_11 (hTa5 (by omega)) (by omega) (by decide) rfl ?_
  refine g_isub dX2_jump_12 rfl ?_
  refine g_abs dX2_jump_13 ab_2_58 (by omega) (by decide) rfl ?_
  refine g_retI dX2_jump_16 rfl rfl ?_
  exact hq
set_option maxHeartbeats 1000000 in
theorem s_X2_burn {t : Nat} {w : Int} (ht : t < 19) (hk : kOk (Tw t)) (hq : ∀ Tw', burnP t w Tw Tw' → Q none (hO S Tw' M P)) : CallD (d + 1) 21 [.ref (tR t 1), .int (iI w)] (hO S Tw M P) Q := by
  obtain ⟨n1, n2, hk⟩ := hk
  refine g_enter (loc := [some _, some _, _, _, _, _]) e_X2_burn i_X2_burn (Nat.le_of_ble_eq_true rfl) rfl ?_
  refine g_bipush dX2_burn_0 (by decide) rfl ?_
  refine g_l dX2_burn_2 rfl rfl ?_
  refine g_imul dX2_burn_3 rfl ?_
  refine g_l (loc' := [some _, some _, some _, _, _, _]) dX2_burn_4 rfl rfl ?_
  refine g_iconst dX2_burn_5 rfl ?_
  refine g_l (loc' := [some _, some _, some _, some _, _, _]) dX2_burn_6 rfl rfl ?_
  have loop : ∀ (m : Nat) (i : Int) (a4 a5 : Option Value) (Tw' : Nat → Nat → Int → Int), 0 ≤ i → i ≤ Tw t 1 5 → (Tw t 1 5 - i).toNat = m → frT t Tw Tw' → (∀ k, Tw' t 2 k = if 0 ≤ k ∧ k < i then nhF (Tw t 1 5) (Tw t 3) (Tw t 4) w (Tw t 2) k else Tw t 2 k) → (∀ k, 0 ≤ k → k < i → Tw' t 5 k = Tw t 2 k) → (∀ k, 0 ≤ k → k < i → Tw' t 6 k = cmF (Tw t 3) (Tw t 2) w k) →
      Tw' t 1 5 = Tw t 1 5 → Tw' t 1 6 = Tw t 1 6 + sumF (awF (Tw t 4) (Tw t 2)) i.toNat → Tw' t 3 = Tw t 3 → Tw' t 4 = Tw t 4 → (∀ o, 7 ≤ o → Tw' t o = Tw t o) →
      G none d 2 false none 0 0 (hO S Tw M P).length cX2_burn Q 0 7 [some (.ref (tR t 1)), some (.int (iI w)), some (.int (iI (cmF (Tw t 3) (Tw t 2) w i))), some (.int (iI i)), a4, a5] [] (hO S Tw' M P) := by
    intro m
    induction m with
    | zero =>
      intro i a4 a5 Tw' h0 h5 hm f1 f2 f3 f4 f5 f6 f7 f8 f9
      have hi : i = Tw t 1 5 := by omega
      refine g_l dX2_burn_7 rfl rfl ?_
      refine g_l dX2_burn_8 rfl rfl ?_
      refine g_getf dX2_burn_9 (hT1 (by omega)) f_2_27 rfl rfl ?_
      refine g_icmp_ge (t := 106) dX2_burn_12 (by decide) rfl (by omega) (by omega) (fun c_12 => ?_) (fun c_12 => False.elim (by omega))
      refine g_l dX2_burn_106 rfl rfl ?_
      refine g_s dX2_burn_107 rfl rfl rfl ?_
      refine g_getf dX2_burn_108 (hT1 (by omega)) f_2_36 rfl rfl ?_
      refine g_l dX2_burn_111 rfl rfl ?_
      refine g_iadd dX2_burn_112 rfl ?_
      refine g_putf dX2_burn_113 (hT1 (by omega)) f_2_36 (Nat.le_of_ble_eq_true rfl) rfl rfl (pT1_6 (by omega)) rfl ?_
      refine g_retV dX2_burn_116 rfl rfl ?_
      refine hq _ ⟨f1.w, fun k a b => ?_, fun k a b => ?_, fun k a b => ?_, ?_, ?_, ?_, ?_, fun o ho => ?_⟩
      · rw [wT_o (by decide), f2]
        by_cases h : k < i
        · rw [if_pos ⟨a, h⟩]
        · rw [if_neg (by omega)]; unfold nhF; rw [if_neg (by omega)]
      · rw [wT_o (by decide), f3 k a (by omega)]
      · rw [wT_o (by decide), f4 k a (by omega)]
      · rw [wT_s, if_neg (by decide), f5]
      · rw [wT_e, f6, hi]
        unfold outF cmF
        rw [if_neg (by omega)]
        omega
      · rw [wT_o (by decide), f7]
      · rw [wT_o (by decide), f8]
      · rw [wT_o (by omega), f9 o ho]
    | succ m ih =>
      intro i a4 a5 Tw' h0 h5 hm f1 f2 f3 f4 f5 f6 f7 f8 f9
      obtain ⟨b1, b2, b3⟩ := hk i h0 (by omega)
      have e2 : Tw' t 2 i = Tw t 2 i := by rw [f2, if_neg (by omega)]
      refine g_l dX2_burn_7 rfl rfl ?_
      refine g_l dX2_burn_8 rfl rfl ?_
      refine g_getf dX2_burn_9 (hT1 (by omega)) f_2_27 rfl rfl ?_
      refine g_icmp_ge (t := 106) dX2_burn_12 (by decide) rfl (by omega) (by omega) (fun c_12 => False.elim (by omega)) (fun c_12 => ?_)
      refine g_l dX2_burn_15 rfl rfl ?_
      refine g_getf dX2_burn_16 (hT1 (by omega)) f_2_9 rfl rfl ?_
      refine g_l dX2_burn_19 rfl rfl ?_
      refine g_iald dX2_burn_20 (hTa2 (by omega)) (by omega) (by decide) rfl ?_
      refine g_l dX2_burn_21 rfl rfl ?_
      refine g_getf dX2_burn_22 (hT1 (by omega)) f_2_15 rfl rfl ?_
      refine g_l dX2_burn_25 rfl rfl ?_
      refine g_iald dX2_burn_26 (hTa3 (by omega)) (by omega) (by decide) rfl ?_
      refine g_imul dX2_burn_27 rfl ?_
      refine g_bipush dX2_burn_28 (by decide) rfl ?_
      refine g_idiv dX2_burn_30 (by rw [e2, f7]; exact prodB b1 b2) (by omega) rfl ?_
      refine g_l (loc' := [some _, some _, some _, some _, some _, _]) dX2_burn_31 rfl rfl ?_
      refine g_l dX2_burn_33 rfl rfl ?_
      refine g_getf dX2_burn_34 (hT1 (by omega)) f_2_9 rfl rfl ?_
      refine g_l dX2_burn_37 rfl rfl ?_
      refine g_iald dX2_burn_38 (hTa2 (by omega)) (by omega) (by decide) rfl ?_
      refine g_l dX2_burn_39 rfl rfl ?_
      refine g_getf dX2_burn_40 (hT1 (by omega)) f_2_18 rfl rfl ?_
      refine g_l dX2_burn_43 rfl rfl ?_
      refine g_iald dX2_burn_44 (hTa4 (by omega)) (by omega) (by decide) rfl ?_
      refine g_imul dX2_burn_45 rfl ?_
      refine g_bipush dX2_burn_46 (by decide) rfl ?_
      refine g_idiv dX2_burn_48 (by rw [e2, f8]; exact prodB b1 b3) (by omega) rfl ?_
      refine g_l (loc' := [some _, some _, some _, some _, some _, some _]) dX2_burn_49 rfl rfl ?_
      refine g_l dX2_burn_51 rfl rfl ?_
      refine g_getf dX2_burn_52 (hT1 (by omega)) f_2_21 rfl rfl ?_
      refine g_l dX2_burn_55 rfl rfl ?_
      refine g_l dX2_burn_56 rfl rfl ?_
      refine g_getf dX2_burn_57 (hT1 (by omega)) f_2_9 rfl rfl ?_
      refine g_l dX2_burn_60 rfl rfl ?_
      refine g_iald dX2_burn_61 (hTa2 (by omega)) (by omega) (by decide) rfl ?_
      refine g_iast dX2_burn_62 (hTa5 (by omega)) (by omega) (by decide) (pTa5 (by omega)) rfl ?_
      refine g_l dX2_burn_63 rfl rfl ?_
      refine g_getf dX2_burn_64 (hT1 (by omega)) f_2_24 rfl rfl ?_
      refine g_l dX2_burn_67 rfl rfl ?_
      refine g_l dX2_burn_68 rfl rfl ?_
      refine g_iast dX2_burn_69 (hTa6 (by omega)) (by omega) (by decide) (pTa6 (by omega)) rfl ?_
      refine g_l dX2_burn_70 rfl rfl ?_
      refine g_getf dX2_burn_71 (hT1 (by omega)) f_2_9 rfl rfl ?_
      refine g_l dX2_burn_74 rfl rfl ?_
      refine g_s dX2_burn_75 rfl rfl rfl ?_
      refine g_iald dX2_burn_76 (hTa2 (by omega)) (by omega) (by decide) rfl ?_
      refine g_l dX2_burn_77 rfl rfl ?_
      refine g_l dX2_burn_78 rfl rfl ?_
      refine g_isub dX2_burn_80 rfl ?_
      refine g_l dX2_burn_81 rfl rfl ?_
      refine g_isub dX2_burn_83 rfl ?_
      refine g_iadd dX2_burn_84 rfl ?_
      refine g_iast dX2_burn_85 (hTa2 (by omega)) (by omega) (by decide) (pTa2 (by omega)) rfl ?_
      refine g_l dX2_burn_86 rfl rfl ?_
      refine g_s dX2_burn_87 rfl rfl rfl ?_
      refine g_getf dX2_burn_88 (hT1 (by omega)) f_2_36 rfl rfl ?_
      refine g_l dX2_burn_91 rfl rfl ?_
      refine g_iadd dX2_burn_93 rfl ?_
      refine g_putf dX2_burn_94 (hT1 (by omega)) f_2_36 (Nat.le_of_ble_eq_true rfl) rfl rfl (pT1_6 (by omega)) rfl ?_
      refine g_l dX2_burn_97 rfl rfl ?_
      refine g_l (loc' := [some _, some _, some _, some _, some _, some _]) dX2_burn_99 rfl rfl ?_
      refine g_iinc (loc' := [some _, some _, some _, some _, some _, some _]) dX2_burn_100 rfl rfl rfl ?_
      refine g_goto (t := 7) dX2_burn_103 (by decide) ?_
      simp only [wT_s, wT_e, wT_o (show (2 : Nat) ≠ 5 by decide), wT_o (show (2 : Nat) ≠ 6 by decide), wT_o (show (1 : Nat) ≠ 2 by decide), wT_o (show (1 : Nat) ≠ 5 by decide), wT_o (show (1 : Nat) ≠ 6 by decide), e2, f7, f8]
      have ec : cmF (Tw t 3) (Tw t 2) w (i + 1) = Tw t 2 i * Tw t 3 i / 10 := by
        unfold cmF upF
        rw [if_neg (by omega), show i + 1 - 1 = i by omega]
      rw [← ec]
      refine ih (i + 1) _ _ _ (by omega) (by omega) (by omega) f1.w.w.w.w (fun k => ?_) (fun k a b => ?_) (fun k a b => ?_) ?_ ?_ ?_ ?_ (fun o ho => ?_)
      · rw [wT_o (by decide), wT_s, wT_o (by decide), wT_o (by decide)]
        by_cases h : k = i
        · subst h
          rw [if_pos rfl, if_pos (by omega)]
          unfold nhF upF awF
          rw [if_pos (by omega), ec]
        · rw [if_neg h, f2]
          by_cases h2 : 0 ≤ k ∧ k < i
          · rw [if_pos h2, if_pos (by omega)]
          · rw [if_neg h2, if_neg (by omega)]
      · rw [wT_o (by decide), wT_o (by decide), wT_o (by decide), wT_s]
        by_cases h : k = i
        · subst h; rw [if_pos rfl]
        · rw [if_neg h, f3 k a (by omega)]
      · rw [wT_o (by decide), wT_o (by decide), wT_s]
        by_cases h : k = i
        · subst h; rw [if_pos rfl]
        · rw [if_neg h, wT_o (by decide), f4 k a (by omega)]
      · rw [wT_s, if_neg (by decide), wT_o (by decide), wT_o (by decide), wT_o (by decide), f5]
      · rw [wT_e, f6, show (i + 1).toNat = i.toNat + 1 by omega]
        show _ = Tw t 1 6 + (sumF (awF (Tw t 4) (Tw t 2)) i.toNat + awF (Tw t 4) (Tw t 2) ((i.toNat : Nat) : Int))
        rw [show ((i.toNat : Nat) : Int) = i by omega]
        unfold awF
        omega
      · rw [wT_o (by decide), wT_o (by decide), wT_o (by decide), wT_o (by decide), f7]
      · rw [wT_o (by decide), wT_o (by decide), wT_o (by decide), wT_o (by decide), f8]
      · rw [wT_o (by omega), wT_o (by omega), wT_o (by omega), wT_o (by omega), f9 o ho]
  have := loop _ 0 none none Tw (by omega) (by omega) rfl frT.rf (fun k => by rw [if_neg (by omega)]) (fun k a b => by omega) (fun k a b => by omega) rfl (by show _ = Tw t 1 6 + 0; omega) rfl rfl (fun o _ => rfl)
  unfold cmF at this
  rw [if_pos rfl] at this
  exact this
theorem s_X2_burnAll {t : Nat} {m w B : Int} (ht : t < 19) (hk : tOk (Tw t) B) (hB : B ≤ 1000000) (hm : 0 ≤ m ∧ m ≤ 9) (hw : 0 ≤ w ∧ w ≤ 9)
    (hq : ∀ Tw', frT t Tw Tw' → (∀ k, 0 ≤ k → k < 5 → Tw' t 2 k = hIt (Tw t 1 5) (Tw t 3) (Tw t 4) w (Tw t 2) m.toNat k) → Tw' t 1 5 = Tw t 1 5 → Tw' t 3 = Tw t 3 → Tw' t 4 = Tw t 4 → (∀ o, 7 ≤ o → Tw' t o = Tw t o) → tOk (Tw' t) (B + 180 * m) → Q none (hO S Tw' M P)) : CallD (d + 2) 22 [.ref (tR t 1), .int (iI m), .int (iI w)] (hO S Tw M P) Q := by
  refine g_enter (loc := [some _, some _, some _, _]) e_X2_burnAll i_X2_burnAll (Nat.le_of_ble_eq_true rfl) rfl ?_
  refine g_iconst dX2_burnAll_0 rfl ?_
  refine g_l (loc' := [some _, some _, some _, some _]) dX2_burnAll_1 rfl rfl ?_
  have loop : ∀ (z : Nat) (i : Int) (Tw' : Nat → Nat → Int → Int), 0 ≤ i → i ≤ m → (m - i).toNat = z → frT t Tw Tw' → (∀ k, 0 ≤ k → k < 5 → Tw' t 2 k = hIt (Tw t 1 5) (Tw t 3) (Tw t 4) w (Tw t 2) i.toNat k) → Tw' t 1 5 = Tw t 1 5 → Tw' t 3 = Tw t 3 → Tw' t 4 = Tw t 4 → (∀ o, 7 ≤ o → Tw' t o = Tw t o) → tOk (Tw' t) (B + 180 * i) →
      G none (d + 1) 2 false none 0 0 (hO S Tw M P).length cX2_burnAll Q 0 2 [some (.ref (tR t 1)), some (.int (iI m)), some (.int (iI w)), some (.int (iI i))] [] (hO S Tw' M P) := by
    intro z
    induction z with
    | zero =>
      intro i Tw' h0 h5 hz f1 f2 f3 f4 f5 f6 f7
      have hi : i = m := by omega
      subst hi
      refine g_l dX2_burnAll_2 rfl rfl ?_
      refine g_l dX2_burnAll_3 rfl rfl ?_
      refine g_icmp_ge (t := 18) dX2_burnAll_4 (by decide) rfl (by omega) (by omega) (fun c_4 => ?_) (fun c_4 => False.elim (by omega))
      refine g_retV dX2_burnAll_18 rfl rfl ?_
      exact hq _ f1 f2 f3 f4 f5 f6 f7
    | succ z ih =>
      intro i Tw' h0 h5 hz f1 f2 f3 f4 f5 f6 f7
      refine g_l dX2_burnAll_2 rfl rfl ?_
      refine g_l dX2_burnAll_3 rfl rfl ?_
      refine g_icmp_ge (t := 18) dX2_burnAll_4 (by decide) rfl (by omega) (by omega) (fun c_4 => False.elim (by omega)) (fun c_4 => ?_)
      refine g_l dX2_burnAll_7 rfl rfl ?_
      refine g_l dX2_burnAll_8 rfl rfl ?_
      refine g_callV dX2_burnAll_9 m_2_54 (n := 1) rfl (hT1 (by omega)) rfl (Nat.le_of_ble_eq_true rfl) (Nat.le_of_ble_eq_true rfl) rfl rfl ?_
      refine s_X2_burn ht (f7.k (by omega)) (fun Tw2 hb => ?_)
      simp only [Option.toList_some, Option.toList_none, List.cons_append, List.nil_append]
      refine g_iinc (loc' := [some _, some _, some _, some _]) dX2_burnAll_12 rfl rfl rfl ?_
      refine g_goto (t := 2) dX2_burnAll_15 (by decide) ?_
      have f7' := f7.burn hb hw
      obtain ⟨g1, g2, g3, g4, g5, g6, g7, g8, g9⟩ := hb
      refine ih (i + 1) Tw2 (by omega) (by omega) (by omega) (f1.tr g1) (fun k a b => ?_) (g5.trans f3) (g7.trans f4) (g8.trans f5) (fun o ho => (g9 o ho).trans (f6 o ho)) (by rw [show B + 180 * (i + 1) = B + 180 * i + 180 by omega]; exact f7')
      rw [g2 k a b, f3, f4, f5, show (i + 1).toNat = i.toNat + 1 by omega]
      exact nhF_congr hk.2.1 f2 k a b
  exact loop _ 0 Tw (by omega) hm.1 rfl frT.rf (fun k a b => rfl) rfl rfl rfl (fun o _ => rfl) (by rw [show B + 180 * 0 = B by omega]; exact hk)
theorem s_X2_blow {t : Nat} (ht : t < 19) (hk : kOk (Tw t)) (hq : ∀ Tw', frT t Tw Tw' → (∀ k, 0 ≤ k → k < 5 → Tw' t 2 k = blF (Tw t 1 5) (Tw t 2) k) → (∀ o, o ≠ 2 → Tw' t o = Tw t o) → Q none (hO S Tw' M P)) : CallD (d + 1) 23 [.ref (tR t 1)] (hO S Tw M P) Q := by
  obtain ⟨n1, n2, hk⟩ := hk
  refine g_enter (loc := [some _, _]) e_X2_blow i_X2_blow (Nat.le_of_ble_eq_true rfl) rfl ?_
  refine g_iconst dX2_blow_0 rfl ?_
  refine g_l (loc' := [some _, some _]) dX2_blow_1 rfl rfl ?_
  have loop : ∀ (m : Nat) (i : Int) (Tw' : Nat → Nat → Int → Int), 0 ≤ i → i ≤ Tw t 1 5 → (Tw t 1 5 - i).toNat = m → frT t Tw Tw' → (∀ k, Tw' t 2 k = if 0 ≤ k ∧ k < i then blF (Tw t 1 5) (Tw t 2) k else Tw t 2 k) → (∀ o, o ≠ 2 → Tw' t o = Tw t o) →
      G none d 2 false none 0 0 (hO S Tw M P).length cX2_blow Q 0 2 [some (.ref (tR t 1)), some (.int (iI i))] [] (hO S Tw' M P) := by
    intro m
    induction m with
    | zero =>
      intro i Tw' h0 h5 hm f1 f2 f3
      have e1 := congrFun (f3 1 (by decide)) 5
      refine g_l dX2_blow_2 rfl rfl ?_
      refine g_l dX2_blow_3 rfl rfl ?_
      refine g_getf dX2_blow_4 (hT1 (by omega)) f_2_27 rfl rfl ?_
      refine g_icmp_ge (t := 34) dX2_blow_7 (by decide) rfl (by omega) (by omega) (fun c_7 => ?_) (fun c_7 => False.elim (by omega))
      refine g_retV dX2_blow_34 rfl rfl ?_
      refine hq _ f1 (fun k a b => ?_) f3
      rw [f2]
      by_cases h : k < i
      · rw [if_pos ⟨a, h⟩]
      · rw [if_neg (by omega)]; unfold blF; rw [if_neg (by omega)]
    | succ m ih =>
      intro i Tw' h0 h5 hm f1 f2 f3
      have e1 := congrFun (f3 1 (by decide)) 5
      obtain ⟨b1, -, -⟩ := hk i h0 (by omega)
      have e2 : Tw' t 2 i = Tw t 2 i := by rw [f2, if_neg (by omega)]
      refine g_l dX2_blow_2 rfl rfl ?_
      refine g_l dX2_blow_3 rfl rfl ?_
      refine g_getf dX2_blow_4 (hT1 (by omega)) f_2_27 rfl rfl ?_
      refine g_icmp_ge (t := 34) dX2_blow_7 (by decide) rfl (by omega) (by omega) (fun c_7 => False.elim (by omega)) (fun c_7 => ?_)
      refine g_l dX2_blow_10 rfl rfl ?_
      refine g_getf dX2_blow_11 (hT1 (by omega)) f_2_9 rfl rfl ?_
      refine g_l dX2_blow_14 rfl rfl ?_
      refine g_s dX2_blow_15 rfl rfl rfl ?_
      refine g_iald dX2_blow_16 (hTa2 (by omega)) (by omega) (by decide) rfl ?_
      refine g_l dX2_blow_17 rfl rfl ?_
      refine g_getf dX2_blow_18 (hT1 (by omega)) f_2_9 rfl rfl ?_
      refine g_l dX2_blow_21 rfl rfl ?_
      refine g_iald dX2_blow_22 (hTa2 (by omega)) (by omega) (by decide) rfl ?_
      refine g_bipush dX2_blow_23 (by decide) rfl ?_
      refine g_idiv dX2_blow_25 (by omega) (by omega) rfl ?_
      refine g_isub dX2_blow_26 rfl ?_
      refine g_iast dX2_blow_27 (hTa2 (by omega)) (by omega) (by decide) (pTa2 (by omega)) rfl ?_
      refine g_iinc (loc' := [some _, some _]) dX2_blow_28 rfl rfl rfl ?_
      refine g_goto (t := 2) dX2_blow_31 (by decide) ?_
      refine ih (i + 1) _ (by omega) (by omega) (by omega) f1.w (fun k => ?_) (fun o ho => ?_)
      · rw [wT_s]
        by_cases h : k = i
        · subst h
          rw [if_pos rfl, if_pos (by omega), e2]
          unfold blF
          rw [if_pos (by omega)]
        · rw [if_neg h, f2]
          by_cases h2 : 0 ≤ k ∧ k < i
          · rw [if_pos h2, if_pos (by omega)]
          · rw [if_neg h2, if_neg (by omega)]
      · rw [wT_o ho, f3 o ho]
  exact loop _ 0 Tw (by omega) (by omega) rfl frT.rf (fun k => by rw [if_neg (by omega)]) (fun o _ => rfl)
/-- build: out of the reading -/
theorem s_X2_build {t : Nat} (ht : t < 19) (hq : ∀ Tw', frT t Tw Tw' → (∀ k, 0 ≤ k → k < 5 → Tw' t 2 k = 0) → Tw' t 3 = S 4 → Tw' t 4 = S 5 → Tw' t 1 5 = S 3 3 → Tw' t 1 6 = 0 → (∀ o, 5 ≤ o → Tw' t o = Tw t o) → Q none (hO S Tw' M P)) : CallD (d + 2) 17 [.ref (tR t 1), .ref 3] (hO S Tw M P) Q := by
  refine g_enter (loc := [some _, some _]) e_X2_build i_X2_build (Nat.le_of_ble_eq_true rfl) rfl ?_
  refine g_l dX2_build_0 rfl rfl ?_
  refine g_l dX2_build_1 rfl rfl ?_
  refine g_getf dX2_build_2 h3 f_2_31 rfl rfl ?_
  refine g_putf dX2_build_5 (hT1 (by omega)) f_2_27 (Nat.le_of_ble_eq_true rfl) rfl rfl (pT1_5 (by omega)) rfl ?_
  refine g_l dX2_build_8 rfl rfl ?_
  refine g_iconst dX2_build_9 rfl ?_
  refine g_putf dX2_build_10 (hT1 (by omega)) f_2_36 (Nat.le_of_ble_eq_true rfl) rfl rfl (pT1_6 (by omega)) rfl ?_
  refine g_l dX2_build_13 rfl rfl ?_
  refine g_callV dX2_build_14 m_2_39 (n := 0) rfl (hT1 (by omega)) rfl (Nat.le_of_ble_eq_true rfl) (Nat.le_of_ble_eq_true rfl) rfl rfl ?_
  refine s_X2_cool ht (fun Tw' f1 f2 f3 => ?_)
  simp only [Option.toList_some, Option.toList_none, List.cons_append, List.nil_append]
  refine g_l dX2_build_17 rfl rfl ?_
  refine g_getf dX2_build_18 h3 f_2_42 rfl rfl ?_
  refine g_iconst dX2_build_21 rfl ?_
  refine g_l dX2_build_22 rfl rfl ?_
  refine g_getf dX2_build_23 (hT1 (by omega)) f_2_15 rfl rfl ?_
  refine g_iconst dX2_build_26 rfl ?_
  refine g_iconst dX2_build_27 rfl ?_
  refine g_copy dX2_build_28 ac_2_43 h4 (hTa3 (by omega)) rfl (by decide) (qTa3 (by omega)) (Nat.le_of_ble_eq_true rfl) rfl ?_
  refine g_l dX2_build_31 rfl rfl ?_
  refine g_getf dX2_build_32 h3 f_2_49 rfl rfl ?_
  refine g_iconst dX2_build_35 rfl ?_
  refine g_l dX2_build_36 rfl rfl ?_
  refine g_getf dX2_build_37 (hT1 (by omega)) f_2_18 rfl rfl ?_
  refine g_iconst dX2_build_40 rfl ?_
  refine g_iconst dX2_build_41 rfl ?_
  refine g_copy dX2_build_42 ac_2_43 h5 (hTa4 (by omega)) rfl (by decide) (qTa4 (by omega)) (Nat.le_of_ble_eq_true rfl) rfl ?_
  refine g_retV dX2_build_45 rfl rfl ?_
  refine hq _ (frT.rf.w.w.tr f1).r.r (fun k a b => ?_) ?_ ?_ ?_ ?_ (fun o ho => ?_)
  · rw [rT_o (by decide), rT_o (by decide), f2 k a b]
  · rw [rT_o (by decide), rT_s]
  · rw [rT_s]
  · rw [rT_o (by decide), rT_o (by decide), f3 1 (by decide), wT_s, if_neg (by decide), wT_e]
  · rw [rT_o (by decide), rT_o (by decide), f3 1 (by decide), wT_e]
  · rw [rT_o (by omega), rT_o (by omega), f3 o (by omega), wT_o (by omega), wT_o (by omega)]
end KI
