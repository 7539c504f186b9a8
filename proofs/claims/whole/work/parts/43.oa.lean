/-! OvensAbove's own methods: the answer and what is behind it -/
section OA
variable {S : Nat → Int → Int} {Tw : Nat → Nat → Int → Int} {M : Nat → Int → Int} {P : Nat → Nat} {d : Nat} {Q : Option Value → GH → Prop}
theorem s_X11_isWood {w : Int} (hw : R32 w) (hy : 0 ≤ w ∧ w ≤ 9 → Q (some (.int (iI 1))) (hO S Tw M P)) (hn : ¬ (0 ≤ w ∧ w ≤ 9) → Q (some (.int (iI 0))) (hO S Tw M P)) : CallD (d + 1) 109 [.int (iI w)] (hO S Tw M P) Q := by
  refine g_enter (loc := [some _]) e_X11_isWood i_X11_isWood (Nat.le_of_ble_eq_true rfl) rfl ?_
  refine g_l dX11_isWood_0 rfl rfl ?_
  refine g_if_lt (t := 14) dX11_isWood_1 (by decide) rfl (by omega) (fun c_1 => ?_) (fun c_1 => ?_)
  · refine g_iconst dX11_isWood_14 rfl ?_
    refine g_retZ dX11_isWood_15 rfl rfl (by omega) ?_
    exact hn (by omega)
  · refine g_l dX11_isWood_4 rfl rfl ?_
    refine g_bipush dX11_isWood_5 (by decide) rfl ?_
    refine g_icmp_gt (t := 14) dX11_isWood_7 (by decide) rfl (by omega) (by omega) (fun c_7 => ?_) (fun c_7 => ?_)
    · refine g_iconst dX11_isWood_14 rfl ?_
      refine g_retZ dX11_isWood_15 rfl rfl (by omega) ?_
      exact hn (by omega)
    · refine g_iconst dX11_isWood_10 rfl ?_
      refine g_goto (t := 15) dX11_isWood_11 (by decide) ?_
      refine g_retZ dX11_isWood_15 rfl rfl (by omega) ?_
      exact hy (by omega)
theorem s_X11_isSpan {n m : Int} (hw : R32 n) (hm : R32 m) (hy : 1 ≤ n ∧ n ≤ m → Q (some (.int (iI 1))) (hO S Tw M P)) (hn : ¬ (1 ≤ n ∧ n ≤ m) → Q (some (.int (iI 0))) (hO S Tw M P)) : CallD (d + 1) 110 [.int (iI n), .int (iI m)] (hO S Tw M P) Q := by
  refine g_enter (loc := [some _, some _]) e_X11_isSpan i_X11_isSpan (Nat.le_of_ble_eq_true rfl) rfl ?_
  refine g_l dX11_isSpan_0 rfl rfl ?_
  refine g_iconst dX11_isSpan_1 rfl ?_
  refine g_icmp_lt (t := 14) dX11_isSpan_2 (by decide) rfl (by omega) (by omega) (fun c_2 => ?_) (fun c_2 => ?_)
  · refine g_iconst dX11_isSpan_14 rfl ?_
    refine g_retZ dX11_isSpan_15 rfl rfl (by omega) ?_
    exact hn (by omega)
  · refine g_l dX11_isSpan_5 rfl rfl ?_
    refine g_l dX11_isSpan_6 rfl rfl ?_
    refine g_icmp_gt (t := 14) dX11_isSpan_7 (by decide) rfl (by omega) (by omega) (fun c_7 => ?_) (fun c_7 => ?_)
    · refine g_iconst dX11_isSpan_14 rfl ?_
      refine g_retZ dX11_isSpan_15 rfl rfl (by omega) ?_
      exact hn (by omega)
    · refine g_iconst dX11_isSpan_10 rfl ?_
      refine g_goto (t := 15) dX11_isSpan_11 (by decide) ?_
      refine g_retZ dX11_isSpan_15 rfl rfl (by omega) ?_
      exact hy (by omega)
theorem s_X11_write {n : Int} {v : Int64} (hn : R32 n) (hx : 0 ≤ S 1 1 ∧ S 1 1 ≤ 64) (q1 : ¬ (1 ≤ n ∧ n ≤ 8) → Q (some (.int (iI (-2)))) (hO S Tw M P)) (q2 : 1 ≤ n ∧ n ≤ 8 → 64 < S 1 1 + n → Q (some (.int (iI (-4)))) (hO S Tw M P))
    (q3 : 1 ≤ n ∧ n ≤ 8 → S 1 1 + n ≤ 64 → ∀ S', (∀ c, c ≠ 1 → c ≠ 2 → S' c = S c) → (∀ j, j ≠ 1 → S' 1 j = S 1 j) → S' 1 1 = (apL v n.toNat (S 1 1) (S 2)).1 → S' 2 = (apL v n.toNat (S 1 1) (S 2)).2 → Q (some (.int (iI (S' 1 1)))) (hO S' Tw M P)) : CallD (d + 2) 83 [.ref 0, .int (iI n), .long v] (hO S Tw M P) Q := by
  refine g_enter (loc := [some _, some _, some _, _]) e_X11_write i_X11_write (Nat.le_of_ble_eq_true rfl) rfl ?_
  refine g_l dX11_write_0 rfl rfl ?_
  refine g_iconst dX11_write_1 rfl ?_
  refine g_icmp_lt (t := 11) dX11_write_2 (by decide) rfl (by omega) (by omega) (fun c_2 => ?_) (fun c_2 => ?_)
  · refine g_bipush dX11_write_11 (by decide) rfl ?_
    refine g_retI dX11_write_13 rfl rfl ?_
    exact q1 (by omega)
  · refine g_l dX11_write_5 rfl rfl ?_
    refine g_bipush dX11_write_6 (by decide) rfl ?_
    refine g_icmp_le (t := 14) dX11_write_8 (by decide) rfl (by omega) (by omega) (fun c_8 => ?_) (fun c_8 => ?_)
    · refine g_l dX11_write_14 rfl rfl ?_
      refine g_getf dX11_write_15 h0 f_11_10 rfl rfl ?_
      refine g_l dX11_write_18 rfl rfl ?_
      refine g_callV dX11_write_19 m_11_92 (n := 1) rfl h1 rfl (Nat.le_of_ble_eq_true rfl) (Nat.le_of_ble_eq_true rfl) rfl rfl ?_
      refine s_X7_hasRoomFor hx (by omega) (fun z => ?_) (fun z => ?_)
      · simp only [Option.toList_some, Option.toList_none, List.cons_append, List.nil_append]
        refine g_if_ne (t := 28) dX11_write_22 (by decide) rfl (by omega) (fun c_22 => ?_) (fun c_22 => False.elim (by omega))
        refine g_l dX11_write_28 rfl rfl ?_
        refine g_getf dX11_write_29 h0 f_11_10 rfl rfl ?_
        refine g_l dX11_write_32 rfl rfl ?_
        refine g_l dX11_write_33 rfl rfl ?_
        refine g_callV dX11_write_34 m_11_96 (n := 2) rfl h1 rfl (Nat.le_of_ble_eq_true rfl) (Nat.le_of_ble_eq_true rfl) rfl rfl ?_
        refine s_X7_append hx (by omega) (fun S' a1 a2 a3 a4 => ?_)
        simp only [Option.toList_some, Option.toList_none, List.cons_append, List.nil_append]
        refine g_retI dX11_write_37 rfl rfl ?_
        exact q3 (by omega) z S' a1 a2 a3 a4
      · simp only [Option.toList_some, Option.toList_none, List.cons_append, List.nil_append]
        refine g_if_ne (t := 28) dX11_write_22 (by decide) rfl (by omega) (fun c_22 => False.elim (by omega)) (fun c_22 => ?_)
        refine g_bipush dX11_write_25 (by decide) rfl ?_
        refine g_retI dX11_write_27 rfl rfl ?_
        exact q2 (by omega) z
    · refine g_bipush dX11_write_11 (by decide) rfl ?_
      refine g_retI dX11_write_13 rfl rfl ?_
      exact q1 (by omega)
theorem s_X11_wipe (hq : Q (some (.int (iI (S 1 1)))) (hO (wS S 1 1 0) Tw M P)) : CallD (d + 2) 84 [.ref 0] (hO S Tw M P) Q := by
  refine g_enter (loc := [some _]) e_X11_wipe i_X11_wipe (Nat.le_of_ble_eq_true rfl) rfl ?_
  refine g_l dX11_wipe_0 rfl rfl ?_
  refine g_getf dX11_wipe_1 h0 f_11_10 rfl rfl ?_
  refine g_callV dX11_wipe_4 m_11_100 (n := 0) rfl h1 rfl (Nat.le_of_ble_eq_true rfl) (Nat.le_of_ble_eq_true rfl) rfl rfl ?_
  refine s_X7_clear ?_
  simp only [Option.toList_some, Option.toList_none, List.cons_append, List.nil_append]
  refine g_retI dX11_wipe_7 rfl rfl ?_
  exact hq
/-- the fault of the text; what is read -/
def fltF (S : Nat → Int → Int) (S' : Nat → Int → Int) : Int := if byF (S 1 1) (S 2) 0 = 75 then (if 2 ≤ dgF (S 1 1) (S 2) 1 ∧ dgF (S 1 1) (S 2) 1 ≤ 5 then (prL (S 1 1) (S 2) 11 2 S').1 else 1) else 0
theorem s_X11_fault (hx : xOk (S 1 1) (S 2)) (q0 : byF (S 1 1) (S 2) 0 ≠ 75 → Q (some (.int (iI 0))) (hO S Tw M P)) (q1 : byF (S 1 1) (S 2) 0 = 75 → ¬ (2 ≤ dgF (S 1 1) (S 2) 1 ∧ dgF (S 1 1) (S 2) 1 ≤ 5) → Q (some (.int (iI 1))) (hO S Tw M P))
    (q2 : byF (S 1 1) (S 2) 0 = 75 → 2 ≤ dgF (S 1 1) (S 2) 1 ∧ dgF (S 1 1) (S 2) 1 ≤ 5 → ∀ S', frR S S' → rd0 (dgF (S 1 1) (S 2) 1) S' → Q (some (.int (iI (prL (S 1 1) (S 2) 11 2 S').1))) (hO (prL (S 1 1) (S 2) 11 2 S').2 Tw M P)) : CallD (d + 6) 85 [.ref 0] (hO S Tw M P) Q := by
  refine g_enter (loc := [some _]) e_X11_fault i_X11_fault (Nat.le_of_ble_eq_true rfl) rfl ?_
  refine g_l dX11_fault_0 rfl rfl ?_
  refine g_getf dX11_fault_1 h0 f_11_19 rfl rfl ?_
  refine g_l dX11_fault_4 rfl rfl ?_
  refine g_getf dX11_fault_5 h0 f_11_10 rfl rfl ?_
  refine g_callV dX11_fault_8 m_11_104 (n := 1) rfl h3 rfl (Nat.le_of_ble_eq_true rfl) (Nat.le_of_ble_eq_true rfl) rfl rfl ?_
  refine s_X5_read hx (fun z => ?_) (fun z y => ?_) (fun z y S' a1 a2 => ?_)
  · simp only [Option.toList_some, Option.toList_none, List.cons_append, List.nil_append]
    refine g_retI dX11_fault_11 rfl rfl ?_
    exact q0 z
  · simp only [Option.toList_some, Option.toList_none, List.cons_append, List.nil_append]
    refine g_retI dX11_fault_11 rfl rfl ?_
    exact q1 z y
  · simp only [Option.toList_some, Option.toList_none, List.cons_append, List.nil_append]
    have h := q2 z y S' a1 a2
    generalize prL (S 1 1) (S 2) 11 2 S' = g at h ⊢
    refine g_retI dX11_fault_11 rfl rfl ?_
    exact h
theorem s_X11_open {k s B : Int} (hk : R32 k) (hs : R32 s) (ht : tOk (Tw 0) B) (q1 : ¬ (0 ≤ k ∧ k < Tw 0 1 5) → Q (some (.int (iI (-1)))) (hO S Tw M P)) (q2 : 0 ≤ k ∧ k < Tw 0 1 5 → ¬ (0 ≤ s ∧ s ≤ 10 - Tw 0 4 k) → Q (some (.int (iI (-2)))) (hO S Tw M P)) (q3 : 0 ≤ k ∧ k < Tw 0 1 5 → 0 ≤ s ∧ s ≤ 10 - Tw 0 4 k → Q (some (.int (iI (Tw 0 3 k)))) (hO S (wT Tw 0 3 k s) M P)) : CallD (d + 2) 90 [.ref 0, .int (iI k), .int (iI s)] (hO S Tw M P) Q := by
  obtain ⟨t1, t2, t3, t4⟩ := ht
  refine g_enter (loc := [some _, some _, some _, _]) e_X11_open i_X11_open (Nat.le_of_ble_eq_true rfl) rfl ?_
  refine g_l dX11_open_0 rfl rfl ?_
  refine g_getf dX11_open_1 h0 f_11_35 rfl rfl ?_
  refine g_getf dX11_open_4 (hT0 (by omega)) f_11_56 rfl rfl ?_
  refine g_l dX11_open_7 rfl rfl ?_
  refine g_callV dX11_open_8 m_11_147 (n := 1) rfl (hT1 (by omega)) rfl (Nat.le_of_ble_eq_true rfl) (Nat.le_of_ble_eq_true rfl) rfl rfl ?_
  refine s_X2_isThere (t := 0) (by decide) hk (by omega) (fun z => ?_) (fun z => ?_)
  · have := t3 k z.1 (by omega)
    simp only [Option.toList_some, Option.toList_none, List.cons_append, List.nil_append]
    refine g_if_ne (t := 16) dX11_open_11 (by decide) rfl (by omega) (fun c_11 => ?_) (fun c_11 => False.elim (by omega))
    refine g_l dX11_open_16 rfl rfl ?_
    refine g_if_lt (t := 39) dX11_open_17 (by decide) rfl (by omega) (fun c_17 => ?_) (fun c_17 => ?_)
    · refine g_bipush dX11_open_39 (by decide) rfl ?_
      refine g_retI dX11_open_41 rfl rfl ?_
      exact q2 z (by omega)
    · refine g_l dX11_open_20 rfl rfl ?_
      refine g_bipush dX11_open_21 (by decide) rfl ?_
      refine g_l dX11_open_23 rfl rfl ?_
      refine g_getf dX11_open_24 h0 f_11_35 rfl rfl ?_
      refine g_getf dX11_open_27 (hT0 (by omega)) f_11_56 rfl rfl ?_
      refine g_getf dX11_open_30 (hT1 (by omega)) f_11_157 rfl rfl ?_
      refine g_l dX11_open_33 rfl rfl ?_
      refine g_iald dX11_open_34 (hTa4 (by omega)) (by omega) (by decide) rfl ?_
      refine g_isub dX11_open_35 rfl ?_
      refine g_icmp_le (t := 42) dX11_open_36 (by decide) rfl (by omega) (by omega) (fun c_36 => ?_) (fun c_36 => ?_)
      · refine g_l dX11_open_42 rfl rfl ?_
        refine g_getf dX11_open_43 h0 f_11_35 rfl rfl ?_
        refine g_getf dX11_open_46 (hT0 (by omega)) f_11_56 rfl rfl ?_
        refine g_getf dX11_open_49 (hT1 (by omega)) f_11_154 rfl rfl ?_
        refine g_l dX11_open_52 rfl rfl ?_
        refine g_iald dX11_open_53 (hTa3 (by omega)) (by omega) (by decide) rfl ?_
        refine g_l (loc' := [some _, some _, some _, some _]) dX11_open_54 rfl rfl ?_
        refine g_l dX11_open_55 rfl rfl ?_
        refine g_getf dX11_open_56 h0 f_11_35 rfl rfl ?_
        refine g_getf dX11_open_59 (hT0 (by omega)) f_11_56 rfl rfl ?_
        refine g_getf dX11_open_62 (hT1 (by omega)) f_11_154 rfl rfl ?_
        refine g_l dX11_open_65 rfl rfl ?_
        refine g_l dX11_open_66 rfl rfl ?_
        refine g_iast dX11_open_67 (hTa3 (by omega)) (by omega) (by decide) (pTa3 (by omega)) rfl ?_
        refine g_l dX11_open_68 rfl rfl ?_
        refine g_retI dX11_open_69 rfl rfl ?_
        exact q3 z (by omega)
      · refine g_bipush dX11_open_39 (by decide) rfl ?_
        refine g_retI dX11_open_41 rfl rfl ?_
        exact q2 z (by omega)
  · simp only [Option.toList_some, Option.toList_none, List.cons_append, List.nil_append]
    refine g_if_ne (t := 16) dX11_open_11 (by decide) rfl (by omega) (fun c_11 => False.elim (by omega)) (fun c_11 => ?_)
    refine g_iconst dX11_open_14 rfl ?_
    refine g_retI dX11_open_15 rfl rfl ?_
    exact q1 (by omega)
theorem s_X11_damp {k s B : Int} (hk : R32 k) (hs : R32 s) (ht : tOk (Tw 0) B) (q1 : ¬ (0 ≤ k ∧ k < Tw 0 1 5) → Q (some (.int (iI (-1)))) (hO S Tw M P)) (q2 : 0 ≤ k ∧ k < Tw 0 1 5 → ¬ (0 ≤ s ∧ s ≤ 10 - Tw 0 3 k) → Q (some (.int (iI (-2)))) (hO S Tw M P)) (q3 : 0 ≤ k ∧ k < Tw 0 1 5 → 0 ≤ s ∧ s ≤ 10 - Tw 0 3 k → Q (some (.int (iI (Tw 0 4 k)))) (hO S (wT Tw 0 4 k s) M P)) : CallD (d + 2) 91 [.ref 0, .int (iI k), .int (iI s)] (hO S Tw M P) Q := by
  obtain ⟨t1, t2, t3, t4⟩ := ht
  refine g_enter (loc := [some _, some _, some _, _]) e_X11_damp i_X11_damp (Nat.le_of_ble_eq_true rfl) rfl ?_
  refine g_l dX11_damp_0 rfl rfl ?_
  refine g_getf dX11_damp_1 h0 f_11_35 rfl rfl ?_
  refine g_getf dX11_damp_4 (hT0 (by omega)) f_11_56 rfl rfl ?_
  refine g_l dX11_damp_7 rfl rfl ?_
  refine g_callV dX11_damp_8 m_11_147 (n := 1) rfl (hT1 (by omega)) rfl (Nat.le_of_ble_eq_true rfl) (Nat.le_of_ble_eq_true rfl) rfl rfl ?_
  refine s_X2_isThere (t := 0) (by decide) hk (by omega) (fun z => ?_) (fun z => ?_)
  · have := t3 k z.1 (by omega)
    simp only [Option.toList_some, Option.toList_none, List.cons_append, List.nil_append]
    refine g_if_ne (t := 16) dX11_damp_11 (by decide) rfl (by omega) (fun c_11 => ?_) (fun c_11 => False.elim (by omega))
    refine g_l dX11_damp_16 rfl rfl ?_
    refine g_if_lt (t := 39) dX11_damp_17 (by decide) rfl (by omega) (fun c_17 => ?_) (fun c_17 => ?_)
    · refine g_bipush dX11_damp_39 (by decide) rfl ?_
      refine g_retI dX11_damp_41 rfl rfl ?_
      exact q2 z (by omega)
    · refine g_l dX11_damp_20 rfl rfl ?_
      refine g_bipush dX11_damp_21 (by decide) rfl ?_
      refine g_l dX11_damp_23 rfl rfl ?_
      refine g_getf dX11_damp_24 h0 f_11_35 rfl rfl ?_
      refine g_getf dX11_damp_27 (hT0 (by omega)) f_11_56 rfl rfl ?_
      refine g_getf dX11_damp_30 (hT1 (by omega)) f_11_154 rfl rfl ?_
      refine g_l dX11_damp_33 rfl rfl ?_
      refine g_iald dX11_damp_34 (hTa3 (by omega)) (by omega) (by decide) rfl ?_
      refine g_isub dX11_damp_35 rfl ?_
      refine g_icmp_le (t := 42) dX11_damp_36 (by decide) rfl (by omega) (by omega) (fun c_36 => ?_) (fun c_36 => ?_)
      · refine g_l dX11_damp_42 rfl rfl ?_
        refine g_getf dX11_damp_43 h0 f_11_35 rfl rfl ?_
        refine g_getf dX11_damp_46 (hT0 (by omega)) f_11_56 rfl rfl ?_
        refine g_getf dX11_damp_49 (hT1 (by omega)) f_11_157 rfl rfl ?_
        refine g_l dX11_damp_52 rfl rfl ?_
        refine g_iald dX11_damp_53 (hTa4 (by omega)) (by omega) (by decide) rfl ?_
        refine g_l (loc' := [some _, some _, some _, some _]) dX11_damp_54 rfl rfl ?_
        refine g_l dX11_damp_55 rfl rfl ?_
        refine g_getf dX11_damp_56 h0 f_11_35 rfl rfl ?_
        refine g_getf dX11_damp_59 (hT0 (by omega)) f_11_56 rfl rfl ?_
        refine g_getf dX11_damp_62 (hT1 (by omega)) f_11_157 rfl rfl ?_
        refine g_l dX11_damp_65 rfl rfl ?_
        refine g_l dX11_damp_66 rfl rfl ?_
        refine g_iast dX11_damp_67 (hTa4 (by omega)) (by omega) (by decide) (pTa4 (by omega)) rfl ?_
        refine g_l dX11_damp_68 rfl rfl ?_
        refine g_retI dX11_damp_69 rfl rfl ?_
        exact q3 z (by omega)
      · refine g_bipush dX11_damp_39 (by decide) rfl ?_
        refine g_retI dX11_damp_41 rfl rfl ?_
        exact q2 z (by omega)
  · simp only [Option.toList_some, Option.toList_none, List.cons_append, List.nil_append]
    refine g_if_ne (t := 16) dX11_damp_11 (by decide) rfl (by omega) (fun c_11 => False.elim (by omega)) (fun c_11 => ?_)
    refine g_iconst dX11_damp_14 rfl ?_
    refine g_retI dX11_damp_15 rfl rfl ?_
    exact q1 (by omega)
theorem s_X11_put {p k : Int} (hp : R32 p) (hk : R32 k) (hc : 0 ≤ S 13 5 ∧ S 13 5 ≤ 5) (ht : 2 ≤ Tw 0 1 5 ∧ Tw 0 1 5 ≤ 5) (hr : ∀ i, 0 ≤ i → i < S 13 5 → R32 (Tw 0 10 i)) (q1 : ¬ ((0 ≤ p ∧ p < S 13 5) ∧ 0 ≤ k ∧ k < Tw 0 1 5) → Q (some (.int (iI (-1)))) (hO S Tw M P)) (q2 : 0 ≤ p ∧ p < S 13 5 → 0 ≤ k ∧ k < Tw 0 1 5 → ¬ Tw 0 10 p = 0 → Q (some (.int (iI (-3)))) (hO S Tw M P))
    (q3 : 0 ≤ p ∧ p < S 13 5 → 0 ≤ k ∧ k < Tw 0 1 5 → Tw 0 10 p = 0 → Q (some (.int (iI (Tw 0 8 p)))) (hO S (wT Tw 0 8 p k) M P)) : CallD (d + 2) 92 [.ref 0, .int (iI p), .int (iI k)] (hO S Tw M P) Q := by
  refine g_enter (loc := [some _, some _, some _, _]) e_X11_put i_X11_put (Nat.le_of_ble_eq_true rfl) rfl ?_
  refine g_l dX11_put_0 rfl rfl ?_
  refine g_getf dX11_put_1 h0 f_11_26 rfl rfl ?_
  refine g_l dX11_put_4 rfl rfl ?_
  refine g_callV dX11_put_5 m_11_163 (n := 1) rfl h13 rfl (Nat.le_of_ble_eq_true rfl) (Nat.le_of_ble_eq_true rfl) rfl rfl ?_
  refine s_X8_isThere hp (by omega) (fun z => ?_) (fun z => ?_)
  · have := hr p z.1 z.2
    simp only [Option.toList_some, Option.toList_none, List.cons_append, List.nil_append]
    refine g_if_eq (t := 25) dX11_put_8 (by decide) rfl (by omega) (fun c_8 => False.elim (by omega)) (fun c_8 => ?_)
    refine g_l dX11_put_11 rfl rfl ?_
    refine g_getf dX11_put_12 h0 f_11_35 rfl rfl ?_
    refine g_getf dX11_put_15 (hT0 (by omega)) f_11_56 rfl rfl ?_
    refine g_l dX11_put_18 rfl rfl ?_
    refine g_callV dX11_put_19 m_11_147 (n := 1) rfl (hT1 (by omega)) rfl (Nat.le_of_ble_eq_true rfl) (Nat.le_of_ble_eq_true rfl) rfl rfl ?_
    refine s_X2_isThere (t := 0) (by decide) hk (by omega) (fun y => ?_) (fun y => ?_)
    · simp only [Option.toList_some, Option.toList_none, List.cons_append, List.nil_append]
      refine g_if_ne (t := 27) dX11_put_22 (by decide) rfl (by omega) (fun c_22 => ?_) (fun c_22 => False.elim (by omega))
      refine g_l dX11_put_27 rfl rfl ?_
      refine g_getf dX11_put_28 h0 f_11_35 rfl rfl ?_
      refine g_getf dX11_put_31 (hT0 (by omega)) f_11_134 rfl rfl ?_
      refine g_getf dX11_put_34 (hT7 (by omega)) f_11_185 rfl rfl ?_
      refine g_l dX11_put_37 rfl rfl ?_
      refine g_iald dX11_put_38 (hTa10 (by omega)) (by omega) (by decide) rfl ?_
      refine g_if_eq (t := 45) dX11_put_39 (by decide) rfl (by omega) (fun c_39 => ?_) (fun c_39 => ?_)
      · refine g_l dX11_put_45 rfl rfl ?_
        refine g_getf dX11_put_46 h0 f_11_35 rfl rfl ?_
        refine g_getf dX11_put_49 (hT0 (by omega)) f_11_134 rfl rfl ?_
        refine g_getf dX11_put_52 (hT7 (by omega)) f_11_164 rfl rfl ?_
        refine g_l dX11_put_55 rfl rfl ?_
        refine g_iald dX11_put_56 (hTa8 (by omega)) (by omega) (by decide) rfl ?_
        refine g_l (loc' := [some _, some _, some _, some _]) dX11_put_57 rfl rfl ?_
        refine g_l dX11_put_58 rfl rfl ?_
        refine g_getf dX11_put_59 h0 f_11_35 rfl rfl ?_
        refine g_getf dX11_put_62 (hT0 (by omega)) f_11_134 rfl rfl ?_
        refine g_getf dX11_put_65 (hT7 (by omega)) f_11_164 rfl rfl ?_
        refine g_l dX11_put_68 rfl rfl ?_
        refine g_l dX11_put_69 rfl rfl ?_
        refine g_iast dX11_put_70 (hTa8 (by omega)) (by omega) (by decide) (pTa8 (by omega)) rfl ?_
        refine g_l dX11_put_71 rfl rfl ?_
        refine g_retI dX11_put_72 rfl rfl ?_
        exact q3 z y (by omega)
      · refine g_bipush dX11_put_42 (by decide) rfl ?_
        refine g_retI dX11_put_44 rfl rfl ?_
        exact q2 z y (by omega)
    · simp only [Option.toList_some, Option.toList_none, List.cons_append, List.nil_append]
      refine g_if_ne (t := 27) dX11_put_22 (by decide) rfl (by omega) (fun c_22 => False.elim (by omega)) (fun c_22 => ?_)
      refine g_iconst dX11_put_25 rfl ?_
      refine g_retI dX11_put_26 rfl rfl ?_
      exact q1 (by omega)
  · simp only [Option.toList_some, Option.toList_none, List.cons_append, List.nil_append]
    refine g_if_eq (t := 25) dX11_put_8 (by decide) rfl (by omega) (fun c_8 => ?_) (fun c_8 => False.elim (by omega))
    refine g_iconst dX11_put_25 rfl ?_
    refine g_retI dX11_put_26 rfl rfl ?_
    exact q1 (by omega)
end OA
