/-! leastAt, tower -/
theorem wdL_in {F : Int → Int × (Int → Int) → Int × (Int → Int)} (h : ∀ v Lb, 0 ≤ v → 0 ≤ Lb.1 ∧ Lb.1 ≤ 28 → 0 ≤ (F v Lb).1 ∧ (F v Lb).1 ≤ 28) : ∀ (m : Nat) (w : Int) (Lb : Int × (Int → Int)), 0 ≤ w → 0 ≤ Lb.1 ∧ Lb.1 ≤ 28 → 0 ≤ (wdL F m w Lb).1 ∧ (wdL F m w Lb).1 ≤ 28
  | 0, _, _, _, g => g
  | m + 1, w, Lb, hw, g => by
    rw [wdL]
    exact wdL_in h m (w + 1) _ (by omega) (h w Lb hw g)
theorem wdS_in {S : Nat → Int → Int} {x : Int} : ∀ (r : Nat) (X : Nat → Int → Int) (used : Int) (g : Int → Int) (f : Int) (Lb : Int × (Int → Int)), 0 ≤ used → 0 ≤ Lb.1 ∧ Lb.1 ≤ 28 → 0 ≤ (wdS S x r X used g f Lb).1 ∧ (wdS S x r X used g f Lb).1 ≤ 28
  | 0, X, used, g, f, Lb, hu, h => by
    rw [wdS]
    split
    · rename_i c
      have := c.2
      show 0 ≤ used ∧ used ≤ 28
      omega
    · exact h
  | r + 1, X, used, g, f, Lb, hu, h => by
    rw [wdS]
    exact wdL_in (fun v Lb hv hb => wdS_in r _ _ _ _ _ (by omega) hb) 10 0 Lb (by omega) h
theorem lwF_in {S : Nat → Int → Int} {x : Int} {n : Nat} {X : Nat → Int → Int} {b : Int → Int} : -9 ≤ lwF S x n X b ∧ lwF S x n X b ≤ 28 := by
  have := wdS_in (S := S) (x := x) n X 0 (fun _ => 0) 0 (28, b) (by omega) ⟨by show (0 : Int) ≤ 28; decide, by show (28 : Int) ≤ 28; decide⟩
  unfold lwF
  split <;> omega
section OE
variable {S : Nat → Int → Int} {Tw : Nat → Nat → Int → Int} {M : Nat → Int → Int} {P : Nat → Nat} {d : Nat} {Q : Option Value → GH → Prop}
theorem s_X11_leastAt {x n i B : Int} (hx : R32 x) (hn : R32 n) (hi : R32 i) (hp : pOk S) (ht : twOk S (Tw 0) B) (hB : B ≤ 800000) (q1 : ¬ ((0 ≤ x ∧ x < bShl 1 (S 13 5)) ∧ 1 ≤ n ∧ n ≤ 3) → Q (some (.int (iI (-2)))) (hO S Tw M P))
    (q0 : (0 ≤ x ∧ x < bShl 1 (S 13 5)) ∧ 1 ≤ n ∧ n ≤ 3 → ¬ (0 ≤ i ∧ i < n) → Q (some (.int (iI (-9)))) (hO S Tw M P))
    (q2 : (0 ≤ x ∧ x < bShl 1 (S 13 5)) ∧ 1 ≤ n ∧ n ≤ 3 → 0 ≤ i ∧ i < n → ∀ S' Tw', frW S S' → (∀ v, v < 16 → Tw' v = Tw v) → Q (some (.int (iI (if lwF S x n.toNat (Tw 0) (S 207) = -9 then -9 else (wdS S x n.toNat (Tw 0) 0 (fun _ => 0) 0 (28, S 207)).2 i)))) (hO S' Tw' M P)) : CallD (d + 11) 98 [.ref 0, .int (iI x), .int (iI n), .int (iI i)] (hO S Tw M P) Q := by
  refine g_enter (loc := [some _, some _, some _, some _]) e_X11_leastAt i_X11_leastAt (Nat.le_of_ble_eq_true rfl) rfl ?_
  refine g_l dX11_leastAt_0 rfl rfl ?_
  refine g_getf dX11_leastAt_1 h0 f_11_26 rfl rfl ?_
  refine g_l dX11_leastAt_4 rfl rfl ?_
  refine g_callV dX11_leastAt_5 m_11_212 (n := 1) rfl h13 rfl (Nat.le_of_ble_eq_true rfl) (Nat.le_of_ble_eq_true rfl) rfl rfl ?_
  refine s_X8_isSet hx (fun z => ?_) (fun z => ?_)
  · simp only [Option.toList_some, Option.toList_none, List.cons_append, List.nil_append]
    refine g_if_eq (t := 19) dX11_leastAt_8 (by decide) rfl (by omega) (fun c_8 => False.elim (by omega)) (fun c_8 => ?_)
    refine g_l dX11_leastAt_11 rfl rfl ?_
    refine g_iconst dX11_leastAt_12 rfl ?_
    refine g_callS dX11_leastAt_13 m_11_201 (n := 2) rfl (by exact Nat.le_of_ble_eq_true rfl) (by exact Nat.le_of_ble_eq_true rfl) (by rfl) (by rfl) (by rfl) ?_
    refine s_X11_isSpan hn (by decide) (fun y => ?_) (fun y => ?_)
    · simp only [Option.toList_some, Option.toList_none, List.cons_append, List.nil_append]
      refine g_if_ne (t := 22) dX11_leastAt_16 (by decide) rfl (by omega) (fun c_16 => ?_) (fun c_16 => False.elim (by omega))
      refine g_l dX11_leastAt_22 rfl rfl ?_
      refine g_if_lt (t := 31) dX11_leastAt_23 (by decide) rfl (by omega) (fun c_23 => ?_) (fun c_23 => ?_)
      · refine g_bipush dX11_leastAt_31 (by decide) rfl ?_
        refine g_retI dX11_leastAt_33 rfl rfl ?_
        exact q0 ⟨z, y⟩ (by omega)
      · refine g_l dX11_leastAt_26 rfl rfl ?_
        refine g_l dX11_leastAt_27 rfl rfl ?_
        refine g_icmp_lt (t := 34) dX11_leastAt_28 (by decide) rfl (by omega) (by omega) (fun c_28 => ?_) (fun c_28 => ?_)
        · refine g_l dX11_leastAt_34 rfl rfl ?_
          refine g_getf dX11_leastAt_35 h0 f_11_81 rfl rfl ?_
          refine g_l dX11_leastAt_38 rfl rfl ?_
          refine g_l dX11_leastAt_39 rfl rfl ?_
          refine g_callV dX11_leastAt_40 m_11_215 (n := 2) rfl h206 rfl (Nat.le_of_ble_eq_true rfl) (Nat.le_of_ble_eq_true rfl) rfl rfl ?_
          refine s_X10_search hp ht hB y (fun S' Tw' a1 a2 a3 => ?_)
          simp only [Option.toList_some, Option.toList_none, List.cons_append, List.nil_append]
          have h := q2 ⟨z, y⟩ (by omega) S' Tw' a1 a2
          rw [← a3 i (by omega) (by omega)] at h
          have hl := lwF_in (S := S) (x := x) (n := n.toNat) (X := Tw 0) (b := S 207)
          generalize lwF S x n.toNat (Tw 0) (S 207) = r at h hl ⊢
          refine g_bipush dX11_leastAt_43 (by decide) rfl ?_
          refine g_icmp_ne (t := 53) dX11_leastAt_45 (by decide) rfl (by omega) (by omega) (fun c_45 => ?_) (fun c_45 => ?_)
          · rw [if_neg c_45] at h
            refine g_l dX11_leastAt_53 rfl rfl ?_
            refine g_getf dX11_leastAt_54 h0 f_11_81 rfl rfl ?_
            refine g_getf dX11_leastAt_57 h206 f_11_219 rfl rfl ?_
            refine g_l dX11_leastAt_60 rfl rfl ?_
            refine g_iald dX11_leastAt_61 h207 (by omega) (by decide) rfl ?_
            refine g_retI dX11_leastAt_62 rfl rfl ?_
            exact h
          · rw [if_pos (by omega)] at h
            refine g_bipush dX11_leastAt_48 (by decide) rfl ?_
            refine g_goto (t := 62) dX11_leastAt_50 (by decide) ?_
            refine g_retI dX11_leastAt_62 rfl rfl ?_
            exact h
        · refine g_bipush dX11_leastAt_31 (by decide) rfl ?_
          refine g_retI dX11_leastAt_33 rfl rfl ?_
          exact q0 ⟨z, y⟩ (by omega)
    · simp only [Option.toList_some, Option.toList_none, List.cons_append, List.nil_append]
      refine g_if_ne (t := 22) dX11_leastAt_16 (by decide) rfl (by omega) (fun c_16 => False.elim (by omega)) (fun c_16 => ?_)
      refine g_bipush dX11_leastAt_19 (by decide) rfl ?_
      refine g_retI dX11_leastAt_21 rfl rfl ?_
      exact q1 (fun v => y v.2)
  · simp only [Option.toList_some, Option.toList_none, List.cons_append, List.nil_append]
    refine g_if_eq (t := 19) dX11_leastAt_8 (by decide) rfl (by omega) (fun c_8 => ?_) (fun c_8 => False.elim (by omega))
    refine g_bipush dX11_leastAt_19 (by decide) rfl ?_
    refine g_retI dX11_leastAt_21 rfl rfl ?_
    exact q1 (fun v => by have := v.1; omega)
theorem s_X11_tower (hx : xOk (S 1 1) (S 2)) (q0 : byF (S 1 1) (S 2) 0 ≠ 75 → Q (some (.int (iI (-3)))) (hO S Tw M P)) (q1 : byF (S 1 1) (S 2) 0 = 75 → ¬ (2 ≤ dgF (S 1 1) (S 2) 1 ∧ dgF (S 1 1) (S 2) 1 ≤ 5) → Q (some (.int (iI (-3)))) (hO S Tw M P))
    (q2 : byF (S 1 1) (S 2) 0 = 75 → 2 ≤ dgF (S 1 1) (S 2) 1 ∧ dgF (S 1 1) (S 2) 1 ≤ 5 → ∀ S' R, frR S S' → rd0 (dgF (S 1 1) (S 2) 1) S' → R = prL (S 1 1) (S 2) 11 2 S' → R.1 ≠ -9 → Q (some (.int (iI (-3)))) (hO R.2 Tw M P))
    (q3 : byF (S 1 1) (S 2) 0 = 75 → 2 ≤ dgF (S 1 1) (S 2) 1 ∧ dgF (S 1 1) (S 2) 1 ≤ 5 → ∀ S' R S4 Tw', frR S S' → rd0 (dgF (S 1 1) (S 2) 1) S' → R = prL (S 1 1) (S 2) 11 2 S' → R.1 = -9 → rOk R.2 → (∀ c, ¬ (13 ≤ c ∧ c ≤ 18) → c ≠ 30 → c ≠ 187 → S4 c = R.2 c) → S4 13 5 = R.2 3 4 → (∀ p, 0 ≤ p → p < R.2 3 4 → S4 14 p = R.2 (7 + p.toNat) 1 ∧ S4 15 p = R.2 (7 + p.toNat) 2 ∧ S4 16 p = R.2 (7 + p.toNat) 3 ∧ S4 17 p = R.2 (7 + p.toNat) 4 ∧ S4 18 p = R.2 (7 + p.toNat) 5) → S4 30 1 = 0 → S4 187 0 = 0 → S4 187 1 = 0 →
      frT 0 Tw Tw' → (∀ k, 0 ≤ k → k < 5 → Tw' 0 2 k = 0) → Tw' 0 3 = R.2 4 → Tw' 0 4 = R.2 5 → Tw' 0 1 5 = R.2 3 3 → Tw' 0 1 6 = 0 → (∀ p, 0 ≤ p → p < R.2 3 4 → Tw' 0 8 p = R.2 (7 + p.toNat) 0) → (∀ p, 0 ≤ p → p < 5 → Tw' 0 9 p = 0 ∧ Tw' 0 10 p = 0) → Q (some (.int (iI (Tw' 0 1 5)))) (hO S4 Tw' M P)) : CallD (d + 6) 86 [.ref 0] (hO S Tw M P) Q := by
  refine g_enter (loc := [some _, _]) e_X11_tower i_X11_tower (Nat.le_of_ble_eq_true rfl) rfl ?_
  refine g_l dX11_tower_0 rfl rfl ?_
  refine g_getf dX11_tower_1 h0 f_11_19 rfl rfl ?_
  refine g_l dX11_tower_4 rfl rfl ?_
  refine g_getf dX11_tower_5 h0 f_11_10 rfl rfl ?_
  refine g_callV dX11_tower_8 m_11_104 (n := 1) rfl h3 rfl (Nat.le_of_ble_eq_true rfl) (Nat.le_of_ble_eq_true rfl) rfl rfl ?_
  refine s_X5_read hx (fun z => ?_) (fun z y => ?_) (fun z y S' a1 a2 => ?_)
  · simp only [Option.toList_some, Option.toList_none, List.cons_append, List.nil_append]
    refine g_bipush dX11_tower_11 (by decide) rfl ?_
    refine g_icmp_eq (t := 19) dX11_tower_13 (by decide) rfl (by omega) (by omega) (fun c_13 => False.elim (by omega)) (fun c_13 => ?_)
    refine g_bipush dX11_tower_16 (by decide) rfl ?_
    refine g_retI dX11_tower_18 rfl rfl ?_
    exact q0 z
  · simp only [Option.toList_some, Option.toList_none, List.cons_append, List.nil_append]
    refine g_bipush dX11_tower_11 (by decide) rfl ?_
    refine g_icmp_eq (t := 19) dX11_tower_13 (by decide) rfl (by omega) (by omega) (fun c_13 => False.elim (by omega)) (fun c_13 => ?_)
    refine g_bipush dX11_tower_16 (by decide) rfl ?_
    refine g_retI dX11_tower_18 rfl rfl ?_
    exact q1 z y
  · simp only [Option.toList_some, Option.toList_none, List.cons_append, List.nil_append]
    have hr := prL_ok hx 11 2 S' (by omega) (by omega) (rd0_ok y a2)
    have h2 := q2 z y S' _ a1 a2 rfl
    have h3 := fun S4 Tw' => q3 z y S' _ S4 Tw' a1 a2 rfl
    generalize prL (S 1 1) (S 2) 11 2 S' = R at hr h2 h3 ⊢
    obtain ⟨r1, r2, r3⟩ := hr
    refine g_bipush dX11_tower_11 (by decide) rfl ?_
    refine g_icmp_eq (t := 19) dX11_tower_13 (by decide) rfl (by omega) (by omega) (fun c_13 => ?_) (fun c_13 => ?_)
    · refine g_l dX11_tower_19 rfl rfl ?_
      refine g_getf dX11_tower_20 h0 f_11_26 rfl rfl ?_
      refine g_l dX11_tower_23 rfl rfl ?_
      refine g_getf dX11_tower_24 h0 f_11_19 rfl rfl ?_
      refine g_callV dX11_tower_27 m_11_108 (n := 1) rfl h13 rfl (Nat.le_of_ble_eq_true rfl) (Nat.le_of_ble_eq_true rfl) rfl rfl ?_
      refine s_X8_copyFrom r1.2.1 (fun S3 b1 b2 b3 => ?_)
      simp only [Option.toList_some, Option.toList_none, List.cons_append, List.nil_append]
      refine g_l dX11_tower_30 rfl rfl ?_
      refine g_getf dX11_tower_31 h0 f_11_35 rfl rfl ?_
      refine g_l dX11_tower_34 rfl rfl ?_
      refine g_getf dX11_tower_35 h0 f_11_19 rfl rfl ?_
      refine g_callV dX11_tower_38 m_11_112 (n := 1) rfl (hT0 (by omega)) rfl (Nat.le_of_ble_eq_true rfl) (Nat.le_of_ble_eq_true rfl) rfl rfl ?_
      have e3 : ∀ c, c ≤ 12 → S3 c = R.2 c := fun c hc => b1 c (by omega)
      refine s_X9_build (t := 0) (by decide) (by rw [e3 3 (by decide)]; exact r1.2.1) (fun T2 c1 c2 c3 c4 c5 c6 c7 c8 => ?_)
      rw [e3 4 (by decide)] at c3
      rw [e3 5 (by decide)] at c4
      rw [e3 3 (by decide)] at c5 c7
      simp only [Option.toList_some, Option.toList_none, List.cons_append, List.nil_append]
      refine g_l dX11_tower_41 rfl rfl ?_
      refine g_getf dX11_tower_42 h0 f_11_42 rfl rfl ?_
      refine g_callV dX11_tower_45 m_11_115 (n := 0) rfl h30 rfl (Nat.le_of_ble_eq_true rfl) (Nat.le_of_ble_eq_true rfl) rfl rfl ?_
      refine s_X6_forget ?_
      simp only [Option.toList_some, Option.toList_none, List.cons_append, List.nil_append]
      refine g_iconst dX11_tower_48 rfl ?_
      refine g_l (loc' := [some _, some _]) dX11_tower_49 rfl rfl ?_
      refine g_l dX11_tower_50 rfl rfl ?_
      refine g_iconst dX11_tower_51 rfl ?_
      refine g_icmp_ge (t := 68) dX11_tower_52 (by decide) rfl (by omega) (by omega) (fun c_52 => False.elim (by omega)) (fun c_52 => ?_)
      refine g_l dX11_tower_55 rfl rfl ?_
      refine g_getf dX11_tower_56 h0 f_11_50 rfl rfl ?_
      refine g_l dX11_tower_59 rfl rfl ?_
      refine g_iconst dX11_tower_60 rfl ?_
      refine g_bast dX11_tower_61 h187 (by omega) (by omega) (by decide) p187 rfl ?_
      refine g_iinc (loc' := [some _, some _]) dX11_tower_62 rfl rfl rfl ?_
      refine g_goto (t := 50) dX11_tower_65 (by decide) ?_
      refine g_l dX11_tower_50 rfl rfl ?_
      refine g_iconst dX11_tower_51 rfl ?_
      refine g_icmp_ge (t := 68) dX11_tower_52 (by decide) rfl (by omega) (by omega) (fun c_52 => False.elim (by omega)) (fun c_52 => ?_)
      refine g_l dX11_tower_55 rfl rfl ?_
      refine g_getf dX11_tower_56 h0 f_11_50 rfl rfl ?_
      refine g_l dX11_tower_59 rfl rfl ?_
      refine g_iconst dX11_tower_60 rfl ?_
      refine g_bast dX11_tower_61 h187 (by omega) (by omega) (by decide) p187 rfl ?_
      refine g_iinc (loc' := [some _, some _]) dX11_tower_62 rfl rfl rfl ?_
      refine g_goto (t := 50) dX11_tower_65 (by decide) ?_
      refine g_l dX11_tower_50 rfl rfl ?_
      refine g_iconst dX11_tower_51 rfl ?_
      refine g_icmp_ge (t := 68) dX11_tower_52 (by decide) rfl (by omega) (by omega) (fun c_52 => ?_) (fun c_52 => False.elim (by omega))
      refine g_l dX11_tower_68 rfl rfl ?_
      refine g_getf dX11_tower_69 h0 f_11_35 rfl rfl ?_
      refine g_getf dX11_tower_72 (hT0 (by omega)) f_11_56 rfl rfl ?_
      refine g_getf dX11_tower_75 (hT1 (by omega)) f_11_118 rfl rfl ?_
      refine g_retI dX11_tower_78 rfl rfl ?_
      refine h3 _ T2 c_13 r1 (fun c y1 y2 y3 => ?_) ?_ (fun p y1 y2 => ?_) ?_ ?_ ?_ c1 c2 c3 c4 c5 c6 (fun p y1 y2 => ?_) c8
      · rw [wS_o y3, wS_o y3, wS_o y2]; exact b1 c y1
      · rw [wS_o (by decide), wS_o (by decide), wS_o (by decide)]; exact b2
      · rw [wS_o (show (14 : Nat) ≠ 187 by decide), wS_o (show (14 : Nat) ≠ 187 by decide), wS_o (show (14 : Nat) ≠ 30 by decide), wS_o (show (15 : Nat) ≠ 187 by decide), wS_o (show (15 : Nat) ≠ 187 by decide), wS_o (show (15 : Nat) ≠ 30 by decide), wS_o (show (16 : Nat) ≠ 187 by decide), wS_o (show (16 : Nat) ≠ 187 by decide), wS_o (show (16 : Nat) ≠ 30 by decide), wS_o (show (17 : Nat) ≠ 187 by decide), wS_o (show (17 : Nat) ≠ 187 by decide), wS_o (show (17 : Nat) ≠ 30 by decide), wS_o (show (18 : Nat) ≠ 187 by decide), wS_o (show (18 : Nat) ≠ 187 by decide), wS_o (show (18 : Nat) ≠ 30 by decide)]
        exact b3 p y1 y2
      · rw [wS_o (by decide), wS_o (by decide), wS_e]
      · rw [wS_s, if_neg (by decide), wS_e]
      · rw [wS_s]; rfl
      · rw [c7 p y1 y2, e3 _ (by have := r1.2.1; omega)]
    · refine g_bipush dX11_tower_16 (by decide) rfl ?_
      refine g_retI dX11_tower_18 rfl rfl ?_
      exact h2 c_13
end OE
