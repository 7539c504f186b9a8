/-! cones -/
theorem hIt_congr3 {n w : Int} {s dm h s' dm' h' : Int → Int} (hn : n ≤ 5) (hh : ∀ k, 0 ≤ k → k < 5 → h k = h' k ∧ s k = s' k ∧ dm k = dm' k) : ∀ m : Nat, ∀ k, 0 ≤ k → k < 5 → hIt n s dm w h m k = hIt n s' dm' w h' m k
  | 0 => fun k a b => (hh k a b).1
  | m + 1 => nhF_congr3 hn (fun k a b => ⟨hIt_congr3 hn hh m k a b, (hh k a b).2⟩)
/-- cone i is true where kiln k's shutter is s -/
def trB (S : Nat → Int → Int) (X : Nat → Int → Int) (k s i : Int) : Prop := (0 ≤ S 200 i ∧ S 200 i < X 1 5) ∧ (S 203 i ≤ hIt (X 1 5) (fun j => if j = k then s else X 3 j) (X 4) (S 202 i) (fun _ => 0) (S 201 i).toNat (S 200 i) ↔ S 204 i = 1)
/-- cones in their bounds -/
def nOk (S : Nat → Int → Int) : Prop := 0 ≤ S 199 7 ∧ S 199 7 ≤ 8 ∧ ∀ i, 0 ≤ i → i < S 199 7 → (0 ≤ S 200 i ∧ S 200 i < 5) ∧ (1 ≤ S 201 i ∧ S 201 i ≤ 9) ∧ (0 ≤ S 202 i ∧ S 202 i ≤ 9) ∧ (0 ≤ S 203 i ∧ S 203 i ≤ 990) ∧ (S 204 i = 0 ∨ S 204 i = 1)
section CO
variable {S : Nat → Int → Int} {Tw : Nat → Nat → Int → Int} {M : Nat → Int → Int} {P : Nat → Nat} {d : Nat} {Q : Option Value → GH → Prop}
theorem s_X0_count (hq : Q (some (.int (iI (S 199 7)))) (hO S Tw M P)) : CallD (d + 1) 1 [.ref 199] (hO S Tw M P) Q := by
  refine g_enter (loc := [some _]) e_X0_count i_X0_count (Nat.le_of_ble_eq_true rfl) rfl ?_
  refine g_l dX0_count_0 rfl rfl ?_
  refine g_getf dX0_count_1 h199 f_0_35 rfl rfl ?_
  refine g_retI dX0_count_4 rfl rfl ?_
  exact hq
theorem s_X0_clear (hq : Q (some (.int (iI (S 199 7)))) (hO (wS S 199 7 0) Tw M P)) : CallD (d + 1) 3 [.ref 199] (hO S Tw M P) Q := by
  refine g_enter (loc := [some _, _]) e_X0_clear i_X0_clear (Nat.le_of_ble_eq_true rfl) rfl ?_
  refine g_l dX0_clear_0 rfl rfl ?_
  refine g_getf dX0_clear_1 h199 f_0_35 rfl rfl ?_
  refine g_l (loc' := [some _, some _]) dX0_clear_4 rfl rfl ?_
  refine g_l dX0_clear_5 rfl rfl ?_
  refine g_iconst dX0_clear_6 rfl ?_
  refine g_putf dX0_clear_7 h199 f_0_35 (Nat.le_of_ble_eq_true rfl) rfl rfl p199_7 rfl ?_
  refine g_l dX0_clear_10 rfl rfl ?_
  refine g_retI dX0_clear_11 rfl rfl ?_
  exact hq
theorem s_X0_add {k n w c b : Int} (hx : 0 ≤ S 199 7 ∧ S 199 7 ≤ 8) (hb : b = 0 ∨ b = 1) (hy : S 199 7 < 8 → Q (some (.int (iI (S 199 7 + 1)))) (hO (wS (wS (wS (wS (wS (wS S 200 (S 199 7) k) 201 (S 199 7) n) 202 (S 199 7) w) 203 (S 199 7) (10 * c)) 204 (S 199 7) b) 199 7 (S 199 7 + 1)) Tw M P)) (hn : S 199 7 = 8 → Q (some (.int (iI 8))) (hO S Tw M P)) : CallD (d + 1) 2 [.ref 199, .int (iI k), .int (iI n), .int (iI w), .int (iI c), .int (iI b)] (hO S Tw M P) Q := by
  refine g_enter (loc := [some _, some _, some _, some _, some _, some _]) e_X0_add i_X0_add (Nat.le_of_ble_eq_true rfl) rfl ?_
  refine g_l dX0_add_0 rfl rfl ?_
  refine g_getf dX0_add_1 h199 f_0_35 rfl rfl ?_
  refine g_bipush dX0_add_4 (by decide) rfl ?_
  refine g_icmp_ge (t := 74) dX0_add_6 (by decide) rfl (by omega) (by omega) (fun c_6 => ?_) (fun c_6 => ?_)
  · refine g_l dX0_add_74 rfl rfl ?_
    refine g_getf dX0_add_75 h199 f_0_35 rfl rfl ?_
    refine g_retI dX0_add_78 rfl rfl ?_
    have e : S 199 7 = 8 := by omega
    rw [e]
    exact hn e
  · have hy2 := hy c_6
    have z : 0 ≤ S 199 7 ∧ S 199 7 < 8 := ⟨hx.1, c_6⟩
    have e1 : ∀ {S' : Nat → Int → Int} {c : Nat} {j v : Int}, c ≠ 199 → wS S' c j v 199 7 = S' 199 7 := fun h => by rw [wS_o (Ne.symm h)]
    refine g_l dX0_add_9 rfl rfl ?_
    refine g_getf dX0_add_10 h199 f_0_9 rfl rfl ?_
    refine g_l dX0_add_13 rfl rfl ?_
    refine g_getf dX0_add_14 h199 f_0_35 rfl rfl ?_
    refine g_l dX0_add_17 rfl rfl ?_
    refine g_iast dX0_add_18 h200 (by omega) (by decide) p200 rfl ?_
    refine g_l dX0_add_19 rfl rfl ?_
    refine g_getf dX0_add_20 h199 f_0_15 rfl rfl ?_
    refine g_l dX0_add_23 rfl rfl ?_
    refine g_getf dX0_add_24 h199 f_0_35 rfl rfl ?_
    refine g_l dX0_add_27 rfl rfl ?_
    rw [e1 (by decide)]
    refine g_iast dX0_add_28 h201 (by omega) (by decide) p201 rfl ?_
    refine g_l dX0_add_29 rfl rfl ?_
    refine g_getf dX0_add_30 h199 f_0_18 rfl rfl ?_
    refine g_l dX0_add_33 rfl rfl ?_
    refine g_getf dX0_add_34 h199 f_0_35 rfl rfl ?_
    refine g_l dX0_add_37 rfl rfl ?_
    rw [e1 (by decide), e1 (by decide)]
    refine g_iast dX0_add_38 h202 (by omega) (by decide) p202 rfl ?_
    refine g_l dX0_add_39 rfl rfl ?_
    refine g_getf dX0_add_40 h199 f_0_21 rfl rfl ?_
    refine g_l dX0_add_43 rfl rfl ?_
    refine g_getf dX0_add_44 h199 f_0_35 rfl rfl ?_
    refine g_bipush dX0_add_47 (by decide) rfl ?_
    refine g_l dX0_add_49 rfl rfl ?_
    refine g_imul dX0_add_51 rfl ?_
    rw [e1 (by decide), e1 (by decide), e1 (by decide)]
    refine g_iast dX0_add_52 h203 (by omega) (by decide) p203 rfl ?_
    refine g_l dX0_add_53 rfl rfl ?_
    refine g_getf dX0_add_54 h199 f_0_24 rfl rfl ?_
    refine g_l dX0_add_57 rfl rfl ?_
    refine g_getf dX0_add_58 h199 f_0_35 rfl rfl ?_
    refine g_l dX0_add_61 rfl rfl ?_
    rw [e1 (by decide), e1 (by decide), e1 (by decide), e1 (by decide)]
    refine g_bast dX0_add_63 h204 (by omega) (by omega) (by decide) p204 rfl ?_
    refine g_l dX0_add_64 rfl rfl ?_
    refine g_s dX0_add_65 rfl rfl rfl ?_
    refine g_getf dX0_add_66 h199 f_0_35 rfl rfl ?_
    refine g_iconst dX0_add_69 rfl ?_
    refine g_iadd dX0_add_70 rfl ?_
    rw [e1 (by decide), e1 (by decide), e1 (by decide), e1 (by decide), e1 (by decide)]
    refine g_putf dX0_add_71 h199 f_0_35 (Nat.le_of_ble_eq_true rfl) rfl rfl p199_7 rfl ?_
    refine g_l dX0_add_74 rfl rfl ?_
    refine g_getf dX0_add_75 h199 f_0_35 rfl rfl ?_
    rw [wS_e]
    refine g_retI dX0_add_78 rfl rfl ?_
    exact hy2
theorem s_X0_isTrue {i k s B : Int} (hc : nOk S) (hi : 0 ≤ i ∧ i < S 199 7) (hk : tOk (Tw 0) B) (hk0 : 0 ≤ k ∧ k < 5) (hs : 0 ≤ s ∧ s ≤ 10 - Tw 0 4 k) (hy : trB S (Tw 0) k s i → ∀ Tw', frT 15 Tw Tw' → Q (some (.int (iI 1))) (hO S Tw' M P)) (hn : ¬ trB S (Tw 0) k s i → ∀ Tw', frT 15 Tw Tw' → Q (some (.int (iI 0))) (hO S Tw' M P)) : CallD (d + 3) 6 [.ref 199, .int (iI i), .int (iI k), .int (iI s)] (hO S Tw M P) Q := by
  obtain ⟨c1, c2, c3⟩ := hc
  obtain ⟨x1, x2, x3, x4, x5⟩ := c3 i hi.1 hi.2
  obtain ⟨t1, t2, t3, t4⟩ := hk
  refine g_enter (loc := [some _, some _, some _, some _]) e_X0_isTrue i_X0_isTrue (Nat.le_of_ble_eq_true rfl) rfl ?_
  refine g_l dX0_isTrue_0 rfl rfl ?_
  refine g_getf dX0_isTrue_1 h199 f_0_28 rfl rfl ?_
  refine g_l dX0_isTrue_4 rfl rfl ?_
  refine g_getf dX0_isTrue_5 h199 f_0_9 rfl rfl ?_
  refine g_l dX0_isTrue_8 rfl rfl ?_
  refine g_iald dX0_isTrue_9 h200 (by omega) (by decide) rfl ?_
  refine g_callV dX0_isTrue_10 m_0_52 (n := 1) rfl (hT1 (by omega)) rfl (Nat.le_of_ble_eq_true rfl) (Nat.le_of_ble_eq_true rfl) rfl rfl ?_
  refine s_X2_isThere (t := 0) (by decide) (by omega) (by omega) (fun z => ?_) (fun z => ?_)
  · simp only [Option.toList_some, Option.toList_none, List.cons_append, List.nil_append]
    refine g_if_ne (t := 18) dX0_isTrue_13 (by decide) rfl (by omega) (fun c_13 => ?_) (fun c_13 => False.elim (by omega))
    refine g_l dX0_isTrue_18 rfl rfl ?_
    refine g_getf dX0_isTrue_19 h199 f_0_32 rfl rfl ?_
    refine g_l dX0_isTrue_22 rfl rfl ?_
    refine g_getf dX0_isTrue_23 h199 f_0_28 rfl rfl ?_
    refine g_callV dX0_isTrue_26 m_0_56 (n := 1) rfl (hT1 (by omega)) rfl (Nat.le_of_ble_eq_true rfl) (Nat.le_of_ble_eq_true rfl) rfl rfl ?_
    refine s_X2_copyFrom (t := 15) (u := 0) (by decide) (by decide) (fun T1 a1 a2 a3 a4 a5 => ?_)
    simp only [Option.toList_some, Option.toList_none, List.cons_append, List.nil_append]
    refine g_l dX0_isTrue_29 rfl rfl ?_
    refine g_getf dX0_isTrue_30 h199 f_0_32 rfl rfl ?_
    refine g_callV dX0_isTrue_33 m_0_60 (n := 0) rfl (hT1 (by omega)) rfl (Nat.le_of_ble_eq_true rfl) (Nat.le_of_ble_eq_true rfl) rfl rfl ?_
    refine s_X2_cool (t := 15) (by decide) (fun T2 b1 b2 b3 => ?_)
    simp only [Option.toList_some, Option.toList_none, List.cons_append, List.nil_append]
    refine g_l dX0_isTrue_36 rfl rfl ?_
    refine g_getf dX0_isTrue_37 h199 f_0_32 rfl rfl ?_
    refine g_getf dX0_isTrue_40 (hT1 (by omega)) f_0_63 rfl rfl ?_
    refine g_l dX0_isTrue_43 rfl rfl ?_
    refine g_l dX0_isTrue_44 rfl rfl ?_
    refine g_iast dX0_isTrue_45 (hTa3 (by omega)) (by omega) (by decide) (pTa3 (by omega)) rfl ?_
    refine g_l dX0_isTrue_46 rfl rfl ?_
    refine g_getf dX0_isTrue_47 h199 f_0_32 rfl rfl ?_
    refine g_l dX0_isTrue_50 rfl rfl ?_
    refine g_getf dX0_isTrue_51 h199 f_0_15 rfl rfl ?_
    refine g_l dX0_isTrue_54 rfl rfl ?_
    refine g_iald dX0_isTrue_55 h201 (by omega) (by decide) rfl ?_
    refine g_l dX0_isTrue_56 rfl rfl ?_
    refine g_getf dX0_isTrue_57 h199 f_0_18 rfl rfl ?_
    refine g_l dX0_isTrue_60 rfl rfl ?_
    refine g_iald dX0_isTrue_61 h202 (by omega) (by decide) rfl ?_
    have e3 : wT T2 15 3 k s 15 3 = fun j => if j = k then s else Tw 0 3 j := by
      funext j
      rw [wT_s, b3 3 (by decide), a2 3 (by simp)]
    have e4 : wT T2 15 3 k s 15 4 = Tw 0 4 := by rw [wT_o (by decide), b3 4 (by decide), a2 4 (by simp)]
    have e5 : wT T2 15 3 k s 15 1 5 = Tw 0 1 5 := by rw [wT_o (by decide), b3 1 (by decide), a3]
    have e2 : ∀ j, 0 ≤ j → j < 5 → wT T2 15 3 k s 15 2 j = 0 := fun j a b => by rw [wT_o (by decide)]; exact b2 j a b
    have k1 : tOk (wT T2 15 3 k s 15) 0 := by
      refine ⟨by rw [e5]; exact t1, by rw [e5]; exact t2, fun j a b => ?_, ?_⟩
      · rw [e3, e4, e2 j a b]
        have := t3 j a b
        show 0 ≤ (if j = k then s else Tw 0 3 j) ∧ 0 ≤ Tw 0 4 j ∧ (if j = k then s else Tw 0 3 j) + Tw 0 4 j ≤ 10 ∧ (0 : Int) ≤ 0
        by_cases h : j = k
        · subst h; rw [if_pos rfl]; omega
        · rw [if_neg h]; omega
      · rw [e2 0 (by omega) (by omega), e2 1 (by omega) (by omega), e2 2 (by omega) (by omega), e2 3 (by omega) (by omega), e2 4 (by omega) (by omega)]
        decide
    refine g_callV dX0_isTrue_62 m_0_66 (n := 2) rfl (hT1 (by omega)) rfl (Nat.le_of_ble_eq_true rfl) (Nat.le_of_ble_eq_true rfl) rfl rfl ?_
    refine s_X2_burnAll (t := 15) (by decide) k1 (by decide) (by omega) x3 (fun T3 g1 g2 g3 g4 g5 g6 g7 => ?_)
    simp only [Option.toList_some, Option.toList_none, List.cons_append, List.nil_append]
    have f3 : frT 15 Tw T3 := ((a1.tr b1).tr (frT.rf.w)).tr g1
    have f4 := g2 (S 200 i) x1.1 x1.2
    rw [e3, e4, e5, hIt_congr3 (h' := fun _ => 0) (s' := fun j => if j = k then s else Tw 0 3 j) (dm' := Tw 0 4) t2 (fun j a b => ⟨e2 j a b, rfl, rfl⟩) _ _ x1.1 x1.2] at f4
    have f5 : 0 ≤ T3 15 2 (S 200 i) ∧ T3 15 2 (S 200 i) ≤ 10000000 := ((g7.k (by omega)).2.2 _ x1.1 x1.2).1
    unfold trB at hy hn
    rw [← f4] at hy hn
    refine g_l dX0_isTrue_65 rfl rfl ?_
    refine g_getf dX0_isTrue_66 h199 f_0_32 rfl rfl ?_
    refine g_getf dX0_isTrue_69 (hT1 (by omega)) f_0_70 rfl rfl ?_
    refine g_l dX0_isTrue_72 rfl rfl ?_
    refine g_getf dX0_isTrue_73 h199 f_0_9 rfl rfl ?_
    refine g_l dX0_isTrue_76 rfl rfl ?_
    refine g_iald dX0_isTrue_77 h200 (by omega) (by decide) rfl ?_
    refine g_iald dX0_isTrue_78 (hTa2 (by omega)) (by omega) (by decide) rfl ?_
    refine g_l dX0_isTrue_79 rfl rfl ?_
    refine g_getf dX0_isTrue_80 h199 f_0_21 rfl rfl ?_
    refine g_l dX0_isTrue_83 rfl rfl ?_
    refine g_iald dX0_isTrue_84 h203 (by omega) (by decide) rfl ?_
    refine g_icmp_lt (t := 92) dX0_isTrue_85 (by decide) rfl (by omega) (by omega) (fun c_85 => ?_) (fun c_85 => ?_)
    · have y := fun (q : S 203 i ≤ T3 15 2 (S 200 i) ↔ S 204 i = 1) => hy ⟨z, q⟩ T3 f3
      have n' := fun (q : ¬ (S 203 i ≤ T3 15 2 (S 200 i) ↔ S 204 i = 1)) => hn (fun u => q u.2) T3 f3
      rcases x5 with x5 | x5
      · rw [x5] at y n'
        refine g_iconst dX0_isTrue_92 rfl ?_
        refine g_l dX0_isTrue_93 rfl rfl ?_
        refine g_getf dX0_isTrue_94 h199 f_0_24 rfl rfl ?_
        refine g_l dX0_isTrue_97 rfl rfl ?_
        refine g_bald dX0_isTrue_98 h204 (by omega) (by decide) rfl ?_
        refine g_icmp_ne (t := 106) dX0_isTrue_99 (by decide) rfl (by omega) (by omega) (fun c_99 => False.elim (by omega)) (fun c_99 => ?_)
        refine g_iconst dX0_isTrue_102 rfl ?_
        refine g_goto (t := 107) dX0_isTrue_103 (by decide) ?_
        refine g_retZ dX0_isTrue_107 rfl rfl (by omega) ?_
        exact y ⟨fun h => by omega, fun h => by omega⟩
      · rw [x5] at y n'
        refine g_iconst dX0_isTrue_92 rfl ?_
        refine g_l dX0_isTrue_93 rfl rfl ?_
        refine g_getf dX0_isTrue_94 h199 f_0_24 rfl rfl ?_
        refine g_l dX0_isTrue_97 rfl rfl ?_
        refine g_bald dX0_isTrue_98 h204 (by omega) (by decide) rfl ?_
        refine g_icmp_ne (t := 106) dX0_isTrue_99 (by decide) rfl (by omega) (by omega) (fun c_99 => ?_) (fun c_99 => False.elim (by omega))
        refine g_iconst dX0_isTrue_106 rfl ?_
        refine g_retZ dX0_isTrue_107 rfl rfl (by omega) ?_
        exact n' (fun h => by have := h.2 rfl; omega)
    · have y := fun (q : S 203 i ≤ T3 15 2 (S 200 i) ↔ S 204 i = 1) => hy ⟨z, q⟩ T3 f3
      have n' := fun (q : ¬ (S 203 i ≤ T3 15 2 (S 200 i) ↔ S 204 i = 1)) => hn (fun u => q u.2) T3 f3
      rcases x5 with x5 | x5
      · rw [x5] at y n'
        refine g_iconst dX0_isTrue_88 rfl ?_
        refine g_goto (t := 93) dX0_isTrue_89 (by decide) ?_
        refine g_l dX0_isTrue_93 rfl rfl ?_
        refine g_getf dX0_isTrue_94 h199 f_0_24 rfl rfl ?_
        refine g_l dX0_isTrue_97 rfl rfl ?_
        refine g_bald dX0_isTrue_98 h204 (by omega) (by decide) rfl ?_
        refine g_icmp_ne (t := 106) dX0_isTrue_99 (by decide) rfl (by omega) (by omega) (fun c_99 => ?_) (fun c_99 => False.elim (by omega))
        refine g_iconst dX0_isTrue_106 rfl ?_
        refine g_retZ dX0_isTrue_107 rfl rfl (by omega) ?_
        exact n' (fun h => by have := h.1 (by omega); omega)
      · rw [x5] at y n'
        refine g_iconst dX0_isTrue_88 rfl ?_
        refine g_goto (t := 93) dX0_isTrue_89 (by decide) ?_
        refine g_l dX0_isTrue_93 rfl rfl ?_
        refine g_getf dX0_isTrue_94 h199 f_0_24 rfl rfl ?_
        refine g_l dX0_isTrue_97 rfl rfl ?_
        refine g_bald dX0_isTrue_98 h204 (by omega) (by decide) rfl ?_
        refine g_icmp_ne (t := 106) dX0_isTrue_99 (by decide) rfl (by omega) (by omega) (fun c_99 => False.elim (by omega)) (fun c_99 => ?_)
        refine g_iconst dX0_isTrue_102 rfl ?_
        refine g_goto (t := 107) dX0_isTrue_103 (by decide) ?_
        refine g_retZ dX0_isTrue_107 rfl rfl (by omega) ?_
        exact y ⟨fun h => rfl, fun h => by omega⟩
  · simp only [Option.toList_some, Option.toList_none, List.cons_append, List.nil_append]
    refine g_if_ne (t := 18) dX0_isTrue_13 (by decide) rfl (by omega) (fun c_13 => False.elim (by omega)) (fun c_13 => ?_)
    refine g_iconst dX0_isTrue_16 rfl ?_
    refine g_retZ dX0_isTrue_17 rfl rfl (by omega) ?_
    exact hn (fun u => by have := u.1; omega) Tw frT.rf
theorem s_X0_areAllTrue {k s B : Int} (hc : nOk S) (hk : tOk (Tw 0) B) (hk0 : 0 ≤ k ∧ k < 5) (hs : 0 ≤ s ∧ s ≤ 10 - Tw 0 4 k) (hy : (∀ i, 0 ≤ i → i < S 199 7 → trB S (Tw 0) k s i) → ∀ Tw', frT 15 Tw Tw' → Q (some (.int (iI 1))) (hO S Tw' M P)) (hn : ¬ (∀ i, 0 ≤ i → i < S 199 7 → trB S (Tw 0) k s i) → ∀ Tw', frT 15 Tw Tw' → Q (some (.int (iI 0))) (hO S Tw' M P)) : CallD (d + 4) 5 [.ref 199, .int (iI k), .int (iI s)] (hO S Tw M P) Q := by
  have hc1 := hc.1
  have hc2 := hc.2.1
  refine g_enter (loc := [some _, some _, some _, _]) e_X0_areAllTrue i_X0_areAllTrue (Nat.le_of_ble_eq_true rfl) rfl ?_
  refine g_iconst dX0_areAllTrue_0 rfl ?_
  refine g_l (loc' := [some _, some _, some _, some _]) dX0_areAllTrue_1 rfl rfl ?_
  have loop : ∀ (m : Nat) (i : Int) (Tw' : Nat → Nat → Int → Int), 0 ≤ i → i ≤ S 199 7 → (S 199 7 - i).toNat = m → frT 15 Tw Tw' → (∀ j, 0 ≤ j → j < i → trB S (Tw 0) k s j) →
      G none (d + 3) 0 false (some .boolean) 0 0 (hO S Tw M P).length cX0_areAllTrue Q 0 2 [some (.ref 199), some (.int (iI k)), some (.int (iI s)), some (.int (iI i))] [] (hO S Tw' M P) := by
    intro m
    induction m with
    | zero =>
      intro i Tw' a1 a2 hm f1 f2
      refine g_l dX0_areAllTrue_2 rfl rfl ?_
      refine g_l dX0_areAllTrue_3 rfl rfl ?_
      refine g_getf dX0_areAllTrue_4 h199 f_0_35 rfl rfl ?_
      refine g_icmp_ge (t := 28) dX0_areAllTrue_7 (by decide) rfl (by omega) (by omega) (fun c_7 => ?_) (fun c_7 => False.elim (by omega))
      refine g_iconst dX0_areAllTrue_28 rfl ?_
      refine g_retZ dX0_areAllTrue_29 rfl rfl (by omega) ?_
      exact hy (fun j x y => f2 j x (by omega)) Tw' f1
    | succ m ih =>
      intro i Tw' a1 a2 hm f1 f2
      have e0 : Tw' 0 = Tw 0 := f1 0 (by decide)
      refine g_l dX0_areAllTrue_2 rfl rfl ?_
      refine g_l dX0_areAllTrue_3 rfl rfl ?_
      refine g_getf dX0_areAllTrue_4 h199 f_0_35 rfl rfl ?_
      refine g_icmp_ge (t := 28) dX0_areAllTrue_7 (by decide) rfl (by omega) (by omega) (fun c_7 => False.elim (by omega)) (fun c_7 => ?_)
      refine g_l dX0_areAllTrue_10 rfl rfl ?_
      refine g_l dX0_areAllTrue_11 rfl rfl ?_
      refine g_l dX0_areAllTrue_12 rfl rfl ?_
      refine g_l dX0_areAllTrue_13 rfl rfl ?_
      refine g_callV dX0_areAllTrue_14 m_0_48 (n := 3) rfl h199 rfl (Nat.le_of_ble_eq_true rfl) (Nat.le_of_ble_eq_true rfl) rfl rfl ?_
      refine s_X0_isTrue hc ⟨a1, by omega⟩ (by rw [e0]; exact hk) hk0 (by rw [e0]; exact hs) (fun z T2 g => ?_) (fun z T2 g => ?_)
      · rw [e0] at z
        simp only [Option.toList_some, Option.toList_none, List.cons_append, List.nil_append]
        refine g_if_ne (t := 22) dX0_areAllTrue_17 (by decide) rfl (by omega) (fun c_17 => ?_) (fun c_17 => False.elim (by omega))
        refine g_iinc (loc' := [some _, some _, some _, some _]) dX0_areAllTrue_22 rfl rfl rfl ?_
        refine g_goto (t := 2) dX0_areAllTrue_25 (by decide) ?_
        refine ih (i + 1) T2 (by omega) (by omega) (by omega) (f1.tr g) (fun j x y => ?_)
        by_cases e : j = i
        · subst e; exact z
        · exact f2 j x (by omega)
      · rw [e0] at z
        simp only [Option.toList_some, Option.toList_none, List.cons_append, List.nil_append]
        refine g_if_ne (t := 22) dX0_areAllTrue_17 (by decide) rfl (by omega) (fun c_17 => False.elim (by omega)) (fun c_17 => ?_)
        refine g_iconst dX0_areAllTrue_20 rfl ?_
        refine g_retZ dX0_areAllTrue_21 rfl rfl (by omega) ?_
        exact hn (fun h => z (h i a1 (by omega))) T2 (f1.tr g)
  exact loop (S 199 7).toNat 0 Tw (by omega) hc1 (by rw [Int.sub_zero]) frT.rf (fun j x y => by omega)
/-- the tenths with which all cones are true -/
noncomputable def ttF (S : Nat → Int → Int) (X : Nat → Int → Int) (k : Int) (n : Nat) : Int := @setF (fun s => ∀ i, 0 ≤ i → i < S 199 7 → trB S X k s i) (fun _ => Classical.propDecidable _) n
theorem s_X0_trueTenths {k B : Int} (hc : nOk S) (hk : tOk (Tw 0) B) (hk0 : 0 ≤ k ∧ k < 5) (hq : ∀ Tw', frT 15 Tw Tw' → Q (some (.int (iI (ttF S (Tw 0) k (11 - Tw 0 4 k).toNat)))) (hO S Tw' M P)) : CallD (d + 5) 4 [.ref 199, .int (iI k)] (hO S Tw M P) Q := by
  have hd := hk.2.2.1 k hk0.1 hk0.2
  refine g_enter (loc := [some _, some _, _, _]) e_X0_trueTenths i_X0_trueTenths (Nat.le_of_ble_eq_true rfl) rfl ?_
  refine g_iconst dX0_trueTenths_0 rfl ?_
  refine g_l (loc' := [some _, some _, some _, _]) dX0_trueTenths_1 rfl rfl ?_
  refine g_iconst dX0_trueTenths_2 rfl ?_
  refine g_l (loc' := [some _, some _, some _, some _]) dX0_trueTenths_3 rfl rfl ?_
  have loop : ∀ (m : Nat) (s : Int) (Tw' : Nat → Nat → Int → Int), 0 ≤ s → s ≤ 11 - Tw 0 4 k → (11 - Tw 0 4 k - s).toNat = m → frT 15 Tw Tw' →
      G none (d + 4) 0 false (some .int) 0 0 (hO S Tw M P).length cX0_trueTenths Q 0 4 [some (.ref 199), some (.int (iI k)), some (.int (iI (ttF S (Tw 0) k s.toNat))), some (.int (iI s))] [] (hO S Tw' M P) := by
    intro m
    induction m with
    | zero =>
      intro s Tw' a1 a2 hm f1
      have e0 : Tw' 0 = Tw 0 := f1 0 (by decide)
      have e : s = 11 - Tw 0 4 k := by omega
      refine g_l dX0_trueTenths_4 rfl rfl ?_
      refine g_bipush dX0_trueTenths_5 (by decide) rfl ?_
      refine g_l dX0_trueTenths_7 rfl rfl ?_
      refine g_getf dX0_trueTenths_8 h199 f_0_28 rfl rfl ?_
      refine g_getf dX0_trueTenths_11 (hT1 (by omega)) f_0_39 rfl rfl ?_
      refine g_l dX0_trueTenths_14 rfl rfl ?_
      refine g_iald dX0_trueTenths_15 (hTa4 (by omega)) (by omega) (by decide) rfl ?_
      refine g_isub dX0_trueTenths_16 rfl ?_
      rw [e0]
      refine g_icmp_gt (t := 45) dX0_trueTenths_17 (by decide) rfl (by omega) (by omega) (fun c_17 => ?_) (fun c_17 => False.elim (by omega))
      refine g_l dX0_trueTenths_45 rfl rfl ?_
      refine g_retI dX0_trueTenths_46 rfl rfl ?_
      rw [e]
      exact hq Tw' f1
    | succ m ih =>
      intro s Tw' a1 a2 hm f1
      have e0 : Tw' 0 = Tw 0 := f1 0 (by decide)
      have es : ttF S (Tw 0) k (s + 1).toNat = bOr (ttF S (Tw 0) k s.toNat) (@ite Int (∀ i, 0 ≤ i → i < S 199 7 → trB S (Tw 0) k s i) (Classical.propDecidable _) (bShl 1 s) 0) := @setF_s _ (fun _ => Classical.propDecidable _) s a1
      refine g_l dX0_trueTenths_4 rfl rfl ?_
      refine g_bipush dX0_trueTenths_5 (by decide) rfl ?_
      refine g_l dX0_trueTenths_7 rfl rfl ?_
      refine g_getf dX0_trueTenths_8 h199 f_0_28 rfl rfl ?_
      refine g_getf dX0_trueTenths_11 (hT1 (by omega)) f_0_39 rfl rfl ?_
      refine g_l dX0_trueTenths_14 rfl rfl ?_
      refine g_iald dX0_trueTenths_15 (hTa4 (by omega)) (by omega) (by decide) rfl ?_
      refine g_isub dX0_trueTenths_16 rfl ?_
      rw [e0]
      refine g_icmp_gt (t := 45) dX0_trueTenths_17 (by decide) rfl (by omega) (by omega) (fun c_17 => False.elim (by omega)) (fun c_17 => ?_)
      refine g_l dX0_trueTenths_20 rfl rfl ?_
      refine g_l dX0_trueTenths_21 rfl rfl ?_
      refine g_l dX0_trueTenths_22 rfl rfl ?_
      refine g_l dX0_trueTenths_23 rfl rfl ?_
      refine g_callV dX0_trueTenths_24 m_0_44 (n := 2) rfl h199 rfl (Nat.le_of_ble_eq_true rfl) (Nat.le_of_ble_eq_true rfl) rfl rfl ?_
      refine s_X0_areAllTrue hc (by rw [e0]; exact hk) hk0 (by rw [e0]; omega) (fun z T2 g => ?_) (fun z T2 g => ?_)
      · rw [e0] at z
        rw [if_pos z] at es
        simp only [Option.toList_some, Option.toList_none, List.cons_append, List.nil_append]
        refine g_if_eq (t := 36) dX0_trueTenths_27 (by decide) rfl (by omega) (fun c_27 => False.elim (by omega)) (fun c_27 => ?_)
        refine g_iconst dX0_trueTenths_30 rfl ?_
        refine g_l dX0_trueTenths_31 rfl rfl ?_
        refine g_ishl dX0_trueTenths_32 rfl ?_
        refine g_goto (t := 37) dX0_trueTenths_33 (by decide) ?_
        refine g_ior dX0_trueTenths_37 rfl ?_
        rw [← es]
        refine g_l (loc' := [some _, some _, some _, some _]) dX0_trueTenths_38 rfl rfl ?_
        refine g_iinc (loc' := [some _, some _, some _, some _]) dX0_trueTenths_39 rfl rfl rfl ?_
        refine g_goto (t := 4) dX0_trueTenths_42 (by decide) ?_
        exact ih (s + 1) T2 (by omega) (by omega) (by omega) (f1.tr g)
      · rw [e0] at z
        rw [if_neg z] at es
        simp only [Option.toList_some, Option.toList_none, List.cons_append, List.nil_append]
        refine g_if_eq (t := 36) dX0_trueTenths_27 (by decide) rfl (by omega) (fun c_27 => ?_) (fun c_27 => False.elim (by omega))
        refine g_iconst dX0_trueTenths_36 rfl ?_
        refine g_ior dX0_trueTenths_37 rfl ?_
        rw [← es]
        refine g_l (loc' := [some _, some _, some _, some _]) dX0_trueTenths_38 rfl rfl ?_
        refine g_iinc (loc' := [some _, some _, some _, some _]) dX0_trueTenths_39 rfl rfl rfl ?_
        refine g_goto (t := 4) dX0_trueTenths_42 (by decide) ?_
        exact ih (s + 1) T2 (by omega) (by omega) (by omega) (f1.tr g)
  exact loop (11 - Tw 0 4 k).toNat 0 Tw (by omega) (by omega) (by rw [Int.sub_zero]) frT.rf
end CO
