/-! plans: the rest; counting bits; powers -/
theorem shX_agr {S : Nat → Int → Int} {t : Nat} {k s : Int} {Tw : Nat → Nat → Int → Int} {Y : Nat → Int → Int} (h : agr S (Tw t) Y) : agr S (wT Tw t 3 k s t) (shX k s Y) := by
  obtain ⟨h1, h2, h3, h4⟩ := h
  refine ⟨?_, ?_, fun j a b => ⟨?_, ?_, ?_⟩, fun p a b => ⟨?_, ?_, ?_⟩⟩
  · rw [wT_o (by decide)]; exact h1
  · rw [wT_o (by decide)]; exact h2
  · rw [wT_o (by decide)]; exact (h3 j a b).1
  · rw [wT_s]
    unfold shX
    by_cases c : j = k
    · rw [if_pos c, if_pos ⟨rfl, c⟩]
    · rw [if_neg c, if_neg (fun z => c z.2)]; exact (h3 j a b).2.1
  · rw [wT_o (by decide)]; exact (h3 j a b).2.2
  · rw [wT_o (by decide)]; exact (h4 p a b).1
  · rw [wT_o (by decide)]; exact (h4 p a b).2.1
  · rw [wT_o (by decide)]; exact (h4 p a b).2.2
theorem shX_ok {S : Nat → Int → Int} {X : Nat → Int → Int} {k s B : Int} (h : twOk S X B) (hs : 0 ≤ s ∧ s ≤ 10 - X 4 k) : twOk S (shX k s X) B := by
  obtain ⟨⟨t1, t2, t3, t4⟩, q, r⟩ := h
  refine ⟨⟨t1, t2, fun j a b => ?_, t4⟩, fun p a b => q p a b, fun p a b => r p a b⟩
  have := t3 j a b
  show 0 ≤ (if (3 : Nat) = 3 ∧ j = k then s else X 3 j) ∧ 0 ≤ X 4 j ∧ (if (3 : Nat) = 3 ∧ j = k then s else X 3 j) + X 4 j ≤ 10 ∧ 0 ≤ X 2 j
  by_cases c : j = k
  · subst c
    rw [if_pos ⟨rfl, rfl⟩]
    omega
  · rw [if_neg (fun z => c z.2)]; exact this
theorem blow_agr {S : Nat → Int → Int} {X Y : Nat → Int → Int} (h1 : ∀ k, 0 ≤ k → k < 5 → Y 2 k = blF (X 1 5) (X 2) k) (h2 : ∀ o, o ≠ 2 → Y o = X o) : agr5 S Y (blX X) := by
  refine ⟨⟨?_, ?_, fun k a b => ⟨h1 k a b, ?_, ?_⟩, fun p a b => ⟨?_, ?_, ?_⟩⟩, fun k a b => ⟨?_, ?_⟩⟩
  all_goals (rw [h2 _ (by decide)]; rfl)
section PM
variable {S : Nat → Int → Int} {Tw : Nat → Nat → Int → Int} {M : Nat → Int → Int} {P : Nat → Nat} {d : Nat} {Q : Option Value → GH → Prop}
theorem s_X3_fewestTenths {k p n w B : Int} (hp : pOk S) (hk : twOk S (Tw 0) B) (hB : B ≤ 900000) (hk0 : 0 ≤ k ∧ k < 5) (hp0 : 0 ≤ p ∧ p < S 13 5) (hn : 0 ≤ n ∧ n ≤ 9) (hw : 0 ≤ w ∧ w ≤ 9) (hq : ∀ Tw', frT 15 Tw Tw' → Q (some (.int (iI (fwL S (Tw 0) k p n.toNat w (11 - Tw 0 4 k).toNat 0)))) (hO S Tw' M P)) : CallD (d + 6) 29 [.ref 205, .int (iI k), .int (iI p), .int (iI n), .int (iI w)] (hO S Tw M P) Q := by
  have hp5 := hp.2.1
  have hd := hk.1.2.2.1 k hk0.1 hk0.2
  refine g_enter (loc := [some _, some _, some _, some _, some _, _]) e_X3_fewestTenths i_X3_fewestTenths (Nat.le_of_ble_eq_true rfl) rfl ?_
  refine g_iconst dX3_fewestTenths_0 rfl ?_
  refine g_l (loc' := [some _, some _, some _, some _, some _, some _]) dX3_fewestTenths_1 rfl rfl ?_
  have loop : ∀ (m : Nat) (s : Int) (Tw' : Nat → Nat → Int → Int), 0 ≤ s → s ≤ 11 - Tw 0 4 k → (11 - Tw 0 4 k - s).toNat = m → frT 15 Tw Tw' → fwL S (Tw 0) k p n.toNat w m s = fwL S (Tw 0) k p n.toNat w (11 - Tw 0 4 k).toNat 0 →
      G none (d + 5) 3 false (some .int) 0 0 (hO S Tw M P).length cX3_fewestTenths Q 0 3 [some (.ref 205), some (.int (iI k)), some (.int (iI p)), some (.int (iI n)), some (.int (iI w)), some (.int (iI s))] [] (hO S Tw' M P) := by
    intro m
    induction m with
    | zero =>
      intro s Tw' a1 a2 hm f1 hz
      have e0 : Tw' 0 = Tw 0 := f1 0 (by decide)
      rw [fwL] at hz
      refine g_l dX3_fewestTenths_3 rfl rfl ?_
      refine g_bipush dX3_fewestTenths_5 (by decide) rfl ?_
      refine g_l dX3_fewestTenths_7 rfl rfl ?_
      refine g_getf dX3_fewestTenths_8 h205 f_3_9 rfl rfl ?_
      refine g_getf dX3_fewestTenths_11 (hT0 (by omega)) f_3_18 rfl rfl ?_
      refine g_getf dX3_fewestTenths_14 (hT1 (by omega)) f_3_53 rfl rfl ?_
      refine g_l dX3_fewestTenths_17 rfl rfl ?_
      refine g_iald dX3_fewestTenths_18 (hTa4 (by omega)) (by omega) (by decide) rfl ?_
      refine g_isub dX3_fewestTenths_19 rfl ?_
      rw [e0]
      refine g_icmp_gt (t := 83) dX3_fewestTenths_20 (by decide) rfl (by omega) (by omega) (fun c_20 => ?_) (fun c_20 => False.elim (by omega))
      refine g_bipush dX3_fewestTenths_83 (by decide) rfl ?_
      refine g_retI dX3_fewestTenths_85 rfl rfl ?_
      rw [hz]
      exact hq Tw' f1
    | succ m ih =>
      intro s Tw' a1 a2 hm f1 hz
      have e0 : Tw' 0 = Tw 0 := f1 0 (by decide)
      rw [fwL] at hz
      refine g_l dX3_fewestTenths_3 rfl rfl ?_
      refine g_bipush dX3_fewestTenths_5 (by decide) rfl ?_
      refine g_l dX3_fewestTenths_7 rfl rfl ?_
      refine g_getf dX3_fewestTenths_8 h205 f_3_9 rfl rfl ?_
      refine g_getf dX3_fewestTenths_11 (hT0 (by omega)) f_3_18 rfl rfl ?_
      refine g_getf dX3_fewestTenths_14 (hT1 (by omega)) f_3_53 rfl rfl ?_
      refine g_l dX3_fewestTenths_17 rfl rfl ?_
      refine g_iald dX3_fewestTenths_18 (hTa4 (by omega)) (by omega) (by decide) rfl ?_
      refine g_isub dX3_fewestTenths_19 rfl ?_
      rw [e0]
      refine g_icmp_gt (t := 83) dX3_fewestTenths_20 (by decide) rfl (by omega) (by omega) (fun c_20 => False.elim (by omega)) (fun c_20 => ?_)
      refine g_l dX3_fewestTenths_23 rfl rfl ?_
      refine g_getf dX3_fewestTenths_24 h205 f_3_15 rfl rfl ?_
      refine g_l dX3_fewestTenths_27 rfl rfl ?_
      refine g_getf dX3_fewestTenths_28 h205 f_3_9 rfl rfl ?_
      refine g_callV dX3_fewestTenths_31 m_3_38 (n := 1) rfl (hT0 (by omega)) rfl (Nat.le_of_ble_eq_true rfl) (Nat.le_of_ble_eq_true rfl) rfl rfl ?_
      refine s_X9_copyFrom (t := 15) (u := 0) (by decide) (by decide) (by decide) (fun T1 b1 b2 => ?_)
      simp only [Option.toList_some, Option.toList_none, List.cons_append, List.nil_append]
      refine g_l dX3_fewestTenths_34 rfl rfl ?_
      refine g_getf dX3_fewestTenths_35 h205 f_3_15 rfl rfl ?_
      refine g_getf dX3_fewestTenths_38 (hT0 (by omega)) f_3_18 rfl rfl ?_
      refine g_getf dX3_fewestTenths_41 (hT1 (by omega)) f_3_56 rfl rfl ?_
      refine g_l dX3_fewestTenths_44 rfl rfl ?_
      refine g_l dX3_fewestTenths_45 rfl rfl ?_
      refine g_iast dX3_fewestTenths_47 (hTa3 (by omega)) (by omega) (by decide) (pTa3 (by omega)) rfl ?_
      refine g_l dX3_fewestTenths_48 rfl rfl ?_
      refine g_getf dX3_fewestTenths_49 h205 f_3_15 rfl rfl ?_
      refine g_l dX3_fewestTenths_52 rfl rfl ?_
      refine g_l dX3_fewestTenths_53 rfl rfl ?_
      refine g_callV dX3_fewestTenths_55 m_3_41 (n := 2) rfl (hT0 (by omega)) rfl (Nat.le_of_ble_eq_true rfl) (Nat.le_of_ble_eq_true rfl) rfl rfl ?_
      rw [e0] at b2
      have b3 := shX_agr (k := k) (s := s) b2
      have b4 := shX_ok (k := k) (s := s) hk (by omega)
      refine s_X9_fireAll (t := 15) (by decide) hp (b4.agr b3) hB hn hw (fun T2 c1 c2 => ?_)
      simp only [Option.toList_some, Option.toList_none, List.cons_append, List.nil_append]
      have e1 := ((c2.tr (itX_agr hp b3 b4 hw n.toNat)).2.2.2 p hp0.1 hp0.2).2.2
      have r1 := ((itX_ok hp b4 hw n.toNat).2.1 p hp0.1 hp0.2).2.2.1
      have f2 : frT 15 Tw T2 := (f1.tr (b1.w)).tr c1
      refine g_l dX3_fewestTenths_58 rfl rfl ?_
      refine g_getf dX3_fewestTenths_59 h205 f_3_15 rfl rfl ?_
      refine g_getf dX3_fewestTenths_62 (hT0 (by omega)) f_3_44 rfl rfl ?_
      refine g_getf dX3_fewestTenths_65 (hT7 (by omega)) f_3_48 rfl rfl ?_
      refine g_l dX3_fewestTenths_68 rfl rfl ?_
      refine g_iald dX3_fewestTenths_69 (hTa10 (by omega)) (by omega) (by decide) rfl ?_
      refine g_iconst dX3_fewestTenths_70 rfl ?_
      rw [e1]
      refine g_icmp_ne (t := 77) dX3_fewestTenths_71 (by decide) rfl (by omega) (by omega) (fun c_71 => ?_) (fun c_71 => ?_)
      · rw [if_neg c_71] at hz
        refine g_iinc (loc' := [some _, some _, some _, some _, some _, some _]) dX3_fewestTenths_77 rfl rfl rfl ?_
        refine g_goto (t := 3) dX3_fewestTenths_80 (by decide) ?_
        exact ih (s + 1) T2 (by omega) (by omega) (by omega) f2 hz
      · rw [if_pos (by omega)] at hz
        refine g_l dX3_fewestTenths_74 rfl rfl ?_
        refine g_retI dX3_fewestTenths_76 rfl rfl ?_
        rw [hz]
        exact hq T2 f2
  exact loop _ 0 Tw (by omega) (by omega) (by rw [Int.sub_zero]) frT.rf rfl
theorem s_X3_isCracked {p n w bits B : Int} (hp : pOk S) (hk : twOk S (Tw 0) B) (hB : B ≤ 900000) (hp0 : 0 ≤ p ∧ p < S 13 5) (hn : 0 ≤ n ∧ n ≤ 9) (hw : 0 ≤ w ∧ w ≤ 9)
    (hq : ∀ Tw' r, frT 15 Tw Tw' → r = (if crL S p (sbF S (Tw 0) (Tw 0 8 p)) w bits n.toNat 0 (Tw 0) 10 p = 2 then 1 else 0) → Q (some (.int (iI r))) (hO S Tw' M P)) : CallD (d + 4) 31 [.ref 205, .int (iI p), .int (iI n), .int (iI w), .int (iI bits)] (hO S Tw M P) Q := by
  have hp5 := hp.2.1
  have q0 := hk.2.1 p hp0.1 hp0.2
  have r0 := hk.2.2 p hp0.1 hp0.2
  refine g_enter (loc := [some _, some _, some _, some _, some _, _, _]) e_X3_isCracked i_X3_isCracked (Nat.le_of_ble_eq_true rfl) rfl ?_
  refine g_l dX3_isCracked_0 rfl rfl ?_
  refine g_getf dX3_isCracked_1 h205 f_3_15 rfl rfl ?_
  refine g_l dX3_isCracked_4 rfl rfl ?_
  refine g_getf dX3_isCracked_5 h205 f_3_9 rfl rfl ?_
  refine g_callV dX3_isCracked_8 m_3_38 (n := 1) rfl (hT0 (by omega)) rfl (Nat.le_of_ble_eq_true rfl) (Nat.le_of_ble_eq_true rfl) rfl rfl ?_
  refine s_X9_copyFrom (t := 15) (u := 0) (by decide) (by decide) (by decide) (fun T1 a1 a2 => ?_)
  simp only [Option.toList_some, Option.toList_none, List.cons_append, List.nil_append]
  have e0 : T1 0 = Tw 0 := a1 0 (by decide)
  refine g_l dX3_isCracked_11 rfl rfl ?_
  refine g_getf dX3_isCracked_12 h205 f_3_9 rfl rfl ?_
  refine g_getf dX3_isCracked_15 (hT0 (by omega)) f_3_44 rfl rfl ?_
  refine g_l dX3_isCracked_18 rfl rfl ?_
  refine g_getf dX3_isCracked_19 h205 f_3_9 rfl rfl ?_
  refine g_getf dX3_isCracked_22 (hT0 (by omega)) f_3_44 rfl rfl ?_
  refine g_getf dX3_isCracked_25 (hT7 (by omega)) f_3_73 rfl rfl ?_
  refine g_l dX3_isCracked_28 rfl rfl ?_
  refine g_iald dX3_isCracked_29 (hTa8 (by omega)) (by omega) (by decide) rfl ?_
  rw [e0]
  refine g_callV dX3_isCracked_30 m_3_76 (n := 1) rfl (hT7 (by omega)) rfl (Nat.le_of_ble_eq_true rfl) (Nat.le_of_ble_eq_true rfl) rfl rfl ?_
  refine s_X4_isSaltBelow (t := 0) (by decide) hp (by rw [e0]; exact hk.2.1) (by omega) ?_
  simp only [Option.toList_some, Option.toList_none, List.cons_append, List.nil_append]
  rw [e0]
  have hsb : sbF S (Tw 0) (Tw 0 8 p) = 0 ∨ sbF S (Tw 0) (Tw 0 8 p) = 1 := by
    unfold sbF
    split
    · exact Or.inr rfl
    · exact Or.inl rfl
  generalize sbF S (Tw 0) (Tw 0 8 p) = sb at hsb hq ⊢
  refine g_l (loc' := [some _, some _, some _, some _, some _, some _, _]) dX3_isCracked_33 rfl rfl ?_
  refine g_iconst dX3_isCracked_35 rfl ?_
  refine g_l (loc' := [some _, some _, some _, some _, some _, some _, some _]) dX3_isCracked_36 rfl rfl ?_
  have fin : ∀ (T2 : Nat → Nat → Int → Int) (i : Int) (X : Nat → Int → Int) (C : Int), frT 15 Tw T2 → agr S (T2 15) X → twOk S X C → X = crL S p sb w bits n.toNat 0 (Tw 0) →
      G none (d + 3) 3 false (some .boolean) 0 0 (hO S Tw M P).length cX3_isCracked Q 0 117 [some (.ref 205), some (.int (iI p)), some (.int (iI n)), some (.int (iI w)), some (.int (iI bits)), some (.int (iI sb)), some (.int (iI i))] [] (hO S T2 M P) := by
    intro T2 i X C f1 f2 f3 f4
    have e1 := (f2.2.2.2 p hp0.1 hp0.2).2.2
    have r1 := (f3.2.1 p hp0.1 hp0.2).2.2.1
    refine g_l dX3_isCracked_117 rfl rfl ?_
    refine g_getf dX3_isCracked_118 h205 f_3_15 rfl rfl ?_
    refine g_getf dX3_isCracked_121 (hT0 (by omega)) f_3_44 rfl rfl ?_
    refine g_getf dX3_isCracked_124 (hT7 (by omega)) f_3_48 rfl rfl ?_
    refine g_l dX3_isCracked_127 rfl rfl ?_
    refine g_iald dX3_isCracked_128 (hTa10 (by omega)) (by omega) (by decide) rfl ?_
    refine g_iconst dX3_isCracked_129 rfl ?_
    rw [e1]
    refine g_icmp_ne (t := 137) dX3_isCracked_130 (by decide) rfl (by omega) (by omega) (fun c_130 => ?_) (fun c_130 => ?_)
    · refine g_iconst dX3_isCracked_137 rfl ?_
      refine g_retZ dX3_isCracked_138 rfl rfl (by omega) ?_
      exact hq T2 0 f1 (by rw [← f4, if_neg c_130])
    · refine g_iconst dX3_isCracked_133 rfl ?_
      refine g_goto (t := 138) dX3_isCracked_134 (by decide) ?_
      refine g_retZ dX3_isCracked_138 rfl rfl (by omega) ?_
      exact hq T2 1 f1 (by rw [← f4, if_pos (by omega)])
  have loop : ∀ (m : Nat) (i : Int) (X : Nat → Int → Int) (Tw' : Nat → Nat → Int → Int), 0 ≤ i → i ≤ n → (n - i).toNat = m → frT 15 Tw Tw' → agr S (Tw' 15) X → twOk S X (B + 180 * i) → X 8 p = Tw 0 8 p → X 1 5 = Tw 0 1 5 → crL S p sb w bits m i X = crL S p sb w bits n.toNat 0 (Tw 0) →
      G none (d + 3) 3 false (some .boolean) 0 0 (hO S Tw M P).length cX3_isCracked Q 0 38 [some (.ref 205), some (.int (iI p)), some (.int (iI n)), some (.int (iI w)), some (.int (iI bits)), some (.int (iI sb)), some (.int (iI i))] [] (hO S Tw' M P) := by
    intro m
    induction m with
    | zero =>
      intro i X Tw' b1 b2 hm f1 f2 f3 f4 f5 hz
      rw [crL] at hz
      refine g_l dX3_isCracked_38 rfl rfl ?_
      refine g_l dX3_isCracked_40 rfl rfl ?_
      refine g_icmp_ge (t := 117) dX3_isCracked_41 (by decide) rfl (by omega) (by omega) (fun c_41 => ?_) (fun c_41 => False.elim (by omega))
      exact fin Tw' i X _ f1 f2 f3 hz
    | succ m ih =>
      intro i X Tw' b1 b2 hm f1 f2 f3 f4 f5 hz
      rw [crL] at hz
      have e1 := (f2.2.2.2 p hp0.1 hp0.2).2.2
      have r1 := (f3.2.1 p hp0.1 hp0.2).2.2.1
      have f6 := f3.agr f2
      refine g_l dX3_isCracked_38 rfl rfl ?_
      refine g_l dX3_isCracked_40 rfl rfl ?_
      refine g_icmp_ge (t := 117) dX3_isCracked_41 (by decide) rfl (by omega) (by omega) (fun c_41 => False.elim (by omega)) (fun c_41 => ?_)
      refine g_l dX3_isCracked_44 rfl rfl ?_
      refine g_getf dX3_isCracked_45 h205 f_3_15 rfl rfl ?_
      refine g_getf dX3_isCracked_48 (hT0 (by omega)) f_3_44 rfl rfl ?_
      refine g_getf dX3_isCracked_51 (hT7 (by omega)) f_3_48 rfl rfl ?_
      refine g_l dX3_isCracked_54 rfl rfl ?_
      refine g_iald dX3_isCracked_55 (hTa10 (by omega)) (by omega) (by decide) rfl ?_
      rw [e1]
      refine g_if_ne (t := 117) dX3_isCracked_56 (by decide) rfl (by omega) (fun c_56 => ?_) (fun c_56 => ?_)
      · rw [if_neg c_56] at hz
        exact fin Tw' i X _ f1 f2 f3 hz
      · rw [if_pos (by omega)] at hz
        refine g_l dX3_isCracked_59 rfl rfl ?_
        refine g_getf dX3_isCracked_60 h205 f_3_15 rfl rfl ?_
        refine g_getf dX3_isCracked_63 (hT0 (by omega)) f_3_18 rfl rfl ?_
        refine g_l dX3_isCracked_66 rfl rfl ?_
        refine g_callV dX3_isCracked_67 m_3_80 (n := 1) rfl (hT1 (by omega)) rfl (Nat.le_of_ble_eq_true rfl) (Nat.le_of_ble_eq_true rfl) rfl rfl ?_
        refine s_X2_burn (t := 15) (by decide) (f6.1.k (by omega)) (fun T2 hb => ?_)
        simp only [Option.toList_some, Option.toList_none, List.cons_append, List.nil_append]
        have z1 := burnP_agr (S := S) hb
        have z2 := bX_agr (w := w) f2 ⟨f3.1.1, f3.1.2.1⟩
        have z3 : agr5 S (T2 15) (bX w X) := agr5.tr z1 z2
        have z4 := bX_ok f3 hw
        have z5 : hOk (bX w X) (X 8 p) := bX_h f3 (by omega) hw (by rw [f4]; exact q0.1.1) (by rw [f4, f5]; exact r0)
        have rest : ∀ (T3 : Nat → Nat → Int → Int) (Z : Nat → Int → Int), Z = (if bAnd (bShr bits i) 1 = 1 then blX (bX w X) else bX w X) → frT 15 Tw T3 → agr5 S (T3 15) Z → twOk S Z (B + 180 * i + 180) → hOk Z (X 8 p) → Z 8 p = X 8 p → Z 1 5 = X 1 5 →
            G none (d + 3) 3 false (some .boolean) 0 0 (hO S Tw M P).length cX3_isCracked Q 0 91 [some (.ref 205), some (.int (iI p)), some (.int (iI n)), some (.int (iI w)), some (.int (iI bits)), some (.int (iI sb)), some (.int (iI i))] [] (hO S T3 M P) := by
          intro T3 Z y1 y2 y3 y4 y5 y6 y7
          have e8 := (y3.1.2.2.2 p hp0.1 hp0.2).1
          have y8 : T3 15 8 p = X 8 p := by rw [e8, y6]
          have hr : 0 ≤ Z 8 p ∧ Z 8 p < Z 1 5 := by rw [y6, y7, f4, f5]; exact ⟨q0.1.1, r0⟩
          refine g_l dX3_isCracked_91 rfl rfl ?_
          refine g_getf dX3_isCracked_92 h205 f_3_15 rfl rfl ?_
          refine g_getf dX3_isCracked_95 (hT0 (by omega)) f_3_44 rfl rfl ?_
          refine g_l dX3_isCracked_98 rfl rfl ?_
          refine g_l dX3_isCracked_99 rfl rfl ?_
          refine g_getf dX3_isCracked_100 h205 f_3_15 rfl rfl ?_
          refine g_getf dX3_isCracked_103 (hT0 (by omega)) f_3_18 rfl rfl ?_
          refine g_l dX3_isCracked_106 rfl rfl ?_
          refine g_callV dX3_isCracked_108 m_3_87 (n := 3) rfl (hT7 (by omega)) rfl (Nat.le_of_ble_eq_true rfl) (Nat.le_of_ble_eq_true rfl) rfl rfl ?_
          refine s_X4_feel (t := 15) (by decide) hp hp0.1 hp0.2 (y4.agr y3.1).2.1 ?_ hsb (fun T4 hf => ?_)
          · rw [y8]
            exact hOk_agr y3 y5 (by rw [f4]; exact q0.1.1) (by rw [y7, f4, f5]; exact r0) (by rw [y7, f5]; exact hk.1.2.1)
          · simp only [Option.toList_some, Option.toList_none, List.cons_append, List.nil_append]
            refine g_iinc (loc' := [some _, some _, some _, some _, some _, some _, some _]) dX3_isCracked_111 rfl rfl rfl ?_
            refine g_goto (t := 38) dX3_isCracked_114 (by decide) ?_
            have x1 : agr S (T4 15) (feX S p sb Z) := (potP_agr hf).tr (feX_agr y3 hp0 hr (by rw [y7, f5]; exact hk.1.2.1))
            have x2 : feX S p sb Z = qX S p sb w (bAnd (bShr bits i) 1) X := by rw [y1]; rfl
            rw [x2] at x1
            refine ih (i + 1) _ T4 (by omega) (by omega) (by omega) (y2.tr hf.1) x1 ?_ ?_ ?_ hz
            · rw [← x2, show B + 180 * (i + 1) = B + 180 * i + 180 by omega]
              exact feX_ok hp y4 hp0
            · rw [← x2]
              show Z 8 p = _
              rw [y6, f4]
            · rw [← x2]
              show Z 1 5 = _
              rw [y7, f5]
        have rb : R32 (bAnd (bShr bits i) 1) := R_bAnd
        refine g_l dX3_isCracked_70 rfl rfl ?_
        refine g_l dX3_isCracked_72 rfl rfl ?_
        refine g_ishr dX3_isCracked_74 rfl ?_
        refine g_iconst dX3_isCracked_75 rfl ?_
        refine g_iand dX3_isCracked_76 rfl ?_
        refine g_iconst dX3_isCracked_77 rfl ?_
        refine g_icmp_ne (t := 91) dX3_isCracked_78 (by decide) rfl (by omega) (by omega) (fun c_78 => ?_) (fun c_78 => ?_)
        · exact rest T2 _ (by rw [if_neg c_78]) (f1.tr hb.1) z3 z4 z5 rfl rfl
        · refine g_l dX3_isCracked_81 rfl rfl ?_
          refine g_getf dX3_isCracked_82 h205 f_3_15 rfl rfl ?_
          refine g_getf dX3_isCracked_85 (hT0 (by omega)) f_3_18 rfl rfl ?_
          refine g_callV dX3_isCracked_88 m_3_84 (n := 0) rfl (hT1 (by omega)) rfl (Nat.le_of_ble_eq_true rfl) (Nat.le_of_ble_eq_true rfl) rfl rfl ?_
          refine s_X2_blow (t := 15) (by decide) ((z4.agr z3.1).1.k (by omega)) (fun T3 g1 g2 g3 => ?_)
          simp only [Option.toList_some, Option.toList_none, List.cons_append, List.nil_append]
          have z6 : agr5 S (T3 15) (blX (bX w X)) := (blow_agr g2 g3).tr (blX_agr z3)
          exact rest T3 _ (by rw [if_pos (by omega)]) ((f1.tr hb.1).tr g1) z6 (blX_ok z4) (blX_h z5) rfl rfl
  exact loop n.toNat 0 (Tw 0) T1 (by omega) (by omega) (by rw [Int.sub_zero]) a1 a2 (by simpa using hk) rfl rfl rfl
end PM
