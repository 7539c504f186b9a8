/-! the reference: blame, slots -/
theorem tq_tr {S0 X M : Nat → Int → Int} {k s i : Int} (hi : 0 ≤ i ∧ i < S0 199 7) (hc : cnP S0 M) (h4 : M 0 4 = X 1 5) (hn : X 1 5 ≤ 5) (h2 : ∀ j, 0 ≤ j → j < 5 → M 2 j = (if j = k then s else X 3 j)) (h3 : ∀ j, 0 ≤ j → j < 5 → M 3 j = X 4 j) : tqB M i ↔ trB S0 X k s i := by
  obtain ⟨y1, y2, y3, y4, y5⟩ := hc.2 i hi.1 hi.2
  unfold tqB trB
  rw [y1, y2, y3, y4, y5, h4]
  constructor
  · rintro ⟨z, q⟩
    rw [hIt_congr3 (h' := fun _ => 0) (s' := fun j => if j = k then s else X 3 j) (dm' := X 4) hn (fun j a b => ⟨rfl, h2 j a b, h3 j a b⟩) _ _ z.1 (by omega)] at q
    exact ⟨z, q⟩
  · rintro ⟨z, q⟩
    rw [← hIt_congr3 (h := fun _ => 0) (s := M 2) (dm := M 3) hn (fun j a b => ⟨rfl, h2 j a b, h3 j a b⟩) _ _ z.1 (by omega)] at q
    exact ⟨z, q⟩
/-- a slot's page -/
def kpP (M M' : Nat → Int → Int) (s : Int) : Prop := (∀ k, 0 ≤ k → k < 5 → M' 17 (36 * s + k) = M 4 k ∧ M' 17 (36 * s + 5 + k) = M 2 k ∧ M' 17 (36 * s + 10 + k) = M 3 k ∧ M' 17 (36 * s + 15 + k) = M 5 k ∧ M' 17 (36 * s + 20 + k) = M 11 k ∧ M' 17 (36 * s + 25 + k) = M 12 k) ∧ M' 17 (36 * s + 30) = M 0 17 ∧ ∀ j, (j < 36 * s ∨ 36 * s + 31 ≤ j) → M' 17 j = M 17 j
section RH
variable {S : Nat → Int → Int} {Tw : Nat → Nat → Int → Int} {M : Nat → Int → Int} {P : Nat → Nat} {d : Nat} {Q : Option Value → GH → Prop}
set_option maxHeartbeats 1000000 in
theorem s_X12_blame {S0 X : Nat → Int → Int} {k B : Int} (hk : R32 k) (hc : cnP S0 M) (hcb : nOk S0) (ha : agr S0 (nX M) X) (hX : tOk X B) (q1 : ¬ (0 ≤ k ∧ k < X 1 5) → ∀ M1, quFr M M1 → Q (some (.int (iI (-1)))) (hO S Tw M1 P)) (q2 : 0 ≤ k ∧ k < X 1 5 → ∀ M1, quFr M M1 → Q (some (.int (iI (ttF S0 X k (11 - X 4 k).toNat)))) (hO S Tw M1 P)) : CallD (d + 4) 160 [.ref 248, .int (iI k)] (hO S Tw M P) Q := by
  have n4 : M 0 4 = X 1 5 := ha.1
  obtain ⟨x1, x2, x3, -⟩ := hX
  obtain ⟨c1, c2, c3⟩ := hcb
  have n35 := hc.1
  refine g_enter (loc := [some _, some _, _, _, _, _, _]) e_X12_blame i_X12_blame (Nat.le_of_ble_eq_true rfl) rfl ?_
  refine g_l dX12_blame_0 rfl rfl ?_
  refine g_iconst dX12_blame_1 rfl ?_
  refine g_putf dX12_blame_2 h248 f_12_108 (Nat.le_of_ble_eq_true rfl) rfl rfl p248_0 rfl ?_
  have h1 := thP_w (M := M)
  generalize wS M 0 0 0 = M1 at h1 ⊢
  have z4 : M1 0 4 = M 0 4 := h1.2 4 (by decide)
  refine g_l dX12_blame_5 rfl rfl ?_
  refine g_l dX12_blame_6 rfl rfl ?_
  refine g_callV dX12_blame_7 m_12_172 (n := 1) rfl h248 rfl (Nat.le_of_ble_eq_true rfl) (Nat.le_of_ble_eq_true rfl) rfl rfl ?_
  refine s_X12_noKiln hk (by omega) (fun z => ?_) (fun z => ?_)
  · simp only [Option.toList_some, Option.toList_none, List.cons_append, List.nil_append]
    refine g_if_eq (t := 15) dX12_blame_10 (by decide) rfl (by omega) (fun c_10 => False.elim (by omega)) (fun c_10 => ?_)
    refine g_iconst dX12_blame_13 rfl ?_
    refine g_retI dX12_blame_14 rfl rfl ?_
    exact q1 (by omega) M1 h1.q
  · rw [z4, n4] at z
    have m2 : ∀ j, 0 ≤ j → j < 5 → M 2 j = X 3 j := fun j y1 y2 => (ha.2.2.1 j y1 y2).2.1
    have m3 : ∀ j, 0 ≤ j → j < 5 → M 3 j = X 4 j := fun j y1 y2 => (ha.2.2.1 j y1 y2).2.2
    have m2' : M1 2 k = X 3 k := by rw [h1.1 2 (by decide)]; exact m2 k z.1 (by omega)
    have xk := x3 k z.1 (by omega)
    have h2 := q2 z
    simp only [Option.toList_some, Option.toList_none, List.cons_append, List.nil_append]
    refine g_if_eq (t := 15) dX12_blame_10 (by decide) rfl (by omega) (fun c_10 => ?_) (fun c_10 => False.elim (by omega))
    refine g_l dX12_blame_15 rfl rfl ?_
    refine g_getf dX12_blame_16 h248 f_12_17 rfl rfl ?_
    refine g_l dX12_blame_19 rfl rfl ?_
    refine g_iald dX12_blame_20 h250 (by omega) (by decide) rfl ?_
    rw [m2']
    refine g_l (loc' := [some _, some _, some _, _, _, _, _]) dX12_blame_21 rfl rfl ?_
    refine g_iconst dX12_blame_22 rfl ?_
    refine g_l (loc' := [some _, some _, some _, some _, _, _, _]) dX12_blame_23 rfl rfl ?_
    refine g_iconst dX12_blame_24 rfl ?_
    refine g_l (loc' := [some _, some _, some _, some _, some _, _, _]) dX12_blame_25 rfl rfl ?_
    have loop : ∀ (m : Nat) (s : Int) (M2 : Nat → Int → Int) (z5 z6 : Option Value), 0 ≤ s → s ≤ 11 - X 4 k → (11 - X 4 k - s).toNat = m → (∀ c, c ≠ 0 → c ≠ 2 → ¬ (13 ≤ c ∧ c ≤ 15) → ¬ (19 ≤ c ∧ c ≤ 24) → c ≠ 30 → c ≠ 31 → M2 c = M c) → (∀ j, (j = 2 ∨ j = 4 ∨ j = 5 ∨ j = 17 ∨ j = 25 ∨ j = 35) → M2 0 j = M 0 j) → (∀ j, j ≠ k → M2 2 j = M 2 j) →
        G none (d + 3) 12 false (some .int) 0 0 (hO S Tw M P).length cX12_blame Q 0 27 [some (.ref 248), some (.int (iI k)), some (.int (iI (X 3 k))), some (.int (iI (ttF S0 X k s.toNat))), some (.int (iI s)), z5, z6] [] (hO S Tw M2 P) := by
      intro m
      induction m with
      | zero =>
        intro s M2 z5 z6 b1 b2 hm f1 f2 f3
        have es : s = 11 - X 4 k := by omega
        have e3 : M2 3 k = X 4 k := by rw [f1 3 (by decide) (by decide) (by decide) (by decide) (by decide) (by decide)]; exact m3 k z.1 (by omega)
        have h4 := h2 (wS M2 2 k (X 3 k)) ⟨fun c y1 y2 y3 y4 y5 => ?_, fun j hj => ?_⟩
        · rw [es]
          generalize ttF S0 X k (11 - X 4 k).toNat = r at h4 ⊢
          refine g_l dX12_blame_27 rfl rfl ?_
          refine g_bipush dX12_blame_29 (by decide) rfl ?_
          refine g_l dX12_blame_31 rfl rfl ?_
          refine g_getf dX12_blame_32 h248 f_12_20 rfl rfl ?_
          refine g_l dX12_blame_35 rfl rfl ?_
          refine g_iald dX12_blame_36 h251 (by omega) (by decide) rfl ?_
          rw [e3]
          refine g_isub dX12_blame_37 rfl ?_
          refine g_icmp_gt (t := 105) dX12_blame_38 (by decide) rfl (by omega) (by omega) (fun c_38 => ?_) (fun c_38 => False.elim (by omega))
          refine g_l dX12_blame_105 rfl rfl ?_
          refine g_getf dX12_blame_106 h248 f_12_17 rfl rfl ?_
          refine g_l dX12_blame_109 rfl rfl ?_
          refine g_l dX12_blame_110 rfl rfl ?_
          refine g_iast dX12_blame_111 h250 (by omega) (by decide) p250 rfl ?_
          refine g_l dX12_blame_112 rfl rfl ?_
          refine g_retI dX12_blame_113 rfl rfl ?_
          exact h4
        · by_cases e2 : c = 2
          · subst e2
            funext j
            rw [wS_s]
            by_cases e : j = k
            · rw [if_pos e, e, m2 k z.1 (by omega)]
            · rw [if_neg e]; exact f3 j e
          · rw [wS_o e2]; exact f1 c y1 e2 y2 y3 y4 y5
        · rw [wS_o (by decide)]; exact f2 j hj
      | succ m ih =>
        intro s M2 z5 z6 b1 b2 hm f1 f2 f3
        have e3 : M2 3 k = X 4 k := by rw [f1 3 (by decide) (by decide) (by decide) (by decide) (by decide) (by decide)]; exact m3 k z.1 (by omega)
        have es : ttF S0 X k (s + 1).toNat = bOr (ttF S0 X k s.toNat) (@ite Int (∀ i, 0 ≤ i → i < S0 199 7 → trB S0 X k s i) (Classical.propDecidable _) (bShl 1 s) 0) := @setF_s _ (fun _ => Classical.propDecidable _) s b1
        have next : ∀ (M3 : Nat → Int → Int) (z5 z6 : Option Value), goFr (wS M2 2 k s) M3 → G none (d + 3) 12 false (some .int) 0 0 (hO S Tw M P).length cX12_blame Q 0 27 [some (.ref 248), some (.int (iI k)), some (.int (iI (X 3 k))), some (.int (iI (ttF S0 X k (s + 1).toNat))), some (.int (iI (s + 1))), z5, z6] [] (hO S Tw M3 P) := fun M3 z5 z6 g => ih (s + 1) M3 z5 z6 (by omega) (by omega) (by omega) (fun c y1 y2 y3 y4 y5 y6 => by rw [g.1 c y1 (by omega) (by omega) (by omega) (by omega) (by omega), wS_o y2]; exact f1 c y1 y2 y3 y4 y5 y6) (fun j hj => by rw [g.2 j (by omega), wS_o (by decide)]; exact f2 j hj) (fun j hj => by rw [g.1 2 (by decide) (by decide) (by decide) (by decide) (by decide) (by decide), wS_s, if_neg hj]; exact f3 j hj)
        generalize ttF S0 X k s.toNat = bits at es ⊢
        generalize ttF S0 X k (s + 1).toNat = bits2 at es next
        refine g_l dX12_blame_27 rfl rfl ?_
        refine g_bipush dX12_blame_29 (by decide) rfl ?_
        refine g_l dX12_blame_31 rfl rfl ?_
        refine g_getf dX12_blame_32 h248 f_12_20 rfl rfl ?_
        refine g_l dX12_blame_35 rfl rfl ?_
        refine g_iald dX12_blame_36 h251 (by omega) (by decide) rfl ?_
        rw [e3]
        refine g_isub dX12_blame_37 rfl ?_
        refine g_icmp_gt (t := 105) dX12_blame_38 (by decide) rfl (by omega) (by omega) (fun c_38 => False.elim (by omega)) (fun c_38 => ?_)
        refine g_l dX12_blame_41 rfl rfl ?_
        refine g_getf dX12_blame_42 h248 f_12_17 rfl rfl ?_
        refine g_l dX12_blame_45 rfl rfl ?_
        refine g_l dX12_blame_46 rfl rfl ?_
        refine g_iast dX12_blame_48 h250 (by omega) (by decide) p250 rfl ?_
        refine g_iconst dX12_blame_49 rfl ?_
        refine g_l (loc' := [some _, some _, some _, some _, some _, some _, _]) dX12_blame_50 rfl rfl ?_
        refine g_iconst dX12_blame_52 rfl ?_
        refine g_l (loc' := [some _, some _, some _, some _, some _, some _, some _]) dX12_blame_53 rfl rfl ?_
        -- the cones
        have tq : ∀ (M3 : Nat → Int → Int) (i : Int), 0 ≤ i → i < S0 199 7 → goFr (wS M2 2 k s) M3 → (tqB M3 i ↔ trB S0 X k s i) := by
          intro M3 i y1 y2 g
          have gg : ∀ c, 25 ≤ c → c ≤ 29 → M3 c = M c := fun c w1 w2 => by rw [g.1 c (by omega) (by omega) (by omega) (by omega) (by omega) (by omega), wS_o (by omega)]; exact f1 c (by omega) (by omega) (by omega) (by omega) (by omega) (by omega)
          refine tq_tr ⟨y1, y2⟩ ⟨?_, fun j w1 w2 => ?_⟩ ?_ x2 (fun j w1 w2 => ?_) (fun j w1 w2 => ?_)
          · rw [g.2 35 (by decide), wS_o (by decide), f2 35 (by decide)]; exact n35
          · rw [gg 25 (by decide) (by decide), gg 26 (by decide) (by decide), gg 27 (by decide) (by decide), gg 28 (by decide) (by decide), gg 29 (by decide) (by decide)]
            exact hc.2 j w1 w2
          · rw [g.2 4 (by decide), wS_o (by decide), f2 4 (by decide)]; exact n4
          · rw [g.1 2 (by decide) (by decide) (by decide) (by decide) (by decide) (by decide), wS_s]
            by_cases e : j = k
            · rw [if_pos e, if_pos e]
            · rw [if_neg e, if_neg e, f3 j e]; exact m2 j w1 w2
          · rw [g.1 3 (by decide) (by decide) (by decide) (by decide) (by decide) (by decide), wS_o (by decide), f1 3 (by decide) (by decide) (by decide) (by decide) (by decide) (by decide)]; exact m3 j w1 w2
        have done : ∀ (M3 : Nat → Int → Int) (b i : Int), goFr (wS M2 2 k s) M3 → (b = 1 ∧ (∀ i, 0 ≤ i → i < S0 199 7 → trB S0 X k s i) ∨ b = 0 ∧ ¬ (∀ i, 0 ≤ i → i < S0 199 7 → trB S0 X k s i)) →
            G none (d + 3) 12 false (some .int) 0 0 (hO S Tw M P).length cX12_blame Q 0 83 [some (.ref 248), some (.int (iI k)), some (.int (iI (X 3 k))), some (.int (iI bits)), some (.int (iI s)), some (.int (iI b)), some (.int (iI i))] [] (hO S Tw M3 P) := by
          intro M3 b i g hb
          rcases hb with ⟨hb, h⟩ | ⟨hb, h⟩
          · subst hb
            rw [if_pos h] at es
            refine g_l dX12_blame_83 rfl rfl ?_
            refine g_l dX12_blame_84 rfl rfl ?_
            refine g_if_eq (t := 96) dX12_blame_86 (by decide) rfl (by omega) (fun c_86 => False.elim (by omega)) (fun c_86 => ?_)
            refine g_iconst dX12_blame_89 rfl ?_
            refine g_l dX12_blame_90 rfl rfl ?_
            refine g_ishl dX12_blame_92 rfl ?_
            refine g_goto (t := 97) dX12_blame_93 (by decide) ?_
            refine g_ior dX12_blame_97 rfl ?_
            rw [← es]
            refine g_l (loc' := [some _, some _, some _, some _, some _, some _, some _]) dX12_blame_98 rfl rfl ?_
            refine g_iinc (loc' := [some _, some _, some _, some _, some _, some _, some _]) dX12_blame_99 rfl rfl rfl ?_
            refine g_goto (t := 27) dX12_blame_102 (by decide) ?_
            exact next M3 _ _ g
          · subst hb
            rw [if_neg h] at es
            refine g_l dX12_blame_83 rfl rfl ?_
            refine g_l dX12_blame_84 rfl rfl ?_
            refine g_if_eq (t := 96) dX12_blame_86 (by decide) rfl (by omega) (fun c_86 => ?_) (fun c_86 => False.elim (by omega))
            refine g_iconst dX12_blame_96 rfl ?_
            refine g_ior dX12_blame_97 rfl ?_
            rw [← es]
            refine g_l (loc' := [some _, some _, some _, some _, some _, some _, some _]) dX12_blame_98 rfl rfl ?_
            refine g_iinc (loc' := [some _, some _, some _, some _, some _, some _, some _]) dX12_blame_99 rfl rfl rfl ?_
            refine g_goto (t := 27) dX12_blame_102 (by decide) ?_
            exact next M3 _ _ g
        have inner : ∀ (r : Nat) (i : Int) (M3 : Nat → Int → Int), 0 ≤ i → i ≤ S0 199 7 → (S0 199 7 - i).toNat = r → goFr (wS M2 2 k s) M3 → (∀ j, 0 ≤ j → j < i → trB S0 X k s j) →
            G none (d + 3) 12 false (some .int) 0 0 (hO S Tw M P).length cX12_blame Q 0 55 [some (.ref 248), some (.int (iI k)), some (.int (iI (X 3 k))), some (.int (iI bits)), some (.int (iI s)), some (.int (iI 1)), some (.int (iI i))] [] (hO S Tw M3 P) := by
          intro r
          induction r with
          | zero =>
            intro i M3 w1 w2 hr g h
            have e35 : M3 0 35 = S0 199 7 := by rw [g.2 35 (by decide), wS_o (by decide), f2 35 (by decide)]; exact n35
            refine g_l dX12_blame_55 rfl rfl ?_
            refine g_l dX12_blame_57 rfl rfl ?_
            refine g_getf dX12_blame_58 h248 f_12_169 rfl rfl ?_
            rw [e35]
            refine g_icmp_ge (t := 83) dX12_blame_61 (by decide) rfl (by omega) (by omega) (fun c_61 => ?_) (fun c_61 => False.elim (by omega))
            exact done M3 1 i g (Or.inl ⟨rfl, fun j y1 y2 => h j y1 (by omega)⟩)
          | succ r ihr =>
            intro i M3 w1 w2 hr g h
            have e35 : M3 0 35 = S0 199 7 := by rw [g.2 35 (by decide), wS_o (by decide), f2 35 (by decide)]; exact n35
            have gg : ∀ c, 25 ≤ c → c ≤ 29 → M3 c = M c := fun c w1 w2 => by rw [g.1 c (by omega) (by omega) (by omega) (by omega) (by omega) (by omega), wS_o (by omega)]; exact f1 c (by omega) (by omega) (by omega) (by omega) (by omega) (by omega)
            have ti := tq M3 i w1 (by omega) g
            have ci := c3 i w1 (by omega)
            obtain ⟨v1, v2, v3, v4, v5⟩ := hc.2 i w1 (by omega)
            rw [← v1, ← v2, ← v3, ← v4, ← v5, ← gg 25 (by decide) (by decide), ← gg 26 (by decide) (by decide), ← gg 27 (by decide) (by decide), ← gg 28 (by decide) (by decide), ← gg 29 (by decide) (by decide)] at ci
            have sk : sdOk M3 := by
              refine ⟨by rw [g.2 4 (by decide), wS_o (by decide), f2 4 (by decide)]; omega, fun j y1 y2 => ?_⟩
              have y := x3 j y1 y2
              rw [g.1 2 (by decide) (by decide) (by decide) (by decide) (by decide) (by decide), g.1 3 (by decide) (by decide) (by decide) (by decide) (by decide) (by decide), wS_s, wS_o (by decide), f1 3 (by decide) (by decide) (by decide) (by decide) (by decide) (by decide), m3 j y1 y2]
              by_cases e : j = k
              · subst e; rw [if_pos rfl]; omega
              · rw [if_neg e, f3 j e, m2 j y1 y2]; omega
            refine g_l dX12_blame_55 rfl rfl ?_
            refine g_l dX12_blame_57 rfl rfl ?_
            refine g_getf dX12_blame_58 h248 f_12_169 rfl rfl ?_
            rw [e35]
            refine g_icmp_ge (t := 83) dX12_blame_61 (by decide) rfl (by omega) (by omega) (fun c_61 => False.elim (by omega)) (fun c_61 => ?_)
            refine g_l dX12_blame_64 rfl rfl ?_
            refine g_if_eq (t := 83) dX12_blame_66 (by decide) rfl (by omega) (fun c_66 => False.elim (by omega)) (fun c_66 => ?_)
            refine g_l dX12_blame_69 rfl rfl ?_
            refine g_l dX12_blame_70 rfl rfl ?_
            refine g_callV dX12_blame_72 m_12_232 (n := 1) rfl h248 rfl (Nat.le_of_ble_eq_true rfl) (Nat.le_of_ble_eq_true rfl) rfl rfl ?_
            refine s_X12_isTrue (by omega) sk ci (fun y M4 g4 => ?_) (fun y M4 g4 => ?_)
            · simp only [Option.toList_some, Option.toList_none, List.cons_append, List.nil_append]
              refine g_l (loc' := [some _, some _, some _, some _, some _, some _, some _]) dX12_blame_75 rfl rfl ?_
              refine g_iinc (loc' := [some _, some _, some _, some _, some _, some _, some _]) dX12_blame_77 rfl rfl rfl ?_
              refine g_goto (t := 55) dX12_blame_80 (by decide) ?_
              refine ihr (i + 1) M4 (by omega) (by omega) (by omega) (g.tr g4) (fun j y1 y2 => ?_)
              by_cases e : j = i
              · subst e; exact ti.mp y
              · exact h j y1 (by omega)
            · have nt : ¬ (∀ i, 0 ≤ i → i < S0 199 7 → trB S0 X k s i) := fun q => y (ti.mpr (q i w1 (by omega)))
              have e35' : M4 0 35 = S0 199 7 := by rw [g4.2 35 (by decide)]; exact e35
              simp only [Option.toList_some, Option.toList_none, List.cons_append, List.nil_append]
              refine g_l (loc' := [some _, some _, some _, some _, some _, some _, some _]) dX12_blame_75 rfl rfl ?_
              refine g_iinc (loc' := [some _, some _, some _, some _, some _, some _, some _]) dX12_blame_77 rfl rfl rfl ?_
              refine g_goto (t := 55) dX12_blame_80 (by decide) ?_
              refine g_l dX12_blame_55 rfl rfl ?_
              refine g_l dX12_blame_57 rfl rfl ?_
              refine g_getf dX12_blame_58 h248 f_12_169 rfl rfl ?_
              rw [e35']
              refine g_icmp_ge (t := 83) dX12_blame_61 (by decide) rfl (by omega) (by omega) (fun c_61 => ?_) (fun c_61 => ?_)
              · exact done M4 0 (i + 1) (g.tr g4) (Or.inr ⟨rfl, nt⟩)
              · refine g_l dX12_blame_64 rfl rfl ?_
                refine g_if_eq (t := 83) dX12_blame_66 (by decide) rfl (by omega) (fun c_66 => ?_) (fun c_66 => False.elim (by omega))
                exact done M4 0 (i + 1) (g.tr g4) (Or.inr ⟨rfl, nt⟩)
        exact inner (S0 199 7).toNat 0 _ (by omega) c1 (by rw [Int.sub_zero]) goFr.rf (fun j y1 y2 => by omega)
    exact loop (11 - X 4 k).toNat 0 M1 none none (by omega) (by omega) (by rw [Int.sub_zero]) (fun c y1 _ _ _ _ _ => h1.1 c y1) (fun j hj => h1.2 j (by omega)) (fun j _ => by rw [h1.1 2 (by decide)])
set_option maxHeartbeats 2000000 in
theorem s_X12_keep {s : Int} (hs : R32 s) (ht : 2 ≤ M 0 4 ∧ M 0 4 ≤ 5) (q1 : ¬ (0 ≤ s ∧ s < 2) → ∀ M1, thP M M1 → Q (some (.int (iI (-1)))) (hO S Tw M1 P)) (q2 : 0 ≤ s ∧ s < 2 → ∀ M', (∀ c, c ≠ 0 → c ≠ 17 → c ≠ 18 → M' c = M c) → (∀ j, j ≠ 0 → M' 0 j = M 0 j) → (∀ j, M' 18 j = (if j = s then 1 else M 18 j)) → kpP M M' s → Q (some (.int (iI (sumF (M 4) (M 0 4).toNat)))) (hO S Tw M' P)) : CallD (d + 2) 162 [.ref 248, .int (iI s)] (hO S Tw M P) Q := by
  refine g_enter (loc := [some _, some _, _, _]) e_X12_keep i_X12_keep (Nat.le_of_ble_eq_true rfl) rfl ?_
  refine g_l dX12_keep_0 rfl rfl ?_
  refine g_iconst dX12_keep_1 rfl ?_
  refine g_putf dX12_keep_2 h248 f_12_108 (Nat.le_of_ble_eq_true rfl) rfl rfl p248_0 rfl ?_
  have h1 := thP_w (M := M)
  generalize wS M 0 0 0 = M1 at h1 ⊢
  refine g_l dX12_keep_5 rfl rfl ?_
  refine g_i2l dX12_keep_6 hs rfl ?_
  refine g_lconst0 dX12_keep_7 rfl rfl ?_
  refine g_lconst1 dX12_keep_8 rfl rfl ?_
  refine g_callS dX12_keep_9 m_12_111 (n := 3) rfl (by exact Nat.le_of_ble_eq_true rfl) (by exact Nat.le_of_ble_eq_true rfl) (by rfl) (by rfl) (by rfl) ?_
  refine s_X12_in (by omega) (by decide) (by decide) (fun y => ?_) (fun y => ?_)
  · have hq := q2 (by omega)
    simp only [Option.toList_some, Option.toList_none, List.cons_append, List.nil_append]
    refine g_if_ne (t := 17) dX12_keep_12 (by decide) rfl (by omega) (fun c_12 => ?_) (fun c_12 => False.elim (by omega))
    refine g_l dX12_keep_17 rfl rfl ?_
    refine g_getf dX12_keep_18 h248 f_12_65 rfl rfl ?_
    refine g_l dX12_keep_21 rfl rfl ?_
    refine g_iconst dX12_keep_22 rfl ?_
    refine g_bast dX12_keep_23 h266 (by omega) (by omega) (by decide) p266 rfl ?_
    refine g_bipush dX12_keep_24 (by decide) rfl ?_
    refine g_l dX12_keep_26 rfl rfl ?_
    refine g_imul dX12_keep_27 rfl ?_
    refine g_l (loc' := [some _, some _, some _, _]) dX12_keep_28 rfl rfl ?_
    refine g_iconst dX12_keep_29 rfl ?_
    refine g_l (loc' := [some _, some _, some _, some _]) dX12_keep_30 rfl rfl ?_
    have loop : ∀ (m : Nat) (i : Int) (M2 : Nat → Int → Int), 0 ≤ i → i ≤ 5 → (5 - i).toNat = m → (∀ c, c ≠ 0 → c ≠ 17 → c ≠ 18 → M2 c = M c) → (∀ j, j ≠ 0 → M2 0 j = M 0 j) → (∀ j, M2 18 j = (if j = s then 1 else M 18 j)) → (∀ k, 0 ≤ k → k < i → M2 17 (36 * s + k) = M 4 k ∧ M2 17 (36 * s + 5 + k) = M 2 k ∧ M2 17 (36 * s + 10 + k) = M 3 k ∧ M2 17 (36 * s + 15 + k) = M 5 k ∧ M2 17 (36 * s + 20 + k) = M 11 k ∧ M2 17 (36 * s + 25 + k) = M 12 k) → (∀ j, (j < 36 * s ∨ 36 * s + 31 ≤ j) → M2 17 j = M 17 j) →
        G none (d + 1) 12 false (some .int) 0 0 (hO S Tw M P).length cX12_keep Q 0 31 [some (.ref 248), some (.int (iI s)), some (.int (iI (36 * s))), some (.int (iI i))] [] (hO S Tw M2 P) := by
      intro m
      induction m with
      | zero =>
        intro i M2 b1 b2 hm f1 f2 f3 f4 f5
        refine g_l dX12_keep_31 rfl rfl ?_
        refine g_iconst dX12_keep_32 rfl ?_
        refine g_icmp_ge (t := 140) dX12_keep_33 (by decide) rfl (by omega) (by omega) (fun c_33 => ?_) (fun c_33 => False.elim (by omega))
        refine g_l dX12_keep_140 rfl rfl ?_
        refine g_getf dX12_keep_141 h248 f_12_62 rfl rfl ?_
        refine g_l dX12_keep_144 rfl rfl ?_
        refine g_bipush dX12_keep_145 (by decide) rfl ?_
        refine g_iadd dX12_keep_147 rfl ?_
        refine g_l dX12_keep_148 rfl rfl ?_
        refine g_getf dX12_keep_149 h248 f_12_156 rfl rfl ?_
        rw [f2 17 (by decide)]
        refine g_iast dX12_keep_152 h265 (by omega) (by decide) p265 rfl ?_
        have h := hq (wS M2 17 (36 * s + 30) (M 0 17)) (fun c y1 y2 y3 => by rw [wS_o y2]; exact f1 c y1 y2 y3) (fun j hj => by rw [wS_o (by decide)]; exact f2 j hj) (fun j => by rw [wS_o (by decide)]; exact f3 j) ⟨fun k y1 y2 => ?_, wS_e, fun j hj => ?_⟩
        · have e4 : wS M2 17 (36 * s + 30) (M 0 17) 4 = M 4 := by rw [wS_o (by decide)]; exact f1 4 (by decide) (by decide) (by decide)
          have e0 : wS M2 17 (36 * s + 30) (M 0 17) 0 4 = M 0 4 := by rw [wS_o (by decide)]; exact f2 4 (by decide)
          generalize wS M2 17 (36 * s + 30) (M 0 17) = M3 at h e4 e0 ⊢
          refine g_l dX12_keep_153 rfl rfl ?_
          refine g_callV dX12_keep_154 m_12_162 (n := 0) rfl h248 rfl (Nat.le_of_ble_eq_true rfl) (Nat.le_of_ble_eq_true rfl) rfl rfl ?_
          refine s_X12_allHeat (by omega) ?_
          simp only [Option.toList_some, Option.toList_none, List.cons_append, List.nil_append]
          rw [e0, e4]
          generalize sumF (M 4) (M 0 4).toNat = r at h ⊢
          refine g_retI dX12_keep_157 rfl rfl ?_
          exact h
        · simp only [wS_s]
          rw [if_neg (by omega), if_neg (by omega), if_neg (by omega), if_neg (by omega), if_neg (by omega), if_neg (by omega)]
          exact f4 k y1 (by omega)
        · rw [wS_s, if_neg (by omega)]
          exact f5 j hj
      | succ m ih =>
        intro i M2 b1 b2 hm f1 f2 f3 f4 f5
        have e4 : M2 4 = M 4 := f1 4 (by decide) (by decide) (by decide)
        have e2 : M2 2 = M 2 := f1 2 (by decide) (by decide) (by decide)
        have e3 : M2 3 = M 3 := f1 3 (by decide) (by decide) (by decide)
        have e5 : M2 5 = M 5 := f1 5 (by decide) (by decide) (by decide)
        have e11 : M2 11 = M 11 := f1 11 (by decide) (by decide) (by decide)
        have e12 : M2 12 = M 12 := f1 12 (by decide) (by decide) (by decide)
        refine g_l dX12_keep_31 rfl rfl ?_
        refine g_iconst dX12_keep_32 rfl ?_
        refine g_icmp_ge (t := 140) dX12_keep_33 (by decide) rfl (by omega) (by omega) (fun c_33 => False.elim (by omega)) (fun c_33 => ?_)
        refine g_l dX12_keep_36 rfl rfl ?_
        refine g_getf dX12_keep_37 h248 f_12_62 rfl rfl ?_
        refine g_l dX12_keep_40 rfl rfl ?_
        refine g_l dX12_keep_41 rfl rfl ?_
        refine g_iadd dX12_keep_42 rfl ?_
        refine g_l dX12_keep_43 rfl rfl ?_
        refine g_getf dX12_keep_44 h248 f_12_23 rfl rfl ?_
        refine g_l dX12_keep_47 rfl rfl ?_
        refine g_iald dX12_keep_48 h252 (by omega) (by decide) rfl ?_
        refine g_iast dX12_keep_49 h265 (by omega) (by decide) p265 rfl ?_
        refine g_l dX12_keep_50 rfl rfl ?_
        refine g_getf dX12_keep_51 h248 f_12_62 rfl rfl ?_
        refine g_l dX12_keep_54 rfl rfl ?_
        refine g_iconst dX12_keep_55 rfl ?_
        refine g_iadd dX12_keep_56 rfl ?_
        refine g_l dX12_keep_57 rfl rfl ?_
        refine g_iadd dX12_keep_58 rfl ?_
        refine g_l dX12_keep_59 rfl rfl ?_
        refine g_getf dX12_keep_60 h248 f_12_17 rfl rfl ?_
        refine g_l dX12_keep_63 rfl rfl ?_
        refine g_iald dX12_keep_64 h250 (by omega) (by decide) rfl ?_
        refine g_iast dX12_keep_65 h265 (by omega) (by decide) p265 rfl ?_
        refine g_l dX12_keep_66 rfl rfl ?_
        refine g_getf dX12_keep_67 h248 f_12_62 rfl rfl ?_
        refine g_l dX12_keep_70 rfl rfl ?_
        refine g_bipush dX12_keep_71 (by decide) rfl ?_
        refine g_iadd dX12_keep_73 rfl ?_
        refine g_l dX12_keep_74 rfl rfl ?_
        refine g_iadd dX12_keep_75 rfl ?_
        refine g_l dX12_keep_76 rfl rfl ?_
        refine g_getf dX12_keep_77 h248 f_12_20 rfl rfl ?_
        refine g_l dX12_keep_80 rfl rfl ?_
        refine g_iald dX12_keep_81 h251 (by omega) (by decide) rfl ?_
        refine g_iast dX12_keep_82 h265 (by omega) (by decide) p265 rfl ?_
        refine g_l dX12_keep_83 rfl rfl ?_
        refine g_getf dX12_keep_84 h248 f_12_62 rfl rfl ?_
        refine g_l dX12_keep_87 rfl rfl ?_
        refine g_bipush dX12_keep_88 (by decide) rfl ?_
        refine g_iadd dX12_keep_90 rfl ?_
        refine g_l dX12_keep_91 rfl rfl ?_
        refine g_iadd dX12_keep_92 rfl ?_
        refine g_l dX12_keep_93 rfl rfl ?_
        refine g_getf dX12_keep_94 h248 f_12_26 rfl rfl ?_
        refine g_l dX12_keep_97 rfl rfl ?_
        refine g_iald dX12_keep_98 h253 (by omega) (by decide) rfl ?_
        refine g_iast dX12_keep_99 h265 (by omega) (by decide) p265 rfl ?_
        refine g_l dX12_keep_100 rfl rfl ?_
        refine g_getf dX12_keep_101 h248 f_12_62 rfl rfl ?_
        refine g_l dX12_keep_104 rfl rfl ?_
        refine g_bipush dX12_keep_105 (by decide) rfl ?_
        refine g_iadd dX12_keep_107 rfl ?_
        refine g_l dX12_keep_108 rfl rfl ?_
        refine g_iadd dX12_keep_109 rfl ?_
        refine g_l dX12_keep_110 rfl rfl ?_
        refine g_getf dX12_keep_111 h248 f_12_44 rfl rfl ?_
        refine g_l dX12_keep_114 rfl rfl ?_
        refine g_iald dX12_keep_115 h259 (by omega) (by decide) rfl ?_
        refine g_iast dX12_keep_116 h265 (by omega) (by decide) p265 rfl ?_
        refine g_l dX12_keep_117 rfl rfl ?_
        refine g_getf dX12_keep_118 h248 f_12_62 rfl rfl ?_
        refine g_l dX12_keep_121 rfl rfl ?_
        refine g_bipush dX12_keep_122 (by decide) rfl ?_
        refine g_iadd dX12_keep_124 rfl ?_
        refine g_l dX12_keep_125 rfl rfl ?_
        refine g_iadd dX12_keep_126 rfl ?_
        refine g_l dX12_keep_127 rfl rfl ?_
        refine g_getf dX12_keep_128 h248 f_12_47 rfl rfl ?_
        refine g_l dX12_keep_131 rfl rfl ?_
        refine g_iald dX12_keep_132 h260 (by omega) (by decide) rfl ?_
        refine g_iast dX12_keep_133 h265 (by omega) (by decide) p265 rfl ?_
        refine g_iinc (loc' := [some _, some _, some _, some _]) dX12_keep_134 rfl rfl rfl ?_
        refine g_goto (t := 31) dX12_keep_137 (by decide) ?_
        simp only [wS_o (show (2 : Nat) ≠ 17 by decide), wS_o (show (3 : Nat) ≠ 17 by decide), wS_o (show (5 : Nat) ≠ 17 by decide), wS_o (show (11 : Nat) ≠ 17 by decide), wS_o (show (12 : Nat) ≠ 17 by decide), e4, e2, e3, e5, e11, e12]
        refine ih (i + 1) _ (by omega) (by omega) (by omega) (fun c y1 y2 y3 => ?_) (fun j hj => ?_) (fun j => ?_) (fun k y1 y2 => ?_) (fun j hj => ?_)
        · rw [wS_o y2, wS_o y2, wS_o y2, wS_o y2, wS_o y2, wS_o y2]; exact f1 c y1 y2 y3
        · rw [wS_o (by decide), wS_o (by decide), wS_o (by decide), wS_o (by decide), wS_o (by decide), wS_o (by decide)]; exact f2 j hj
        · rw [wS_o (by decide), wS_o (by decide), wS_o (by decide), wS_o (by decide), wS_o (by decide), wS_o (by decide)]; exact f3 j
        · simp only [wS_s]
          by_cases c : k = i
          · subst c
            refine ⟨?_, ?_, ?_, ?_, ?_, ?_⟩
            · rw [if_neg (by omega), if_neg (by omega), if_neg (by omega), if_neg (by omega), if_neg (by omega), if_pos rfl]
            · rw [if_neg (by omega), if_neg (by omega), if_neg (by omega), if_neg (by omega), if_pos rfl]
            · rw [if_neg (by omega), if_neg (by omega), if_neg (by omega), if_pos rfl]
            · rw [if_neg (by omega), if_neg (by omega), if_pos rfl]
            · rw [if_neg (by omega), if_pos rfl]
            · rw [if_pos rfl]
          · obtain ⟨g1, g2, g3, g4, g5, g6⟩ := f4 k y1 (by omega)
            refine ⟨?_, ?_, ?_, ?_, ?_, ?_⟩
            · rw [if_neg (by omega), if_neg (by omega), if_neg (by omega), if_neg (by omega), if_neg (by omega), if_neg (by omega)]; exact g1
            · rw [if_neg (by omega), if_neg (by omega), if_neg (by omega), if_neg (by omega), if_neg (by omega), if_neg (by omega)]; exact g2
            · rw [if_neg (by omega), if_neg (by omega), if_neg (by omega), if_neg (by omega), if_neg (by omega), if_neg (by omega)]; exact g3
            · rw [if_neg (by omega), if_neg (by omega), if_neg (by omega), if_neg (by omega), if_neg (by omega), if_neg (by omega)]; exact g4
            · rw [if_neg (by omega), if_neg (by omega), if_neg (by omega), if_neg (by omega), if_neg (by omega), if_neg (by omega)]; exact g5
            · rw [if_neg (by omega), if_neg (by omega), if_neg (by omega), if_neg (by omega), if_neg (by omega), if_neg (by omega)]; exact g6
        · rw [wS_s, if_neg (by omega), wS_s, if_neg (by omega), wS_s, if_neg (by omega), wS_s, if_neg (by omega), wS_s, if_neg (by omega), wS_s, if_neg (by omega)]
          exact f5 j hj
    refine loop 5 0 _ (by omega) (by omega) rfl (fun c y1 y2 y3 => ?_) (fun j hj => ?_) (fun j => ?_) (fun k y1 y2 => by omega) (fun j hj => ?_)
    · rw [wS_o y3]; exact h1.1 c y1
    · rw [wS_o (by decide)]; exact h1.2 j hj
    · rw [wS_s, h1.1 18 (by decide)]
    · rw [wS_o (by decide), h1.1 17 (by decide)]
  · simp only [Option.toList_some, Option.toList_none, List.cons_append, List.nil_append]
    refine g_if_ne (t := 17) dX12_keep_12 (by decide) rfl (by omega) (fun c_12 => False.elim (by omega)) (fun c_12 => ?_)
    refine g_iconst dX12_keep_15 rfl ?_
    refine g_retI dX12_keep_16 rfl rfl ?_
    exact q1 (by omega) M1 h1
set_option maxHeartbeats 2000000 in
theorem s_X12_again {s : Int} (hs : R32 s) (ht : 2 ≤ M 0 4 ∧ M 0 4 ≤ 5) (hb : 0 ≤ s → s < 2 → M 18 s = 0 ∨ M 18 s = 1) (q1 : ¬ (0 ≤ s ∧ s < 2) → ∀ M1, thP M M1 → Q (some (.int (iI (-1)))) (hO S Tw M1 P)) (q2 : 0 ≤ s ∧ s < 2 → M 18 s = 0 → ∀ M1, thP M M1 → Q (some (.int (iI (-3)))) (hO S Tw M1 P))
    (q3 : 0 ≤ s ∧ s < 2 → M 18 s = 1 → ∀ M', (∀ c, c ≠ 0 → c ≠ 2 → c ≠ 3 → c ≠ 4 → c ≠ 5 → c ≠ 11 → c ≠ 12 → M' c = M c) → (∀ j, j ≠ 0 → j ≠ 17 → j ≠ 25 → M' 0 j = M 0 j) → M' 0 25 = 0 → M' 0 17 = M 17 (36 * s + 30) → (∀ k, 0 ≤ k → k < 5 → M' 4 k = M 17 (36 * s + k) ∧ M' 2 k = M 17 (36 * s + 5 + k) ∧ M' 3 k = M 17 (36 * s + 10 + k) ∧ M' 5 k = M 17 (36 * s + 15 + k) ∧ M' 11 k = M 17 (36 * s + 20 + k) ∧ M' 12 k = M 17 (36 * s + 25 + k)) → Q (some (.int (iI (sumF (M' 4) (M' 0 4).toNat)))) (hO S Tw M' P)) : CallD (d + 2) 163 [.ref 248, .int (iI s)] (hO S Tw M P) Q := by
  refine g_enter (loc := [some _, some _, _, _]) e_X12_again i_X12_again (Nat.le_of_ble_eq_true rfl) rfl ?_
  refine g_l dX12_again_0 rfl rfl ?_
  refine g_iconst dX12_again_1 rfl ?_
  refine g_putf dX12_again_2 h248 f_12_108 (Nat.le_of_ble_eq_true rfl) rfl rfl p248_0 rfl ?_
  have h1 := thP_w (M := M)
  generalize wS M 0 0 0 = M1 at h1 ⊢
  refine g_l dX12_again_5 rfl rfl ?_
  refine g_i2l dX12_again_6 hs rfl ?_
  refine g_lconst0 dX12_again_7 rfl rfl ?_
  refine g_lconst1 dX12_again_8 rfl rfl ?_
  refine g_callS dX12_again_9 m_12_111 (n := 3) rfl (by exact Nat.le_of_ble_eq_true rfl) (by exact Nat.le_of_ble_eq_true rfl) (by rfl) (by rfl) (by rfl) ?_
  refine s_X12_in (by omega) (by decide) (by decide) (fun y => ?_) (fun y => ?_)
  · have hb2 := hb (by omega) (by omega)
    simp only [Option.toList_some, Option.toList_none, List.cons_append, List.nil_append]
    refine g_if_ne (t := 17) dX12_again_12 (by decide) rfl (by omega) (fun c_12 => ?_) (fun c_12 => False.elim (by omega))
    refine g_l dX12_again_17 rfl rfl ?_
    refine g_getf dX12_again_18 h248 f_12_65 rfl rfl ?_
    refine g_l dX12_again_21 rfl rfl ?_
    refine g_bald dX12_again_22 h266 (by omega) (by decide) rfl ?_
    rw [h1.1 18 (by decide)]
    refine g_if_ne (t := 29) dX12_again_23 (by decide) rfl (by omega) (fun c_23 => ?_) (fun c_23 => ?_)
    · have hq := q3 (by omega) (by omega)
      refine g_bipush dX12_again_29 (by decide) rfl ?_
      refine g_l dX12_again_31 rfl rfl ?_
      refine g_imul dX12_again_32 rfl ?_
      refine g_l (loc' := [some _, some _, some _, _]) dX12_again_33 rfl rfl ?_
      refine g_iconst dX12_again_34 rfl ?_
      refine g_l (loc' := [some _, some _, some _, some _]) dX12_again_35 rfl rfl ?_
      have loop : ∀ (m : Nat) (i : Int) (M2 : Nat → Int → Int), 0 ≤ i → i ≤ 5 → (5 - i).toNat = m → (∀ c, c ≠ 0 → c ≠ 2 → c ≠ 3 → c ≠ 4 → c ≠ 5 → c ≠ 11 → c ≠ 12 → M2 c = M c) → (∀ j, j ≠ 0 → M2 0 j = M 0 j) → (∀ k, 0 ≤ k → k < i → M2 4 k = M 17 (36 * s + k) ∧ M2 2 k = M 17 (36 * s + 5 + k) ∧ M2 3 k = M 17 (36 * s + 10 + k) ∧ M2 5 k = M 17 (36 * s + 15 + k) ∧ M2 11 k = M 17 (36 * s + 20 + k) ∧ M2 12 k = M 17 (36 * s + 25 + k)) →
          G none (d + 1) 12 false (some .int) 0 0 (hO S Tw M P).length cX12_again Q 0 36 [some (.ref 248), some (.int (iI s)), some (.int (iI (36 * s))), some (.int (iI i))] [] (hO S Tw M2 P) := by
        intro m
        induction m with
        | zero =>
          intro i M2 b1 b2 hm f1 f2 f3
          have e17 : M2 17 = M 17 := f1 17 (by decide) (by decide) (by decide) (by decide) (by decide) (by decide) (by decide)
          refine g_l dX12_again_36 rfl rfl ?_
          refine g_iconst dX12_again_37 rfl ?_
          refine g_icmp_ge (t := 145) dX12_again_38 (by decide) rfl (by omega) (by omega) (fun c_38 => ?_) (fun c_38 => False.elim (by omega))
          refine g_l dX12_again_145 rfl rfl ?_
          refine g_l dX12_again_146 rfl rfl ?_
          refine g_getf dX12_again_147 h248 f_12_62 rfl rfl ?_
          refine g_l dX12_again_150 rfl rfl ?_
          refine g_bipush dX12_again_151 (by decide) rfl ?_
          refine g_iadd dX12_again_153 rfl ?_
          refine g_iald dX12_again_154 h265 (by omega) (by decide) rfl ?_
          rw [e17]
          refine g_putf dX12_again_155 h248 f_12_156 (Nat.le_of_ble_eq_true rfl) rfl rfl p248_17 rfl ?_
          refine g_l dX12_again_158 rfl rfl ?_
          refine g_iconst dX12_again_159 rfl ?_
          refine g_putf dX12_again_160 h248 f_12_159 (Nat.le_of_ble_eq_true rfl) rfl rfl p248_25 rfl ?_
          obtain ⟨M3, h3⟩ : ∃ M3, M3 = wS (wS M2 0 17 (M 17 (36 * s + 30))) 0 25 0 := ⟨_, rfl⟩
          rw [← h3]
          have g0 : ∀ c, c ≠ 0 → M3 c = M2 c := fun c hc => by rw [h3, wS_o hc, wS_o hc]
          have g1 : ∀ j, j ≠ 17 → j ≠ 25 → M3 0 j = M2 0 j := fun j y1 y2 => by rw [h3, wS_s, if_neg y2, wS_s, if_neg y1]
          have e4 : M3 0 4 = M 0 4 := by rw [g1 4 (by decide) (by decide)]; exact f2 4 (by decide)
          refine g_l dX12_again_163 rfl rfl ?_
          refine g_callV dX12_again_164 m_12_162 (n := 0) rfl h248 rfl (Nat.le_of_ble_eq_true rfl) (Nat.le_of_ble_eq_true rfl) rfl rfl ?_
          refine s_X12_allHeat (by omega) ?_
          simp only [Option.toList_some, Option.toList_none, List.cons_append, List.nil_append]
          have h := hq M3 (fun c y1 y2 y3 y4 y5 y6 y7 => by rw [g0 c y1]; exact f1 c y1 y2 y3 y4 y5 y6 y7) (fun j y1 y2 y3 => by rw [g1 j y2 y3]; exact f2 j y1) (by rw [h3, wS_e]) (by rw [h3, wS_s, if_neg (by decide), wS_e]) (fun k y1 y2 => by rw [g0 4 (by decide), g0 2 (by decide), g0 3 (by decide), g0 5 (by decide), g0 11 (by decide), g0 12 (by decide)]; exact f3 k y1 (by omega))
          generalize sumF (M3 4) (M3 0 4).toNat = r at h ⊢
          refine g_retI dX12_again_167 rfl rfl ?_
          exact h
        | succ m ih =>
          intro i M2 b1 b2 hm f1 f2 f3
          have e17 : M2 17 = M 17 := f1 17 (by decide) (by decide) (by decide) (by decide) (by decide) (by decide) (by decide)
          refine g_l dX12_again_36 rfl rfl ?_
          refine g_iconst dX12_again_37 rfl ?_
          refine g_icmp_ge (t := 145) dX12_again_38 (by decide) rfl (by omega) (by omega) (fun c_38 => False.elim (by omega)) (fun c_38 => ?_)
          refine g_l dX12_again_41 rfl rfl ?_
          refine g_getf dX12_again_42 h248 f_12_23 rfl rfl ?_
          refine g_l dX12_again_45 rfl rfl ?_
          refine g_l dX12_again_46 rfl rfl ?_
          refine g_getf dX12_again_47 h248 f_12_62 rfl rfl ?_
          refine g_l dX12_again_50 rfl rfl ?_
          refine g_l dX12_again_51 rfl rfl ?_
          refine g_iadd dX12_again_52 rfl ?_
          refine g_iald dX12_again_53 h265 (by omega) (by decide) rfl ?_
          refine g_iast dX12_again_54 h252 (by omega) (by decide) p252 rfl ?_
          refine g_l dX12_again_55 rfl rfl ?_
          refine g_getf dX12_again_56 h248 f_12_17 rfl rfl ?_
          refine g_l dX12_again_59 rfl rfl ?_
          refine g_l dX12_again_60 rfl rfl ?_
          refine g_getf dX12_again_61 h248 f_12_62 rfl rfl ?_
          refine g_l dX12_again_64 rfl rfl ?_
          refine g_iconst dX12_again_65 rfl ?_
          refine g_iadd dX12_again_66 rfl ?_
          refine g_l dX12_again_67 rfl rfl ?_
          refine g_iadd dX12_again_68 rfl ?_
          refine g_iald dX12_again_69 h265 (by omega) (by decide) rfl ?_
          refine g_iast dX12_again_70 h250 (by omega) (by decide) p250 rfl ?_
          refine g_l dX12_again_71 rfl rfl ?_
          refine g_getf dX12_again_72 h248 f_12_20 rfl rfl ?_
          refine g_l dX12_again_75 rfl rfl ?_
          refine g_l dX12_again_76 rfl rfl ?_
          refine g_getf dX12_again_77 h248 f_12_62 rfl rfl ?_
          refine g_l dX12_again_80 rfl rfl ?_
          refine g_bipush dX12_again_81 (by decide) rfl ?_
          refine g_iadd dX12_again_83 rfl ?_
          refine g_l dX12_again_84 rfl rfl ?_
          refine g_iadd dX12_again_85 rfl ?_
          refine g_iald dX12_again_86 h265 (by omega) (by decide) rfl ?_
          refine g_iast dX12_again_87 h251 (by omega) (by decide) p251 rfl ?_
          refine g_l dX12_again_88 rfl rfl ?_
          refine g_getf dX12_again_89 h248 f_12_26 rfl rfl ?_
          refine g_l dX12_again_92 rfl rfl ?_
          refine g_l dX12_again_93 rfl rfl ?_
          refine g_getf dX12_again_94 h248 f_12_62 rfl rfl ?_
          refine g_l dX12_again_97 rfl rfl ?_
          refine g_bipush dX12_again_98 (by decide) rfl ?_
          refine g_iadd dX12_again_100 rfl ?_
          refine g_l dX12_again_101 rfl rfl ?_
          refine g_iadd dX12_again_102 rfl ?_
          refine g_iald dX12_again_103 h265 (by omega) (by decide) rfl ?_
          refine g_iast dX12_again_104 h253 (by omega) (by decide) p253 rfl ?_
          refine g_l dX12_again_105 rfl rfl ?_
          refine g_getf dX12_again_106 h248 f_12_44 rfl rfl ?_
          refine g_l dX12_again_109 rfl rfl ?_
          refine g_l dX12_again_110 rfl rfl ?_
          refine g_getf dX12_again_111 h248 f_12_62 rfl rfl ?_
          refine g_l dX12_again_114 rfl rfl ?_
          refine g_bipush dX12_again_115 (by decide) rfl ?_
          refine g_iadd dX12_again_117 rfl ?_
          refine g_l dX12_again_118 rfl rfl ?_
          refine g_iadd dX12_again_119 rfl ?_
          refine g_iald dX12_again_120 h265 (by omega) (by decide) rfl ?_
          refine g_iast dX12_again_121 h259 (by omega) (by decide) p259 rfl ?_
          refine g_l dX12_again_122 rfl rfl ?_
          refine g_getf dX12_again_123 h248 f_12_47 rfl rfl ?_
          refine g_l dX12_again_126 rfl rfl ?_
          refine g_l dX12_again_127 rfl rfl ?_
          refine g_getf dX12_again_128 h248 f_12_62 rfl rfl ?_
          refine g_l dX12_again_131 rfl rfl ?_
          refine g_bipush dX12_again_132 (by decide) rfl ?_
          refine g_iadd dX12_again_134 rfl ?_
          refine g_l dX12_again_135 rfl rfl ?_
          refine g_iadd dX12_again_136 rfl ?_
          refine g_iald dX12_again_137 h265 (by omega) (by decide) rfl ?_
          refine g_iast dX12_again_138 h260 (by omega) (by decide) p260 rfl ?_
          refine g_iinc (loc' := [some _, some _, some _, some _]) dX12_again_139 rfl rfl rfl ?_
          refine g_goto (t := 36) dX12_again_142 (by decide) ?_
          simp only [wS_o (show (17 : Nat) ≠ 4 by decide), wS_o (show (17 : Nat) ≠ 2 by decide), wS_o (show (17 : Nat) ≠ 3 by decide), wS_o (show (17 : Nat) ≠ 5 by decide), wS_o (show (17 : Nat) ≠ 11 by decide), e17]
          refine ih (i + 1) _ (by omega) (by omega) (by omega) (fun c y1 y2 y3 y4 y5 y6 y7 => ?_) (fun j hj => ?_) (fun k y1 y2 => ?_)
          · rw [wS_o y7, wS_o y6, wS_o y5, wS_o y3, wS_o y2, wS_o y4]; exact f1 c y1 y2 y3 y4 y5 y6 y7
          · rw [wS_o (by decide), wS_o (by decide), wS_o (by decide), wS_o (by decide), wS_o (by decide), wS_o (by decide)]; exact f2 j hj
          · simp only [wS_s, wS_o (show (4 : Nat) ≠ 12 by decide), wS_o (show (4 : Nat) ≠ 11 by decide), wS_o (show (4 : Nat) ≠ 5 by decide), wS_o (show (4 : Nat) ≠ 3 by decide), wS_o (show (4 : Nat) ≠ 2 by decide), wS_o (show (2 : Nat) ≠ 12 by decide), wS_o (show (2 : Nat) ≠ 11 by decide), wS_o (show (2 : Nat) ≠ 5 by decide), wS_o (show (2 : Nat) ≠ 3 by decide), wS_o (show (2 : Nat) ≠ 4 by decide), wS_o (show (3 : Nat) ≠ 12 by decide), wS_o (show (3 : Nat) ≠ 11 by decide), wS_o (show (3 : Nat) ≠ 5 by decide), wS_o (show (3 : Nat) ≠ 2 by decide), wS_o (show (3 : Nat) ≠ 4 by decide), wS_o (show (5 : Nat) ≠ 12 by decide), wS_o (show (5 : Nat) ≠ 11 by decide), wS_o (show (5 : Nat) ≠ 3 by decide), wS_o (show (5 : Nat) ≠ 2 by decide), wS_o (show (5 : Nat) ≠ 4 by decide), wS_o (show (11 : Nat) ≠ 12 by decide), wS_o (show (11 : Nat) ≠ 5 by decide), wS_o (show (11 : Nat) ≠ 3 by decide), wS_o (show (11 : Nat) ≠ 2 by decide), wS_o (show (11 : Nat) ≠ 4 by decide), wS_o (show (12 : Nat) ≠ 11 by decide), wS_o (show (12 : Nat) ≠ 5 by decide), wS_o (show (12 : Nat) ≠ 3 by decide), wS_o (show (12 : Nat) ≠ 2 by decide), wS_o (show (12 : Nat) ≠ 4 by decide)]
            by_cases c : k = i
            · simp only [c, if_true]
              exact ⟨trivial, trivial, trivial, trivial, trivial, trivial⟩
            · simp only [c, if_false]
              exact f3 k y1 (by omega)
      exact loop 5 0 M1 (by omega) (by omega) rfl (fun c y1 _ _ _ _ _ _ => h1.1 c y1) (fun j hj => h1.2 j hj) (fun k y1 y2 => by omega)
    · refine g_bipush dX12_again_26 (by decide) rfl ?_
      refine g_retI dX12_again_28 rfl rfl ?_
      exact q2 (by omega) (by omega) M1 h1
  · simp only [Option.toList_some, Option.toList_none, List.cons_append, List.nil_append]
    refine g_if_ne (t := 17) dX12_again_12 (by decide) rfl (by omega) (fun c_12 => False.elim (by omega)) (fun c_12 => ?_)
    refine g_iconst dX12_again_15 rfl ?_
    refine g_retI dX12_again_16 rfl rfl ?_
    exact q1 (by omega) M1 h1
end RH
