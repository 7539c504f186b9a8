/-! the reference: a quarter fired; looking ahead -/
theorem itX_2 {S : Nat → Int → Int} {w : Int} {X : Nat → Int → Int} : ∀ n : Nat, itX S w X n 2 = hIt (X 1 5) (X 3) (X 4) w (X 2) n ∧ itX S w X n 1 5 = X 1 5 ∧ itX S w X n 3 = X 3 ∧ itX S w X n 4 = X 4
  | 0 => ⟨rfl, rfl, rfl, rfl⟩
  | n + 1 => by
    obtain ⟨h1, h2, h3, h4⟩ := itX_2 (S := S) (w := w) (X := X) n
    refine ⟨?_, h2, h3, h4⟩
    show nhF (itX S w X n 1 5) (itX S w X n 3) (itX S w X n 4) w (itX S w X n 2) = nhF (X 1 5) (X 3) (X 4) w (hIt (X 1 5) (X 3) (X 4) w (X 2) n)
    rw [h1, h2, h3, h4]
theorem noP_c {M M1 M2 M' : Nat → Int → Int} (h : noP M1 M2) (h1 : thP M M1) (e16 : M' 16 = M2 16) (e25 : M' 0 25 = M2 0 25) : noP M M' := by
  unfold noP at *
  rw [e16, e25, ← h1.1 4 (by decide), ← h1.1 11 (by decide), ← h1.1 12 (by decide), ← h1.1 16 (by decide), ← h1.2 17 (by decide), ← h1.2 25 (by decide)]
  exact h
section RF
variable {S : Nat → Int → Int} {Tw : Nat → Nat → Int → Int} {M : Nat → Int → Int} {P : Nat → Nat} {d : Nat} {Q : Option Value → GH → Prop}
set_option maxHeartbeats 2000000 in
theorem s_X12_quarter {S0 X : Nat → Int → Int} {w B : Int} (hw : R32 w) (ht : tdP S0 M) (hp : pOk S0) (ha : agr S0 (nX M) X) (hX : twOk S0 X B) (hB : B ≤ 900000) (hb : 0 ≤ M 0 25 ∧ M 0 25 ≤ 12) (q1 : ¬ (0 ≤ w ∧ w ≤ 9) → ∀ M1, thP M M1 → Q (some (.int (iI (-2)))) (hO S Tw M1 P))
    (q2 : 0 ≤ w ∧ w ≤ 9 → ∀ M', (∀ c, c ≠ 0 → c ≠ 4 → c ≠ 11 → c ≠ 12 → c ≠ 16 → ¬ (19 ≤ c ∧ c ≤ 24) → M' c = M c) → (∀ j, (j = 2 ∨ j = 4 ∨ j = 5 ∨ j = 35) → M' 0 j = M 0 j) → noP M M' → agr S0 (nX M') (fX S0 w X) → Q (some (.int (iI (setF (fun i => X 10 i = 0 ∧ ¬ fX S0 w X 10 i = 0) (S0 13 5).toNat)))) (hO S Tw M' P)) : CallD (d + 4) 143 [.ref 248, .int (iI w)] (hO S Tw M P) Q := by
  have e9 : (9 : Int64) = lI 9 := rfl
  refine g_enter (loc := [some _, some _, _, _]) e_X12_quarter i_X12_quarter (Nat.le_of_ble_eq_true rfl) rfl ?_
  refine g_l dX12_quarter_0 rfl rfl ?_
  refine g_iconst dX12_quarter_1 rfl ?_
  refine g_putf dX12_quarter_2 h248 f_12_108 (Nat.le_of_ble_eq_true rfl) rfl rfl p248_0 rfl ?_
  have h1 := thP_w (M := M)
  generalize wS M 0 0 0 = M1 at h1 ⊢
  refine g_l dX12_quarter_5 rfl rfl ?_
  refine g_i2l dX12_quarter_6 hw rfl ?_
  refine g_lconst0 dX12_quarter_7 rfl rfl ?_
  refine g_ldc2_w dX12_quarter_8 k_12_118 rfl ?_
  rw [e9]
  refine g_callS dX12_quarter_11 m_12_111 (n := 3) rfl (by exact Nat.le_of_ble_eq_true rfl) (by exact Nat.le_of_ble_eq_true rfl) (by rfl) (by rfl) (by rfl) ?_
  refine s_X12_in (by omega) (by decide) (by decide) (fun y => ?_) (fun y => ?_)
  · simp only [Option.toList_some, Option.toList_none, List.cons_append, List.nil_append]
    refine g_if_ne (t := 20) dX12_quarter_14 (by decide) rfl (by omega) (fun c_14 => ?_) (fun c_14 => False.elim (by omega))
    refine g_l dX12_quarter_20 rfl rfl ?_
    refine g_callV dX12_quarter_21 m_12_196 (n := 0) rfl h248 rfl (Nat.le_of_ble_eq_true rfl) (Nat.le_of_ble_eq_true rfl) rfl rfl ?_
    refine s_X12_note (by rw [h1.2 25 (by decide)]; exact hb) (fun M2 a1 a2 a3 => ?_)
    simp only [Option.toList_some, Option.toList_none, List.cons_append, List.nil_append]
    refine g_l dX12_quarter_24 rfl rfl ?_
    refine g_callV dX12_quarter_25 m_12_199 (n := 0) rfl h248 rfl (Nat.le_of_ble_eq_true rfl) (Nat.le_of_ble_eq_true rfl) rfl rfl ?_
    have z4 : M2 0 4 = M 0 4 := by rw [a2 4 (by decide)]; exact h1.2 4 (by decide)
    have z5 : M2 0 5 = M 0 5 := by rw [a2 5 (by decide)]; exact h1.2 5 (by decide)
    have t2 : tdP S0 M2 := by
      unfold tdP at *
      rw [z5, a1 6 (by decide) (by decide), a1 7 (by decide) (by decide), a1 8 (by decide) (by decide), a1 9 (by decide) (by decide), a1 10 (by decide) (by decide), h1.1 6 (by decide), h1.1 7 (by decide), h1.1 8 (by decide), h1.1 9 (by decide), h1.1 10 (by decide)]
      exact ht
    have n2 : nX M2 = nX M := by
      rw [← h1.q.n]
      funext o k
      unfold nX
      rw [a2 4 (by decide), a2 17 (by decide), a1 4 (by decide) (by decide), a1 2 (by decide) (by decide), a1 3 (by decide) (by decide), a1 5 (by decide) (by decide), a1 11 (by decide) (by decide), a1 12 (by decide) (by decide)]
    have n4 : M 0 4 = X 1 5 := ha.1
    have n5 : S0 13 5 = M 0 5 := ht.1
    have p1 := hp.1
    have p2 := hp.2.1
    have x1 := hX.1.1
    have x2 := hX.1.2.1
    refine s_X12_begin (by omega) (by omega) (fun M3 b => ?_)
    simp only [Option.toList_some, Option.toList_none, List.cons_append, List.nil_append]
    have hb1 := b.a t2 (by rw [n2]; exact ha)
    have hX3 := hX
    generalize he : -(X 1 6) = e at hb1
    have t3 := b.q.d t2
    have k3 := (sh6_ok (e := e) hX).agr hb1
    refine g_l dX12_quarter_28 rfl rfl ?_
    refine g_l dX12_quarter_29 rfl rfl ?_
    refine g_iconst dX12_quarter_30 rfl ?_
    refine g_callV dX12_quarter_31 m_12_192 (n := 2) rfl h248 rfl (Nat.le_of_ble_eq_true rfl) (Nat.le_of_ble_eq_true rfl) rfl rfl ?_
    refine s_X12_go (b := 0) (Or.inl rfl) y t3 hp k3 (by omega) (fun M4 f1 f2 => ?_)
    simp only [Option.toList_some, Option.toList_none, List.cons_append, List.nil_append]
    rw [gX_0] at f2 ⊢
    have f3 := fX_agr (w := w) hb1 (sh6_ok (e := e) hX)
    rw [fX_sh] at f3
    have f4 := f2.tr f3
    have es : setF (fun i => M3 23 i = 0 ∧ ¬ fX S0 w (mX M3) 10 i = 0) (M3 0 5).toNat = setF (fun i => X 10 i = 0 ∧ ¬ fX S0 w X 10 i = 0) (S0 13 5).toNat := by
      rw [← t3.1]
      refine setF_congr (fun i c1 c2 => ?_)
      have c3 := (hb1.2.2.2 i c1 (by omega)).2.2
      have c4 := (f3.2.2.2 i c1 (by omega)).2.2
      change M3 23 i = X 10 i at c3
      change fX S0 w (mX M3) 10 i = fX S0 w X 10 i at c4
      rw [c3, c4]
    rw [es]
    have hq := q2 y
    generalize setF (fun i => X 10 i = 0 ∧ ¬ fX S0 w X 10 i = 0) (S0 13 5).toNat = done at hq ⊢
    have w4 : M4 0 4 = M 0 4 := by rw [f1.2 4 (by decide), b.2.1 4 (by decide), z4]
    have w5 : M4 0 5 = M 0 5 := by rw [f1.2 5 (by decide), b.2.1 5 (by decide), z5]
    refine g_l (loc' := [some _, some _, some _, _]) dX12_quarter_34 rfl rfl ?_
    refine g_iconst dX12_quarter_35 rfl ?_
    refine g_l (loc' := [some _, some _, some _, some _]) dX12_quarter_36 rfl rfl ?_
    have loop2 : ∀ (m : Nat) (i : Int) (M5 : Nat → Int → Int), 0 ≤ i → i ≤ M 0 5 → (M 0 5 - i).toNat = m → (∀ c, c ≠ 4 → c ≠ 11 → c ≠ 12 → M5 c = M4 c) → (∀ k, 0 ≤ k → k < 5 → M5 4 k = mX M4 2 k) → (∀ p, 0 ≤ p → p < i → M5 11 p = M4 22 p ∧ M5 12 p = M4 23 p) →
        G none (d + 3) 12 false (some .int) 0 0 (hO S Tw M P).length cX12_quarter Q 0 65 [some (.ref 248), some (.int (iI w)), some (.int (iI done)), some (.int (iI i))] [] (hO S Tw M5 P) := by
      intro m
      induction m with
      | zero =>
        intro i M5 b1 b2 hm g1 g2 g3
        have e0 : M5 0 = M4 0 := g1 0 (by decide) (by decide) (by decide)
        refine g_l dX12_quarter_65 rfl rfl ?_
        refine g_l dX12_quarter_66 rfl rfl ?_
        refine g_getf dX12_quarter_67 h248 f_12_115 rfl rfl ?_
        rw [e0, w5]
        refine g_icmp_ge (t := 103) dX12_quarter_70 (by decide) rfl (by omega) (by omega) (fun c_70 => ?_) (fun c_70 => False.elim (by omega))
        refine g_l dX12_quarter_103 rfl rfl ?_
        refine g_s dX12_quarter_104 rfl rfl rfl ?_
        refine g_getf dX12_quarter_105 h248 f_12_156 rfl rfl ?_
        refine g_l dX12_quarter_108 rfl rfl ?_
        refine g_getf dX12_quarter_109 h248 f_12_179 rfl rfl ?_
        rw [e0]
        refine g_iadd dX12_quarter_112 rfl ?_
        refine g_putf dX12_quarter_113 h248 f_12_156 (Nat.le_of_ble_eq_true rfl) rfl rfl p248_17 rfl ?_
        refine g_l dX12_quarter_116 rfl rfl ?_
        refine g_retI dX12_quarter_117 rfl rfl ?_
        obtain ⟨M7, h7⟩ : ∃ M7, M7 = wS M5 0 17 (M4 0 17 + M4 0 34) := ⟨_, rfl⟩
        rw [← h7]
        refine hq M7 (fun c y1 y2 y3 y4 y5 y6 => ?_) (fun j hj => ?_) (noP_c a3 h1 ?_ ?_) ⟨?_, ?_, fun k y1 y2 => ⟨?_, ?_, ?_⟩, fun p y1 y2 => ⟨?_, ?_, ?_⟩⟩
        · rw [h7, wS_o y1, g1 c y2 y3 y4, f1.1 c y1 (by omega) (by omega) (by omega) (by omega) (by omega), b.1 c y1 (by omega) (by omega) (by omega) (by omega), a1 c y1 y5, h1.1 c y1]
        · rw [h7, wS_s, if_neg (by omega), e0, f1.2 j (by omega), b.2.1 j (by omega), a2 j (by omega), h1.2 j (by omega)]
        · rw [h7, wS_o (by decide), g1 16 (by decide) (by decide) (by decide), f1.1 16 (by decide) (by decide) (by decide) (by decide) (by decide) (by decide), b.1 16 (by decide) (by decide) (by decide) (by decide) (by decide)]
        · rw [h7, wS_s, if_neg (by decide), e0, f1.2 25 (by decide), b.2.1 25 (by decide)]
        · show M7 0 4 = X 1 5
          rw [h7, wS_s, if_neg (by decide), e0, w4, n4]
        · show M7 0 17 = fX S0 w X 1 6
          have y7 := f4.2.1
          change M4 0 34 = fX S0 w X 1 6 + e at y7
          have y8 : M4 0 17 = X 1 6 := by
            rw [f1.2 17 (by decide), b.2.1 17 (by decide), a2 17 (by decide), h1.2 17 (by decide)]
            exact ha.2.1
          rw [h7, wS_e, y7, y8]
          omega
        · show M7 4 k = _
          rw [h7, wS_o (by decide), g2 k y1 y2]
          exact (f4.2.2.1 k y1 y2).1
        · show M7 2 k = _
          rw [h7, wS_o (by decide), g1 2 (by decide) (by decide) (by decide)]
          exact (f4.2.2.1 k y1 y2).2.1
        · show M7 3 k = _
          rw [h7, wS_o (by decide), g1 3 (by decide) (by decide) (by decide)]
          exact (f4.2.2.1 k y1 y2).2.2
        · show M7 5 p = _
          rw [h7, wS_o (by decide), g1 5 (by decide) (by decide) (by decide), f1.1 5 (by decide) (by decide) (by decide) (by decide) (by decide) (by decide), b.1 5 (by decide) (by decide) (by decide) (by decide) (by decide), a1 5 (by decide) (by decide), h1.1 5 (by decide)]
          exact (ha.2.2.2 p y1 y2).1
        · show M7 11 p = _
          rw [h7, wS_o (by decide), (g3 p y1 (by omega)).1]
          exact (f4.2.2.2 p y1 y2).2.1
        · show M7 12 p = _
          rw [h7, wS_o (by decide), (g3 p y1 (by omega)).2]
          exact (f4.2.2.2 p y1 y2).2.2
      | succ m ih =>
        intro i M5 b1 b2 hm g1 g2 g3
        have e0 : M5 0 = M4 0 := g1 0 (by decide) (by decide) (by decide)
        have e22 : M5 22 = M4 22 := g1 22 (by decide) (by decide) (by decide)
        have e23 : ∀ v, wS M5 11 i v 23 = M4 23 := fun v => by rw [wS_o (by decide)]; exact g1 23 (by decide) (by decide) (by decide)
        refine g_l dX12_quarter_65 rfl rfl ?_
        refine g_l dX12_quarter_66 rfl rfl ?_
        refine g_getf dX12_quarter_67 h248 f_12_115 rfl rfl ?_
        rw [e0, w5]
        refine g_icmp_ge (t := 103) dX12_quarter_70 (by decide) rfl (by omega) (by omega) (fun c_70 => False.elim (by omega)) (fun c_70 => ?_)
        refine g_l dX12_quarter_73 rfl rfl ?_
        refine g_getf dX12_quarter_74 h248 f_12_44 rfl rfl ?_
        refine g_l dX12_quarter_77 rfl rfl ?_
        refine g_l dX12_quarter_78 rfl rfl ?_
        refine g_getf dX12_quarter_79 h248 f_12_78 rfl rfl ?_
        refine g_l dX12_quarter_82 rfl rfl ?_
        refine g_iald dX12_quarter_83 h270 (by omega) (by decide) rfl ?_
        rw [e22]
        refine g_iast dX12_quarter_84 h259 (by omega) (by decide) p259 rfl ?_
        refine g_l dX12_quarter_85 rfl rfl ?_
        refine g_getf dX12_quarter_86 h248 f_12_47 rfl rfl ?_
        refine g_l dX12_quarter_89 rfl rfl ?_
        refine g_l dX12_quarter_90 rfl rfl ?_
        refine g_getf dX12_quarter_91 h248 f_12_81 rfl rfl ?_
        refine g_l dX12_quarter_94 rfl rfl ?_
        refine g_iald dX12_quarter_95 h271 (by omega) (by decide) rfl ?_
        rw [e23]
        refine g_iast dX12_quarter_96 h260 (by omega) (by decide) p260 rfl ?_
        refine g_iinc (loc' := [some _, some _, some _, some _]) dX12_quarter_97 rfl rfl rfl ?_
        refine g_goto (t := 65) dX12_quarter_100 (by decide) ?_
        refine ih (i + 1) _ (by omega) (by omega) (by omega) (fun c y1 y2 y3 => by rw [wS_o y3, wS_o y2]; exact g1 c y1 y2 y3) (fun k y1 y2 => by rw [wS_o (by decide), wS_o (by decide)]; exact g2 k y1 y2) (fun p y1 y2 => ?_)
        rw [wS_o (show (11 : Nat) ≠ 12 by decide), wS_s, wS_s, wS_o (show (12 : Nat) ≠ 11 by decide)]
        by_cases c : p = i
        · rw [if_pos c, if_pos c, c]; exact ⟨rfl, rfl⟩
        · rw [if_neg c, if_neg c]; exact g3 p y1 (by omega)
    have loop : ∀ (m : Nat) (i : Int) (M5 : Nat → Int → Int), 0 ≤ i → i ≤ M 0 4 → (M 0 4 - i).toNat = m → (∀ c, c ≠ 4 → M5 c = M4 c) → (∀ k, M5 4 k = (if 0 ≤ k ∧ k < i then M4 19 k else M4 4 k)) →
        G none (d + 3) 12 false (some .int) 0 0 (hO S Tw M P).length cX12_quarter Q 0 37 [some (.ref 248), some (.int (iI w)), some (.int (iI done)), some (.int (iI i))] [] (hO S Tw M5 P) := by
      intro m
      induction m with
      | zero =>
        intro i M5 b1 b2 hm g1 g2
        have e0 : M5 0 = M4 0 := g1 0 (by decide)
        refine g_l dX12_quarter_37 rfl rfl ?_
        refine g_l dX12_quarter_38 rfl rfl ?_
        refine g_getf dX12_quarter_39 h248 f_12_13 rfl rfl ?_
        rw [e0, w4]
        refine g_icmp_ge (t := 63) dX12_quarter_42 (by decide) rfl (by omega) (by omega) (fun c_42 => ?_) (fun c_42 => False.elim (by omega))
        refine g_iconst dX12_quarter_63 rfl ?_
        refine g_l (loc' := [some _, some _, some _, some _]) dX12_quarter_64 rfl rfl ?_
        refine loop2 (M 0 5).toNat 0 M5 (by omega) (by omega) (by rw [Int.sub_zero]) (fun c y1 _ _ => g1 c y1) (fun k y1 y2 => ?_) (fun p y1 y2 => by omega)
        rw [g2]
        show _ = (if k < M4 0 4 then M4 19 k else M4 4 k)
        rw [w4]
        by_cases c : k < M 0 4
        · rw [if_pos (by omega), if_pos c]
        · rw [if_neg (by omega), if_neg c]
      | succ m ih =>
        intro i M5 b1 b2 hm g1 g2
        have e0 : M5 0 = M4 0 := g1 0 (by decide)
        have e19 : M5 19 = M4 19 := g1 19 (by decide)
        refine g_l dX12_quarter_37 rfl rfl ?_
        refine g_l dX12_quarter_38 rfl rfl ?_
        refine g_getf dX12_quarter_39 h248 f_12_13 rfl rfl ?_
        rw [e0, w4]
        refine g_icmp_ge (t := 63) dX12_quarter_42 (by decide) rfl (by omega) (by omega) (fun c_42 => False.elim (by omega)) (fun c_42 => ?_)
        refine g_l dX12_quarter_45 rfl rfl ?_
        refine g_getf dX12_quarter_46 h248 f_12_23 rfl rfl ?_
        refine g_l dX12_quarter_49 rfl rfl ?_
        refine g_l dX12_quarter_50 rfl rfl ?_
        refine g_getf dX12_quarter_51 h248 f_12_69 rfl rfl ?_
        refine g_l dX12_quarter_54 rfl rfl ?_
        refine g_iald dX12_quarter_55 h267 (by omega) (by decide) rfl ?_
        rw [e19]
        refine g_iast dX12_quarter_56 h252 (by omega) (by decide) p252 rfl ?_
        refine g_iinc (loc' := [some _, some _, some _, some _]) dX12_quarter_57 rfl rfl rfl ?_
        refine g_goto (t := 37) dX12_quarter_60 (by decide) ?_
        refine ih (i + 1) _ (by omega) (by omega) (by omega) (fun c y1 => by rw [wS_o y1]; exact g1 c y1) (fun k => ?_)
        rw [wS_s]
        by_cases c : k = i
        · rw [if_pos c, if_pos (by omega), c]
        · rw [if_neg c, g2]
          by_cases c2 : 0 ≤ k ∧ k < i
          · rw [if_pos c2, if_pos (by omega)]
          · rw [if_neg c2, if_neg (by omega)]
    exact loop (M 0 4).toNat 0 M4 (by omega) (by omega) (by rw [Int.sub_zero]) (fun _ _ => rfl) (fun k => by rw [if_neg (by omega)])
  · simp only [Option.toList_some, Option.toList_none, List.cons_append, List.nil_append]
    refine g_if_ne (t := 20) dX12_quarter_14 (by decide) rfl (by omega) (fun c_14 => False.elim (by omega)) (fun c_14 => ?_)
    refine g_bipush dX12_quarter_17 (by decide) rfl ?_
    refine g_retI dX12_quarter_19 rfl rfl ?_
    exact q1 y M1 h1
theorem ah1 {S0 X M3 : Nat → Int → Int} {B : Int} (b : bgP M M3) (ht : tdP S0 M) (ha : agr S0 (nX M) X) (hX : twOk S0 X B) : tdP S0 M3 ∧ twOk S0 (mX M3) B ∧ agr S0 (mX M3) (sh6 (-(X 1 6)) X) :=
  ⟨b.q.d ht, (sh6_ok hX).agr (b.a ht ha), b.a ht ha⟩
theorem ah2 {S0 X M3 M4 : Nat → Int → Int} {w B e : Int} {n : Nat} (hw : 0 ≤ w ∧ w ≤ 9) (hp : pOk S0) (hX : twOk S0 X B) (h : agr S0 (mX M3) (sh6 e X)) (g : agr S0 (mX M4) (itX S0 w (mX M3) n)) : agr S0 (mX M4) (sh6 e (itX S0 w X n)) := by
  rw [← itX_sh]
  exact g.tr (itX_agr hp h (sh6_ok hX) hw n)
theorem s_X12_warm {S0 X : Nat → Int → Int} {k n w B : Int} (hk : R32 k) (hn : R32 n) (hw : R32 w) (ht : tdP S0 M) (hp : pOk S0) (ha : agr S0 (nX M) X) (hX : twOk S0 X B) (hB : B ≤ 900000) (q1 : ¬ (0 ≤ k ∧ k < X 1 5) → ∀ M1, quFr M M1 → Q (some (.int (iI (-1)))) (hO S Tw M1 P)) (q2 : 0 ≤ k ∧ k < X 1 5 → ¬ ((1 ≤ n ∧ n ≤ 9) ∧ 0 ≤ w ∧ w ≤ 9) → ∀ M1, quFr M M1 → Q (some (.int (iI (-2)))) (hO S Tw M1 P))
    (q3 : 0 ≤ k ∧ k < X 1 5 → (1 ≤ n ∧ n ≤ 9) ∧ 0 ≤ w ∧ w ≤ 9 → ∀ M1, quFr M M1 → Q (some (.int (iI (hIt (X 1 5) (X 3) (X 4) w (X 2) n.toNat k)))) (hO S Tw M1 P)) : CallD (d + 5) 145 [.ref 248, .int (iI k), .int (iI n), .int (iI w)] (hO S Tw M P) Q := by
  have n4 : M 0 4 = X 1 5 := ha.1
  have x1 := hX.1.1
  have x2 := hX.1.2.1
  have n5 : S0 13 5 = M 0 5 := ht.1
  have p1 := hp.1
  have p2 := hp.2.1
  refine g_enter (loc := [some _, some _, some _, some _]) e_X12_warm i_X12_warm (Nat.le_of_ble_eq_true rfl) rfl ?_
  refine g_l dX12_warm_0 rfl rfl ?_
  refine g_iconst dX12_warm_1 rfl ?_
  refine g_putf dX12_warm_2 h248 f_12_108 (Nat.le_of_ble_eq_true rfl) rfl rfl p248_0 rfl ?_
  have h1 := thP_w (M := M)
  generalize wS M 0 0 0 = M1 at h1 ⊢
  have z4 : M1 0 4 = M 0 4 := h1.2 4 (by decide)
  have z5 : M1 0 5 = M 0 5 := h1.2 5 (by decide)
  refine g_l dX12_warm_5 rfl rfl ?_
  refine g_l dX12_warm_6 rfl rfl ?_
  refine g_callV dX12_warm_7 m_12_172 (n := 1) rfl h248 rfl (Nat.le_of_ble_eq_true rfl) (Nat.le_of_ble_eq_true rfl) rfl rfl ?_
  refine s_X12_noKiln hk (by omega) (fun z => ?_) (fun z => ?_)
  · simp only [Option.toList_some, Option.toList_none, List.cons_append, List.nil_append]
    refine g_if_eq (t := 15) dX12_warm_10 (by decide) rfl (by omega) (fun c_10 => False.elim (by omega)) (fun c_10 => ?_)
    refine g_iconst dX12_warm_13 rfl ?_
    refine g_retI dX12_warm_14 rfl rfl ?_
    exact q1 (by omega) M1 h1.q
  · rw [z4, n4] at z
    simp only [Option.toList_some, Option.toList_none, List.cons_append, List.nil_append]
    refine g_if_eq (t := 15) dX12_warm_10 (by decide) rfl (by omega) (fun c_10 => ?_) (fun c_10 => False.elim (by omega))
    refine g_l dX12_warm_15 rfl rfl ?_
    refine g_l dX12_warm_16 rfl rfl ?_
    refine g_callS dX12_warm_17 m_12_202 (n := 2) rfl (by exact Nat.le_of_ble_eq_true rfl) (by exact Nat.le_of_ble_eq_true rfl) (by rfl) (by rfl) (by rfl) ?_
    refine s_X12_noFire hn hw (fun y => ?_) (fun y => ?_)
    · simp only [Option.toList_some, Option.toList_none, List.cons_append, List.nil_append]
      refine g_if_eq (t := 26) dX12_warm_20 (by decide) rfl (by omega) (fun c_20 => False.elim (by omega)) (fun c_20 => ?_)
      refine g_bipush dX12_warm_23 (by decide) rfl ?_
      refine g_retI dX12_warm_25 rfl rfl ?_
      exact q2 z y M1 h1.q
    · simp only [Option.toList_some, Option.toList_none, List.cons_append, List.nil_append]
      refine g_if_eq (t := 26) dX12_warm_20 (by decide) rfl (by omega) (fun c_20 => ?_) (fun c_20 => False.elim (by omega))
      refine g_l dX12_warm_26 rfl rfl ?_
      refine g_callV dX12_warm_27 m_12_199 (n := 0) rfl h248 rfl (Nat.le_of_ble_eq_true rfl) (Nat.le_of_ble_eq_true rfl) rfl rfl ?_
      refine s_X12_begin (by omega) (by omega) (fun M3 b => ?_)
      obtain ⟨c1, c2, c3⟩ := ah1 b (h1.q.d ht) (by rw [h1.q.n]; exact ha) hX
      simp only [Option.toList_some, Option.toList_none, List.cons_append, List.nil_append]
      refine g_l dX12_warm_30 rfl rfl ?_
      refine g_l dX12_warm_31 rfl rfl ?_
      refine g_l dX12_warm_32 rfl rfl ?_
      refine g_callV dX12_warm_33 m_12_205 (n := 2) rfl h248 rfl (Nat.le_of_ble_eq_true rfl) (Nat.le_of_ble_eq_true rfl) rfl rfl ?_
      refine s_X12_goMany (by omega) y.2 c1 hp c2 hB (fun M2 a0 a2 => ?_)
      · have a1 := b.q.tr a0.q
        replace a2 := ah2 y.2 hp hX c3 a2
        simp only [Option.toList_some, Option.toList_none, List.cons_append, List.nil_append]
        refine g_l dX12_warm_36 rfl rfl ?_
        refine g_getf dX12_warm_37 h248 f_12_69 rfl rfl ?_
        refine g_l dX12_warm_40 rfl rfl ?_
        refine g_iald dX12_warm_41 h267 (by omega) (by decide) rfl ?_
        have e1 : M2 0 4 = X 1 5 := a2.1.trans (show sh6 (-(X 1 6)) (itX S0 w X n.toNat) 1 5 = X 1 5 from (itX_2 n.toNat).2.1)
        have e2 := (a2.2.2.1 k z.1 (by omega)).1
        change (if k < M2 0 4 then M2 19 k else M2 4 k) = itX S0 w X n.toNat 2 k at e2
        rw [if_pos (by omega), (itX_2 _).1] at e2
        rw [e2]
        refine g_retI dX12_warm_42 rfl rfl ?_
        exact q3 z y M2 (h1.q.tr a1)
theorem s_X12_then {S0 X : Nat → Int → Int} {p n w B : Int} (hp0 : R32 p) (hn : R32 n) (hw : R32 w) (ht : tdP S0 M) (hp : pOk S0) (ha : agr S0 (nX M) X) (hX : twOk S0 X B) (hB : B ≤ 900000) (q1 : ¬ (0 ≤ p ∧ p < S0 13 5) → ∀ M1, quFr M M1 → Q (some (.int (iI (-1)))) (hO S Tw M1 P)) (q2 : 0 ≤ p ∧ p < S0 13 5 → ¬ ((1 ≤ n ∧ n ≤ 9) ∧ 0 ≤ w ∧ w ≤ 9) → ∀ M1, quFr M M1 → Q (some (.int (iI (-2)))) (hO S Tw M1 P))
    (q3 : 0 ≤ p ∧ p < S0 13 5 → (1 ≤ n ∧ n ≤ 9) ∧ 0 ≤ w ∧ w ≤ 9 → ∀ M1, quFr M M1 → Q (some (.int (iI (itX S0 w X n.toNat 10 p)))) (hO S Tw M1 P)) : CallD (d + 5) 146 [.ref 248, .int (iI p), .int (iI n), .int (iI w)] (hO S Tw M P) Q := by
  have n5 : S0 13 5 = M 0 5 := ht.1
  have p1 := hp.1
  have p2 := hp.2.1
  have n4 : M 0 4 = X 1 5 := ha.1
  have x1 := hX.1.1
  have x2 := hX.1.2.1
  refine g_enter (loc := [some _, some _, some _, some _]) e_X12_then i_X12_then (Nat.le_of_ble_eq_true rfl) rfl ?_
  refine g_l dX12_then_0 rfl rfl ?_
  refine g_iconst dX12_then_1 rfl ?_
  refine g_putf dX12_then_2 h248 f_12_108 (Nat.le_of_ble_eq_true rfl) rfl rfl p248_0 rfl ?_
  have h1 := thP_w (M := M)
  generalize wS M 0 0 0 = M1 at h1 ⊢
  have z5 : M1 0 5 = M 0 5 := h1.2 5 (by decide)
  have z4 : M1 0 4 = M 0 4 := h1.2 4 (by decide)
  refine g_l dX12_then_5 rfl rfl ?_
  refine g_l dX12_then_6 rfl rfl ?_
  refine g_callV dX12_then_7 m_12_176 (n := 1) rfl h248 rfl (Nat.le_of_ble_eq_true rfl) (Nat.le_of_ble_eq_true rfl) rfl rfl ?_
  refine s_X12_noPot hp0 (by omega) (fun z => ?_) (fun z => ?_)
  · simp only [Option.toList_some, Option.toList_none, List.cons_append, List.nil_append]
    refine g_if_eq (t := 15) dX12_then_10 (by decide) rfl (by omega) (fun c_10 => False.elim (by omega)) (fun c_10 => ?_)
    refine g_iconst dX12_then_13 rfl ?_
    refine g_retI dX12_then_14 rfl rfl ?_
    exact q1 (by omega) M1 h1.q
  · rw [z5, ← n5] at z
    simp only [Option.toList_some, Option.toList_none, List.cons_append, List.nil_append]
    refine g_if_eq (t := 15) dX12_then_10 (by decide) rfl (by omega) (fun c_10 => ?_) (fun c_10 => False.elim (by omega))
    refine g_l dX12_then_15 rfl rfl ?_
    refine g_l dX12_then_16 rfl rfl ?_
    refine g_callS dX12_then_17 m_12_202 (n := 2) rfl (by exact Nat.le_of_ble_eq_true rfl) (by exact Nat.le_of_ble_eq_true rfl) (by rfl) (by rfl) (by rfl) ?_
    refine s_X12_noFire hn hw (fun y => ?_) (fun y => ?_)
    · simp only [Option.toList_some, Option.toList_none, List.cons_append, List.nil_append]
      refine g_if_eq (t := 26) dX12_then_20 (by decide) rfl (by omega) (fun c_20 => False.elim (by omega)) (fun c_20 => ?_)
      refine g_bipush dX12_then_23 (by decide) rfl ?_
      refine g_retI dX12_then_25 rfl rfl ?_
      exact q2 z y M1 h1.q
    · simp only [Option.toList_some, Option.toList_none, List.cons_append, List.nil_append]
      refine g_if_eq (t := 26) dX12_then_20 (by decide) rfl (by omega) (fun c_20 => ?_) (fun c_20 => False.elim (by omega))
      refine g_l dX12_then_26 rfl rfl ?_
      refine g_callV dX12_then_27 m_12_199 (n := 0) rfl h248 rfl (Nat.le_of_ble_eq_true rfl) (Nat.le_of_ble_eq_true rfl) rfl rfl ?_
      refine s_X12_begin (by omega) (by omega) (fun M3 b => ?_)
      obtain ⟨c1, c2, c3⟩ := ah1 b (h1.q.d ht) (by rw [h1.q.n]; exact ha) hX
      simp only [Option.toList_some, Option.toList_none, List.cons_append, List.nil_append]
      refine g_l dX12_then_30 rfl rfl ?_
      refine g_l dX12_then_31 rfl rfl ?_
      refine g_l dX12_then_32 rfl rfl ?_
      refine g_callV dX12_then_33 m_12_205 (n := 2) rfl h248 rfl (Nat.le_of_ble_eq_true rfl) (Nat.le_of_ble_eq_true rfl) rfl rfl ?_
      refine s_X12_goMany (by omega) y.2 c1 hp c2 hB (fun M2 a0 a2 => ?_)
      · have a1 := b.q.tr a0.q
        replace a2 := ah2 y.2 hp hX c3 a2
        simp only [Option.toList_some, Option.toList_none, List.cons_append, List.nil_append]
        refine g_l dX12_then_36 rfl rfl ?_
        refine g_getf dX12_then_37 h248 f_12_81 rfl rfl ?_
        refine g_l dX12_then_40 rfl rfl ?_
        refine g_iald dX12_then_41 h271 (by omega) (by decide) rfl ?_
        have e2 := (a2.2.2.2 p z.1 z.2).2.2
        change M2 23 p = itX S0 w X n.toNat 10 p at e2
        rw [e2]
        have h := q3 z y M2 (h1.q.tr a1)
        generalize itX S0 w X n.toNat 10 p = r at h ⊢
        refine g_retI dX12_then_42 rfl rfl ?_
        exact h
theorem s_X12_openFor {S0 X : Nat → Int → Int} {k p n w B : Int} (hk : R32 k) (hp0 : R32 p) (hn : R32 n) (hw : R32 w) (ht : tdP S0 M) (hp : pOk S0) (ha : agr S0 (nX M) X) (hX : twOk S0 X B) (hB : B ≤ 900000) (q1 : ¬ ((0 ≤ k ∧ k < X 1 5) ∧ 0 ≤ p ∧ p < S0 13 5) → ∀ M1, quFr M M1 → Q (some (.int (iI (-1)))) (hO S Tw M1 P)) (q2 : (0 ≤ k ∧ k < X 1 5) ∧ 0 ≤ p ∧ p < S0 13 5 → ¬ ((1 ≤ n ∧ n ≤ 9) ∧ 0 ≤ w ∧ w ≤ 9) → ∀ M1, quFr M M1 → Q (some (.int (iI (-2)))) (hO S Tw M1 P))
    (q3 : (0 ≤ k ∧ k < X 1 5) ∧ 0 ≤ p ∧ p < S0 13 5 → (1 ≤ n ∧ n ≤ 9) ∧ 0 ≤ w ∧ w ≤ 9 → ∀ M1, quFr M M1 → Q (some (.int (iI (fwL S0 X k p n.toNat w (11 - X 4 k).toNat 0)))) (hO S Tw M1 P)) : CallD (d + 5) 154 [.ref 248, .int (iI k), .int (iI p), .int (iI n), .int (iI w)] (hO S Tw M P) Q := by
  have n4 : M 0 4 = X 1 5 := ha.1
  have x1 := hX.1.1
  have x2 := hX.1.2.1
  have n5 : S0 13 5 = M 0 5 := ht.1
  have p1 := hp.1
  have p2 := hp.2.1
  refine g_enter (loc := [some _, some _, some _, some _, some _, _, _, _]) e_X12_openFor i_X12_openFor (Nat.le_of_ble_eq_true rfl) rfl ?_
  refine g_l dX12_openFor_0 rfl rfl ?_
  refine g_iconst dX12_openFor_1 rfl ?_
  refine g_putf dX12_openFor_2 h248 f_12_108 (Nat.le_of_ble_eq_true rfl) rfl rfl p248_0 rfl ?_
  have h1 := thP_w (M := M)
  generalize wS M 0 0 0 = M1 at h1 ⊢
  have z4 : M1 0 4 = M 0 4 := h1.2 4 (by decide)
  have z5 : M1 0 5 = M 0 5 := h1.2 5 (by decide)
  refine g_l dX12_openFor_5 rfl rfl ?_
  refine g_l dX12_openFor_6 rfl rfl ?_
  refine g_callV dX12_openFor_7 m_12_172 (n := 1) rfl h248 rfl (Nat.le_of_ble_eq_true rfl) (Nat.le_of_ble_eq_true rfl) rfl rfl ?_
  refine s_X12_noKiln hk (by omega) (fun z => ?_) (fun z => ?_)
  · simp only [Option.toList_some, Option.toList_none, List.cons_append, List.nil_append]
    refine g_if_ne (t := 21) dX12_openFor_10 (by decide) rfl (by omega) (fun c_10 => ?_) (fun c_10 => False.elim (by omega))
    refine g_iconst dX12_openFor_21 rfl ?_
    refine g_retI dX12_openFor_22 rfl rfl ?_
    exact q1 (by omega) M1 h1.q
  · rw [z4, n4] at z
    simp only [Option.toList_some, Option.toList_none, List.cons_append, List.nil_append]
    refine g_if_ne (t := 21) dX12_openFor_10 (by decide) rfl (by omega) (fun c_10 => False.elim (by omega)) (fun c_10 => ?_)
    refine g_l dX12_openFor_13 rfl rfl ?_
    refine g_l dX12_openFor_14 rfl rfl ?_
    refine g_callV dX12_openFor_15 m_12_176 (n := 1) rfl h248 rfl (Nat.le_of_ble_eq_true rfl) (Nat.le_of_ble_eq_true rfl) rfl rfl ?_
    refine s_X12_noPot hp0 (by omega) (fun x => ?_) (fun x => ?_)
    · simp only [Option.toList_some, Option.toList_none, List.cons_append, List.nil_append]
      refine g_if_eq (t := 23) dX12_openFor_18 (by decide) rfl (by omega) (fun c_18 => False.elim (by omega)) (fun c_18 => ?_)
      refine g_iconst dX12_openFor_21 rfl ?_
      refine g_retI dX12_openFor_22 rfl rfl ?_
      exact q1 (by omega) M1 h1.q
    · rw [z5, ← n5] at x
      simp only [Option.toList_some, Option.toList_none, List.cons_append, List.nil_append]
      refine g_if_eq (t := 23) dX12_openFor_18 (by decide) rfl (by omega) (fun c_18 => ?_) (fun c_18 => False.elim (by omega))
      refine g_l dX12_openFor_23 rfl rfl ?_
      refine g_l dX12_openFor_24 rfl rfl ?_
      refine g_callS dX12_openFor_26 m_12_202 (n := 2) rfl (by exact Nat.le_of_ble_eq_true rfl) (by exact Nat.le_of_ble_eq_true rfl) (by rfl) (by rfl) (by rfl) ?_
      refine s_X12_noFire hn hw (fun y => ?_) (fun y => ?_)
      · simp only [Option.toList_some, Option.toList_none, List.cons_append, List.nil_append]
        refine g_if_eq (t := 35) dX12_openFor_29 (by decide) rfl (by omega) (fun c_29 => False.elim (by omega)) (fun c_29 => ?_)
        refine g_bipush dX12_openFor_32 (by decide) rfl ?_
        refine g_retI dX12_openFor_34 rfl rfl ?_
        exact q2 ⟨z, x⟩ y M1 h1.q
      · have hd := hX.1.2.2.1 k z.1 (by omega)
        obtain ⟨-, m2, m3⟩ := ha.2.2.1 k z.1 (by omega)
        change M 2 k = X 3 k at m2
        change M 3 k = X 4 k at m3
        have m2' : M1 2 k = X 3 k := by rw [h1.1 2 (by decide)]; exact m2
        have m3' : M1 3 k = X 4 k := by rw [h1.1 3 (by decide)]; exact m3
        simp only [Option.toList_some, Option.toList_none, List.cons_append, List.nil_append]
        refine g_if_eq (t := 35) dX12_openFor_29 (by decide) rfl (by omega) (fun c_29 => ?_) (fun c_29 => False.elim (by omega))
        refine g_l dX12_openFor_35 rfl rfl ?_
        refine g_getf dX12_openFor_36 h248 f_12_17 rfl rfl ?_
        refine g_l dX12_openFor_39 rfl rfl ?_
        refine g_iald dX12_openFor_40 h250 (by omega) (by decide) rfl ?_
        rw [m2']
        refine g_l (loc' := [some _, some _, some _, some _, some _, some _, _, _]) dX12_openFor_41 rfl rfl ?_
        refine g_bipush dX12_openFor_43 (by decide) rfl ?_
        refine g_l (loc' := [some _, some _, some _, some _, some _, some _, some _, _]) dX12_openFor_45 rfl rfl ?_
        refine g_bipush dX12_openFor_47 (by decide) rfl ?_
        refine g_l dX12_openFor_49 rfl rfl ?_
        refine g_getf dX12_openFor_50 h248 f_12_20 rfl rfl ?_
        refine g_l dX12_openFor_53 rfl rfl ?_
        refine g_iald dX12_openFor_54 h251 (by omega) (by decide) rfl ?_
        rw [m3']
        refine g_isub dX12_openFor_55 rfl ?_
        refine g_l (loc' := [some _, some _, some _, some _, some _, some _, some _, some _]) dX12_openFor_56 rfl rfl ?_
        have h3 := q3 ⟨z, x⟩ y
        have loop : ∀ (m : Nat) (s : Int) (M2 : Nat → Int → Int), -1 ≤ s → s ≤ 10 - X 4 k → (s + 1).toNat = m → (∀ c, c ≠ 0 → c ≠ 2 → ¬ (13 ≤ c ∧ c ≤ 15) → ¬ (19 ≤ c ∧ c ≤ 24) → c ≠ 30 → c ≠ 31 → M2 c = M c) → (∀ j, (j = 2 ∨ j = 4 ∨ j = 5 ∨ j = 17 ∨ j = 25 ∨ j = 35) → M2 0 j = M 0 j) → (∀ j, j ≠ k → M2 2 j = M 2 j) →
            G none (d + 4) 12 false (some .int) 0 0 (hO S Tw M P).length cX12_openFor Q 0 58 [some (.ref 248), some (.int (iI k)), some (.int (iI p)), some (.int (iI n)), some (.int (iI w)), some (.int (iI (X 3 k))), some (.int (iI (fwL S0 X k p n.toNat w (10 - X 4 k - s).toNat (s + 1)))), some (.int (iI s))] [] (hO S Tw M2 P) := by
          intro m
          induction m with
          | zero =>
            intro s M2 b1 b2 hm f1 f2 f3
            have es : s = -1 := by omega
            have h4 := h3 (wS M2 2 k (X 3 k)) ⟨fun c y1 y2 y3 y4 y5 => ?_, fun j hj => ?_⟩
            · rw [es, show (10 - X 4 k - -1).toNat = (11 - X 4 k).toNat by omega, show (-1 + 1 : Int) = 0 from rfl]
              generalize fwL S0 X k p n.toNat w (11 - X 4 k).toNat 0 = r at h4 ⊢
              refine g_l dX12_openFor_58 rfl rfl ?_
              refine g_if_lt (t := 107) dX12_openFor_60 (by decide) rfl (by omega) (fun c_60 => ?_) (fun c_60 => False.elim (by omega))
              refine g_l dX12_openFor_107 rfl rfl ?_
              refine g_getf dX12_openFor_108 h248 f_12_17 rfl rfl ?_
              refine g_l dX12_openFor_111 rfl rfl ?_
              refine g_l dX12_openFor_112 rfl rfl ?_
              refine g_iast dX12_openFor_114 h250 (by omega) (by decide) p250 rfl ?_
              refine g_l dX12_openFor_115 rfl rfl ?_
              refine g_retI dX12_openFor_117 rfl rfl ?_
              exact h4
            · by_cases c2 : c = 2
              · subst c2
                funext j
                rw [wS_s]
                by_cases e : j = k
                · rw [if_pos e, e, m2]
                · rw [if_neg e]; exact f3 j e
              · rw [wS_o c2]; exact f1 c y1 c2 y2 y3 y4 y5
            · rw [wS_o (by decide)]; exact f2 j hj
          | succ m ih =>
            intro s M2 b1 b2 hm f1 f2 f3
            have hs : 0 ≤ s ∧ s ≤ 10 - X 4 k := by omega
            have t2 : tdP S0 (wS M2 2 k s) := by
              unfold tdP at *
              rw [wS_o (show (0 : Nat) ≠ 2 by decide), wS_o (show (6 : Nat) ≠ 2 by decide), wS_o (show (7 : Nat) ≠ 2 by decide), wS_o (show (8 : Nat) ≠ 2 by decide), wS_o (show (9 : Nat) ≠ 2 by decide), wS_o (show (10 : Nat) ≠ 2 by decide), f2 5 (by decide), f1 6 (by decide) (by decide) (by decide) (by decide) (by decide) (by decide), f1 7 (by decide) (by decide) (by decide) (by decide) (by decide) (by decide), f1 8 (by decide) (by decide) (by decide) (by decide) (by decide) (by decide), f1 9 (by decide) (by decide) (by decide) (by decide) (by decide) (by decide), f1 10 (by decide) (by decide) (by decide) (by decide) (by decide) (by decide)]
              exact ht
            have a2 : agr S0 (nX (wS M2 2 k s)) (shX k s X) := by
              obtain ⟨a1, a2, a3, a4⟩ := ha
              refine ⟨?_, ?_, fun j y1 y2 => ⟨?_, ?_, ?_⟩, fun i y1 y2 => ⟨?_, ?_, ?_⟩⟩
              · show wS M2 2 k s 0 4 = _
                rw [wS_o (by decide), f2 4 (by decide)]; exact a1
              · show wS M2 2 k s 0 17 = _
                rw [wS_o (by decide), f2 17 (by decide)]; exact a2
              · show wS M2 2 k s 4 j = _
                rw [wS_o (by decide), f1 4 (by decide) (by decide) (by decide) (by decide) (by decide) (by decide)]; exact (a3 j y1 y2).1
              · show wS M2 2 k s 2 j = (if (3 : Nat) = 3 ∧ j = k then s else X 3 j)
                rw [wS_s]
                by_cases e : j = k
                · rw [if_pos e, if_pos ⟨rfl, e⟩]
                · rw [if_neg e, if_neg (fun q => e q.2), f3 j e]; exact (a3 j y1 y2).2.1
              · show wS M2 2 k s 3 j = _
                rw [wS_o (by decide), f1 3 (by decide) (by decide) (by decide) (by decide) (by decide) (by decide)]; exact (a3 j y1 y2).2.2
              · show wS M2 2 k s 5 i = _
                rw [wS_o (by decide), f1 5 (by decide) (by decide) (by decide) (by decide) (by decide) (by decide)]; exact (a4 i y1 y2).1
              · show wS M2 2 k s 11 i = _
                rw [wS_o (by decide), f1 11 (by decide) (by decide) (by decide) (by decide) (by decide) (by decide)]; exact (a4 i y1 y2).2.1
              · show wS M2 2 k s 12 i = _
                rw [wS_o (by decide), f1 12 (by decide) (by decide) (by decide) (by decide) (by decide) (by decide)]; exact (a4 i y1 y2).2.2
            have hstep : fwL S0 X k p n.toNat w (10 - X 4 k - (s + -1)).toNat (s + -1 + 1) = @ite Int (itX S0 w (shX k s X) n.toNat 10 p = 1) (Classical.propDecidable _) s (fwL S0 X k p n.toNat w (10 - X 4 k - s).toNat (s + 1)) := by
              rw [show (10 - X 4 k - (s + -1)).toNat = (10 - X 4 k - s).toNat + 1 by omega, show s + -1 + 1 = s by omega]
              rfl
            have next := fun M3 => ih (s + -1) M3 (by omega) (by omega) (by omega)
            rw [hstep] at next
            generalize fwL S0 X k p n.toNat w (10 - X 4 k - s).toNat (s + 1) = r at next ⊢
            refine g_l dX12_openFor_58 rfl rfl ?_
            refine g_if_lt (t := 107) dX12_openFor_60 (by decide) rfl (by omega) (fun c_60 => False.elim (by omega)) (fun c_60 => ?_)
            refine g_l dX12_openFor_63 rfl rfl ?_
            refine g_getf dX12_openFor_64 h248 f_12_17 rfl rfl ?_
            refine g_l dX12_openFor_67 rfl rfl ?_
            refine g_l dX12_openFor_68 rfl rfl ?_
            refine g_iast dX12_openFor_70 h250 (by omega) (by decide) p250 rfl ?_
            refine g_l dX12_openFor_71 rfl rfl ?_
            refine g_callV dX12_openFor_72 m_12_199 (n := 0) rfl h248 rfl (Nat.le_of_ble_eq_true rfl) (Nat.le_of_ble_eq_true rfl) rfl rfl ?_
            have t25 : wS M2 2 k s 0 5 = M 0 5 := by rw [wS_o (by decide)]; exact f2 5 (by decide)
            have t24 : wS M2 2 k s 0 4 = M 0 4 := by rw [wS_o (by decide)]; exact f2 4 (by decide)
            refine s_X12_begin (by omega) (by omega) (fun M5 b => ?_)
            obtain ⟨d1, d2, d3⟩ := ah1 b t2 a2 (shX_ok hX hs)
            simp only [Option.toList_some, Option.toList_none, List.cons_append, List.nil_append]
            refine g_l dX12_openFor_75 rfl rfl ?_
            refine g_l dX12_openFor_76 rfl rfl ?_
            refine g_l dX12_openFor_77 rfl rfl ?_
            refine g_callV dX12_openFor_79 m_12_205 (n := 2) rfl h248 rfl (Nat.le_of_ble_eq_true rfl) (Nat.le_of_ble_eq_true rfl) rfl rfl ?_
            refine s_X12_goMany (by omega) y.2 d1 hp d2 hB (fun M3 b3 b4 => ?_)
            · replace b3 := b.q.tr b3.q
              replace b4 := ah2 y.2 hp (shX_ok hX hs) d3 b4
              have e2 := (b4.2.2.2 p x.1 x.2).2.2
              change M3 23 p = itX S0 w (shX k s X) n.toNat 10 p at e2
              have rr := ((itX_ok hp (shX_ok (k := k) (s := s) hX hs) y.2 n.toNat).2.1 p x.1 x.2).2.2.1
              have nx := next M3 (fun c y1 y2 y3 y4 y5 y6 => by rw [b3.1 c y1 y3 y4 y5 y6, wS_o y2]; exact f1 c y1 y2 y3 y4 y5 y6) (fun j hj => by rw [b3.2 j hj, wS_o (by decide)]; exact f2 j hj) (fun j hj => by rw [b3.1 2 (by decide) (by decide) (by decide) (by decide) (by decide), wS_s, if_neg hj]; exact f3 j hj)
              simp only [Option.toList_some, Option.toList_none, List.cons_append, List.nil_append]
              refine g_l dX12_openFor_82 rfl rfl ?_
              refine g_getf dX12_openFor_83 h248 f_12_81 rfl rfl ?_
              refine g_l dX12_openFor_86 rfl rfl ?_
              refine g_iald dX12_openFor_87 h271 (by omega) (by decide) rfl ?_
              rw [e2]
              refine g_iconst dX12_openFor_88 rfl ?_
              refine g_icmp_ne (t := 97) dX12_openFor_89 (by decide) rfl (by omega) (by omega) (fun c_89 => ?_) (fun c_89 => ?_)
              · rw [if_neg c_89] at nx
                refine g_l dX12_openFor_97 rfl rfl ?_
                refine g_l (loc' := [some _, some _, some _, some _, some _, some _, some _, some _]) dX12_openFor_99 rfl rfl ?_
                refine g_iinc (loc' := [some _, some _, some _, some _, some _, some _, some _, some _]) dX12_openFor_101 rfl rfl rfl ?_
                refine g_goto (t := 58) dX12_openFor_104 (by decide) ?_
                exact nx
              · rw [if_pos c_89] at nx
                refine g_l dX12_openFor_92 rfl rfl ?_
                refine g_goto (t := 99) dX12_openFor_94 (by decide) ?_
                refine g_l (loc' := [some _, some _, some _, some _, some _, some _, some _, some _]) dX12_openFor_99 rfl rfl ?_
                refine g_iinc (loc' := [some _, some _, some _, some _, some _, some _, some _, some _]) dX12_openFor_101 rfl rfl rfl ?_
                refine g_goto (t := 58) dX12_openFor_104 (by decide) ?_
                exact nx
        have := loop (11 - X 4 k).toNat (10 - X 4 k) M1 (by omega) (by omega) (by omega) (fun c y1 _ _ _ _ _ => h1.1 c y1) (fun j hj => h1.2 j (by omega)) (fun j hj => by rw [h1.1 2 (by decide)])
        rw [show (10 - X 4 k - (10 - X 4 k)).toNat = 0 by omega] at this
        exact this
end RF
