/-! OvensAbove's own methods: the rest -/
section OC
variable {S : Nat → Int → Int} {Tw : Nat → Nat → Int → Int} {M : Nat → Int → Int} {P : Nat → Nat} {d : Nat} {Q : Option Value → GH → Prop}
theorem s_X11_quarter {w B : Int} (hw : R32 w) (hp : pOk S) (hk : twOk S (Tw 0) B) (hB : B ≤ 900000) (hrow : rowP P) (hl : 0 ≤ S 30 1 ∧ S 30 1 ≤ 12) (q1 : ¬ (0 ≤ w ∧ w ≤ 9) → Q (some (.int (iI (-2)))) (hO S Tw M P))
    (q2 : 0 ≤ w ∧ w ≤ 9 → ∀ S' Tw' P' z T1, (z = P' (S' 30 1 - 1).toNat) → ((S 30 1 < 12 ∧ P' = P ∧ S' 30 1 = S 30 1 + 1) ∨ (S 30 1 = 12 ∧ (∀ j, j < 11 → P' j = P (j + 1)) ∧ P' 11 = P 0 ∧ S' 30 1 = 12)) → (∀ c, c ≠ 30 → S' c = S c) → frT z Tw T1 → agr S (T1 z) (Tw 0) → frT 0 T1 Tw' → agr S (Tw' 0) (fX S w (Tw 0)) →
      Q (some (.int (iI (setF (fun i => Tw 0 10 i = 0 ∧ ¬ fX S w (Tw 0) 10 i = 0) (S 13 5).toNat)))) (hO S' Tw' M P')) : CallD (d + 5) 93 [.ref 0, .int (iI w)] (hO S Tw M P) Q := by
  refine g_enter (loc := [some _, some _]) e_X11_quarter i_X11_quarter (Nat.le_of_ble_eq_true rfl) rfl ?_
  refine g_l dX11_quarter_0 rfl rfl ?_
  refine g_callS dX11_quarter_1 m_11_188 (n := 1) rfl (by exact Nat.le_of_ble_eq_true rfl) (by exact Nat.le_of_ble_eq_true rfl) (by rfl) (by rfl) (by rfl) ?_
  refine s_X11_isWood hw (fun x => ?_) (fun x => ?_)
  · simp only [Option.toList_some, Option.toList_none, List.cons_append, List.nil_append]
    refine g_if_ne (t := 10) dX11_quarter_4 (by decide) rfl (by omega) (fun c_4 => ?_) (fun c_4 => False.elim (by omega))
    refine g_l dX11_quarter_10 rfl rfl ?_
    refine g_getf dX11_quarter_11 h0 f_11_42 rfl rfl ?_
    refine g_l dX11_quarter_14 rfl rfl ?_
    refine g_getf dX11_quarter_15 h0 f_11_35 rfl rfl ?_
    refine g_callV dX11_quarter_18 m_11_191 (n := 1) rfl h30 rfl (Nat.le_of_ble_eq_true rfl) (Nat.le_of_ble_eq_true rfl) rfl rfl ?_
    have hz := hrow.1 (S 30 1).toNat
    refine s_X6_add hrow hl (fun y T1 a1 a2 => ?_) (fun y T1 P' b1 b2 a1 a2 => ?_)
    · simp only [Option.toList_some, Option.toList_none, List.cons_append, List.nil_append]
      have e0 : T1 0 = Tw 0 := a1 0 (by have := hz (by omega); omega)
      have ht : tEq (wS S 30 1 (S 30 1 + 1)) S := ⟨wS_o (by decide), wS_o (by decide), wS_o (by decide), wS_o (by decide), wS_o (by decide), wS_o (by decide)⟩
      refine g_l dX11_quarter_21 rfl rfl ?_
      refine g_getf dX11_quarter_22 h0 f_11_35 rfl rfl ?_
      refine g_l dX11_quarter_25 rfl rfl ?_
      refine g_callV dX11_quarter_26 m_11_194 (n := 1) rfl (hT0 (by omega)) rfl (Nat.le_of_ble_eq_true rfl) (Nat.le_of_ble_eq_true rfl) rfl rfl ?_
      refine s_X9_fire (t := 0) (by decide) (ht.p hp) (by rw [e0]; exact ht.tw hk) (by omega) x (fun T2 c1 c2 => ?_)
      simp only [Option.toList_some, Option.toList_none, List.cons_append, List.nil_append]
      rw [e0, ht.f, ht.1]
      rw [e0, ht.f] at c2
      refine g_retI dX11_quarter_29 rfl rfl ?_
      exact q2 x _ T2 P (P (S 30 1).toNat) T1 (by rw [wS_e]; exact congrArg P (by omega)) (Or.inl ⟨y, rfl, wS_e⟩) (fun c hc => wS_o hc) a1 a2 c1 (ht.sy.a c2)
    · simp only [Option.toList_some, Option.toList_none, List.cons_append, List.nil_append]
      have e0 : T1 0 = Tw 0 := a1 0 (by have := hrow.1 0 (by decide); omega)
      have ht : tEq (wS (wS S 30 1 11) 30 1 12) S := ⟨by rw [wS_o (by decide), wS_o (by decide)], by rw [wS_o (by decide), wS_o (by decide)], by rw [wS_o (by decide), wS_o (by decide)], by rw [wS_o (by decide), wS_o (by decide)], by rw [wS_o (by decide), wS_o (by decide)], by rw [wS_o (by decide), wS_o (by decide)]⟩
      refine g_l dX11_quarter_21 rfl rfl ?_
      refine g_getf dX11_quarter_22 h0 f_11_35 rfl rfl ?_
      refine g_l dX11_quarter_25 rfl rfl ?_
      refine g_callV dX11_quarter_26 m_11_194 (n := 1) rfl (hT0 (by omega)) rfl (Nat.le_of_ble_eq_true rfl) (Nat.le_of_ble_eq_true rfl) rfl rfl ?_
      refine s_X9_fire (t := 0) (by decide) (ht.p hp) (by rw [e0]; exact ht.tw hk) (by omega) x (fun T2 c1 c2 => ?_)
      simp only [Option.toList_some, Option.toList_none, List.cons_append, List.nil_append]
      rw [e0, ht.f, ht.1]
      rw [e0, ht.f] at c2
      refine g_retI dX11_quarter_29 rfl rfl ?_
      exact q2 x _ T2 P' (P' 11) T1 (by rw [wS_e]; rfl) (Or.inr ⟨y, b1, b2, wS_e⟩) (fun c hc => by rw [wS_o hc, wS_o hc]) a1 a2 c1 (ht.sy.a c2)
  · simp only [Option.toList_some, Option.toList_none, List.cons_append, List.nil_append]
    refine g_if_ne (t := 10) dX11_quarter_4 (by decide) rfl (by omega) (fun c_4 => False.elim (by omega)) (fun c_4 => ?_)
    refine g_bipush dX11_quarter_7 (by decide) rfl ?_
    refine g_retI dX11_quarter_9 rfl rfl ?_
    exact q1 x
theorem s_X11_undo (hrow : rowP P) (hl : 0 ≤ S 30 1 ∧ S 30 1 ≤ 12) (q1 : S 30 1 = 0 → Q (some (.int (iI (-3)))) (hO S Tw M P))
    (q2 : 0 < S 30 1 → ∀ Tw' u, u = P (S 30 1 - 1).toNat → frT 0 Tw Tw' → Tw' 0 2 = Tw u 2 → Tw' 0 1 6 = Tw u 1 6 → Tw' 0 9 = Tw u 9 → Tw' 0 10 = Tw u 10 → (∀ j, j ≠ 6 → Tw' 0 1 j = Tw 0 1 j) → (∀ o, o ≠ 1 → o ≠ 2 → o ≠ 9 → o ≠ 10 → Tw' 0 o = Tw 0 o) → Q (some (.int (iI (S 30 1 - 1)))) (hO (wS S 30 1 (S 30 1 - 1)) Tw' M P)) : CallD (d + 4) 94 [.ref 0] (hO S Tw M P) Q := by
  refine g_enter (loc := [some _]) e_X11_undo i_X11_undo (Nat.le_of_ble_eq_true rfl) rfl ?_
  refine g_l dX11_undo_0 rfl rfl ?_
  refine g_getf dX11_undo_1 h0 f_11_42 rfl rfl ?_
  refine g_callV dX11_undo_4 m_11_125 (n := 0) rfl h30 rfl (Nat.le_of_ble_eq_true rfl) (Nat.le_of_ble_eq_true rfl) rfl rfl ?_
  refine s_X6_length ?_
  simp only [Option.toList_some, Option.toList_none, List.cons_append, List.nil_append]
  refine g_if_ne (t := 13) dX11_undo_7 (by decide) rfl (by omega) (fun c_7 => ?_) (fun c_7 => ?_)
  · refine g_l dX11_undo_13 rfl rfl ?_
    refine g_getf dX11_undo_14 h0 f_11_42 rfl rfl ?_
    refine g_l dX11_undo_17 rfl rfl ?_
    refine g_getf dX11_undo_18 h0 f_11_35 rfl rfl ?_
    refine g_callV dX11_undo_21 m_11_197 (n := 1) rfl h30 rfl (Nat.le_of_ble_eq_true rfl) (Nat.le_of_ble_eq_true rfl) rfl rfl ?_
    refine s_X6_takeBack hrow hl (fun y => by omega) (fun y Tw' u a1 a2 a3 a4 a5 a6 a7 a8 => ?_)
    simp only [Option.toList_some, Option.toList_none, List.cons_append, List.nil_append]
    refine g_retI dX11_undo_24 rfl rfl ?_
    exact q2 y Tw' u a1 a2 a3 a4 a5 a6 a7 a8
  · refine g_bipush dX11_undo_10 (by decide) rfl ?_
    refine g_retI dX11_undo_12 rfl rfl ?_
    exact q1 (by omega)
theorem s_X11_floors {n w B : Int} (hn : R32 n) (hw : R32 w) (hp : pOk S) (ht : twOk S (Tw 0) B) (hB : B ≤ 900000) (q2 : ¬ ((1 ≤ n ∧ n ≤ 9) ∧ 0 ≤ w ∧ w ≤ 9) → Q (some (.int (iI (-2)))) (hO S Tw M P))
    (q3 : (1 ≤ n ∧ n ≤ 9) ∧ 0 ≤ w ∧ w ≤ 9 → ∀ S' Tw' pl b, (∀ c, ¬ (244 ≤ c ∧ c ≤ 247) → S' c = S c) → frT 15 Tw Tw' → (∀ j, 0 ≤ j → j < S 13 5 → S' 246 j = rbF S (Tw 0) j 0 n.toNat w (Tw 0 1 5).toNat ∧ S' 247 j = rbF S (Tw 0) j 1 n.toNat w (Tw 0 1 5).toNat) → (∀ j, 0 ≤ j → j < S 13 5 → pl j = if Tw 0 10 j = 0 then 0 else Tw 0 8 j) →
      S' 244 = (flL S (S' 246) (S' 247) (Tw 0) (mpF S' (S 13 5).toNat) (S 13 5).toNat 3125 (-1) b pl).2 → Q (some (.int (iI (flL S (S' 246) (S' 247) (Tw 0) (mpF S' (S 13 5).toNat) (S 13 5).toNat 3125 (-1) b pl).1))) (hO S' Tw' M P)) : CallD (d + 7) 99 [.ref 0, .int (iI n), .int (iI w)] (hO S Tw M P) Q := by
  refine g_enter (loc := [some _, some _, some _]) e_X11_floors i_X11_floors (Nat.le_of_ble_eq_true rfl) rfl ?_
  refine g_l dX11_floors_0 rfl rfl ?_
  refine g_bipush dX11_floors_1 (by decide) rfl ?_
  refine g_callS dX11_floors_3 m_11_201 (n := 2) rfl (by exact Nat.le_of_ble_eq_true rfl) (by exact Nat.le_of_ble_eq_true rfl) (by rfl) (by rfl) (by rfl) ?_
  refine s_X11_isSpan hn (by decide) (fun y => ?_) (fun y => ?_)
  · simp only [Option.toList_some, Option.toList_none, List.cons_append, List.nil_append]
    refine g_if_eq (t := 16) dX11_floors_6 (by decide) rfl (by omega) (fun c_6 => False.elim (by omega)) (fun c_6 => ?_)
    refine g_l dX11_floors_9 rfl rfl ?_
    refine g_callS dX11_floors_10 m_11_188 (n := 1) rfl (by exact Nat.le_of_ble_eq_true rfl) (by exact Nat.le_of_ble_eq_true rfl) (by rfl) (by rfl) (by rfl) ?_
    refine s_X11_isWood hw (fun x => ?_) (fun x => ?_)
    · simp only [Option.toList_some, Option.toList_none, List.cons_append, List.nil_append]
      refine g_if_ne (t := 19) dX11_floors_13 (by decide) rfl (by omega) (fun c_13 => ?_) (fun c_13 => False.elim (by omega))
      refine g_l dX11_floors_19 rfl rfl ?_
      refine g_getf dX11_floors_20 h0 f_11_88 rfl rfl ?_
      refine g_l dX11_floors_23 rfl rfl ?_
      refine g_l dX11_floors_24 rfl rfl ?_
      refine g_callV dX11_floors_25 m_11_222 (n := 2) rfl h243 rfl (Nat.le_of_ble_eq_true rfl) (Nat.le_of_ble_eq_true rfl) rfl rfl ?_
      refine s_X1_search hp ht hB (by omega) x (fun S' Tw' pl b a1 a2 a3 a4 a5 => ?_)
      simp only [Option.toList_some, Option.toList_none, List.cons_append, List.nil_append]
      have h := q3 ⟨y, x⟩ S' Tw' pl b a1 a2 a3 a4 a5
      generalize (flL S (S' 246) (S' 247) (Tw 0) (mpF S' (S 13 5).toNat) (S 13 5).toNat 3125 (-1) b pl).1 = r at h ⊢
      refine g_retI dX11_floors_28 rfl rfl ?_
      exact h
    · simp only [Option.toList_some, Option.toList_none, List.cons_append, List.nil_append]
      refine g_if_ne (t := 19) dX11_floors_13 (by decide) rfl (by omega) (fun c_13 => False.elim (by omega)) (fun c_13 => ?_)
      refine g_bipush dX11_floors_16 (by decide) rfl ?_
      refine g_retI dX11_floors_18 rfl rfl ?_
      exact q2 (fun v => x v.2)
  · simp only [Option.toList_some, Option.toList_none, List.cons_append, List.nil_append]
    refine g_if_eq (t := 16) dX11_floors_6 (by decide) rfl (by omega) (fun c_6 => ?_) (fun c_6 => False.elim (by omega))
    refine g_bipush dX11_floors_16 (by decide) rfl ?_
    refine g_retI dX11_floors_18 rfl rfl ?_
    exact q2 (fun v => y v.1)
theorem s_X11_floorAt {p n w B : Int} (hp0 : R32 p) (hn : R32 n) (hw : R32 w) (hp : pOk S) (ht : twOk S (Tw 0) B) (hB : B ≤ 900000) (q1 : ¬ (0 ≤ p ∧ p < S 13 5) → Q (some (.int (iI (-1)))) (hO S Tw M P)) (q2 : 0 ≤ p ∧ p < S 13 5 → ¬ ((1 ≤ n ∧ n ≤ 9) ∧ 0 ≤ w ∧ w ≤ 9) → Q (some (.int (iI (-2)))) (hO S Tw M P))
    (q3 : 0 ≤ p ∧ p < S 13 5 → (1 ≤ n ∧ n ≤ 9) ∧ 0 ≤ w ∧ w ≤ 9 → ∀ S' Tw' pl b, (∀ c, ¬ (244 ≤ c ∧ c ≤ 247) → S' c = S c) → frT 15 Tw Tw' → (∀ j, 0 ≤ j → j < S 13 5 → S' 246 j = rbF S (Tw 0) j 0 n.toNat w (Tw 0 1 5).toNat ∧ S' 247 j = rbF S (Tw 0) j 1 n.toNat w (Tw 0 1 5).toNat) → (∀ j, 0 ≤ j → j < S 13 5 → pl j = if Tw 0 10 j = 0 then 0 else Tw 0 8 j) →
      S' 244 = (flL S (S' 246) (S' 247) (Tw 0) (mpF S' (S 13 5).toNat) (S 13 5).toNat 3125 (-1) b pl).2 → Q (some (.int (iI (S' 244 p)))) (hO S' Tw' M P)) : CallD (d + 7) 100 [.ref 0, .int (iI p), .int (iI n), .int (iI w)] (hO S Tw M P) Q := by
  have t1 := hp.1
  have t2 := hp.2.1
  refine g_enter (loc := [some _, some _, some _, some _]) e_X11_floorAt i_X11_floorAt (Nat.le_of_ble_eq_true rfl) rfl ?_
  refine g_l dX11_floorAt_0 rfl rfl ?_
  refine g_getf dX11_floorAt_1 h0 f_11_26 rfl rfl ?_
  refine g_l dX11_floorAt_4 rfl rfl ?_
  refine g_callV dX11_floorAt_5 m_11_163 (n := 1) rfl h13 rfl (Nat.le_of_ble_eq_true rfl) (Nat.le_of_ble_eq_true rfl) rfl rfl ?_
  refine s_X8_isThere hp0 (by omega) (fun z => ?_) (fun z => ?_)
  · simp only [Option.toList_some, Option.toList_none, List.cons_append, List.nil_append]
    refine g_if_ne (t := 13) dX11_floorAt_8 (by decide) rfl (by omega) (fun c_8 => ?_) (fun c_8 => False.elim (by omega))
    refine g_l dX11_floorAt_13 rfl rfl ?_
    refine g_bipush dX11_floorAt_14 (by decide) rfl ?_
    refine g_callS dX11_floorAt_16 m_11_201 (n := 2) rfl (by exact Nat.le_of_ble_eq_true rfl) (by exact Nat.le_of_ble_eq_true rfl) (by rfl) (by rfl) (by rfl) ?_
    refine s_X11_isSpan hn (by decide) (fun y => ?_) (fun y => ?_)
    · simp only [Option.toList_some, Option.toList_none, List.cons_append, List.nil_append]
      refine g_if_eq (t := 29) dX11_floorAt_19 (by decide) rfl (by omega) (fun c_19 => False.elim (by omega)) (fun c_19 => ?_)
      refine g_l dX11_floorAt_22 rfl rfl ?_
      refine g_callS dX11_floorAt_23 m_11_188 (n := 1) rfl (by exact Nat.le_of_ble_eq_true rfl) (by exact Nat.le_of_ble_eq_true rfl) (by rfl) (by rfl) (by rfl) ?_
      refine s_X11_isWood hw (fun x => ?_) (fun x => ?_)
      · simp only [Option.toList_some, Option.toList_none, List.cons_append, List.nil_append]
        refine g_if_ne (t := 32) dX11_floorAt_26 (by decide) rfl (by omega) (fun c_26 => ?_) (fun c_26 => False.elim (by omega))
        refine g_l dX11_floorAt_32 rfl rfl ?_
        refine g_getf dX11_floorAt_33 h0 f_11_88 rfl rfl ?_
        refine g_l dX11_floorAt_36 rfl rfl ?_
        refine g_l dX11_floorAt_37 rfl rfl ?_
        refine g_callV dX11_floorAt_38 m_11_222 (n := 2) rfl h243 rfl (Nat.le_of_ble_eq_true rfl) (Nat.le_of_ble_eq_true rfl) rfl rfl ?_
        refine s_X1_search hp ht hB (by omega) x (fun S' Tw' pl b a1 a2 a3 a4 a5 => ?_)
        simp only [Option.toList_some, Option.toList_none, List.cons_append, List.nil_append]
        have h := q3 z ⟨y, x⟩ S' Tw' pl b a1 a2 a3 a4 a5
        generalize (flL S (S' 246) (S' 247) (Tw 0) (mpF S' (S 13 5).toNat) (S 13 5).toNat 3125 (-1) b pl).1 = r
        refine g_s dX11_floorAt_41 rfl rfl rfl ?_
        refine g_l dX11_floorAt_42 rfl rfl ?_
        refine g_getf dX11_floorAt_43 h0 f_11_88 rfl rfl ?_
        refine g_getf dX11_floorAt_46 h243 f_11_223 rfl rfl ?_
        refine g_l dX11_floorAt_49 rfl rfl ?_
        refine g_iald dX11_floorAt_50 h244 (by omega) (by decide) rfl ?_
        refine g_retI dX11_floorAt_51 rfl rfl ?_
        exact h
      · simp only [Option.toList_some, Option.toList_none, List.cons_append, List.nil_append]
        refine g_if_ne (t := 32) dX11_floorAt_26 (by decide) rfl (by omega) (fun c_26 => False.elim (by omega)) (fun c_26 => ?_)
        refine g_bipush dX11_floorAt_29 (by decide) rfl ?_
        refine g_retI dX11_floorAt_31 rfl rfl ?_
        exact q2 z (fun v => x v.2)
    · simp only [Option.toList_some, Option.toList_none, List.cons_append, List.nil_append]
      refine g_if_eq (t := 29) dX11_floorAt_19 (by decide) rfl (by omega) (fun c_19 => ?_) (fun c_19 => False.elim (by omega))
      refine g_bipush dX11_floorAt_29 (by decide) rfl ?_
      refine g_retI dX11_floorAt_31 rfl rfl ?_
      exact q2 z (fun v => y v.1)
  · simp only [Option.toList_some, Option.toList_none, List.cons_append, List.nil_append]
    refine g_if_ne (t := 13) dX11_floorAt_8 (by decide) rfl (by omega) (fun c_8 => False.elim (by omega)) (fun c_8 => ?_)
    refine g_iconst dX11_floorAt_11 rfl ?_
    refine g_retI dX11_floorAt_12 rfl rfl ?_
    exact q1 (by omega)
theorem s_X11_keep {s : Int} (hs : R32 s) (ht : 2 ≤ Tw 0 1 5 ∧ Tw 0 1 5 ≤ 5) (q1 : ¬ (0 ≤ s ∧ s < 2) → Q (some (.int (iI (-1)))) (hO S Tw M P)) (q2 : 0 ≤ s ∧ s < 2 → ∀ Tw', frT (13 + s.toNat) Tw Tw' → agr S (Tw' (13 + s.toNat)) (Tw 0) → Q (some (.int (iI (sumF (Tw 0 2) (Tw 0 1 5).toNat)))) (hO (wS S 187 s 1) Tw' M P)) : CallD (d + 4) 107 [.ref 0, .int (iI s)] (hO S Tw M P) Q := by
  refine g_enter (loc := [some _, some _]) e_X11_keep i_X11_keep (Nat.le_of_ble_eq_true rfl) rfl ?_
  refine g_l dX11_keep_0 rfl rfl ?_
  refine g_if_lt (t := 9) dX11_keep_1 (by decide) rfl (by omega) (fun c_1 => ?_) (fun c_1 => ?_)
  · refine g_iconst dX11_keep_9 rfl ?_
    refine g_retI dX11_keep_10 rfl rfl ?_
    exact q1 (by omega)
  · refine g_l dX11_keep_4 rfl rfl ?_
    refine g_iconst dX11_keep_5 rfl ?_
    refine g_icmp_lt (t := 11) dX11_keep_6 (by decide) rfl (by omega) (by omega) (fun c_6 => ?_) (fun c_6 => ?_)
    · refine g_l dX11_keep_11 rfl rfl ?_
      refine g_getf dX11_keep_12 h0 f_11_46 rfl rfl ?_
      refine g_l dX11_keep_15 rfl rfl ?_
      refine g_aald164 dX11_keep_16 (by omega) rfl ?_
      refine g_l dX11_keep_17 rfl rfl ?_
      refine g_getf dX11_keep_18 h0 f_11_35 rfl rfl ?_
      refine g_callV dX11_keep_21 m_11_251 (n := 1) rfl (hT0 (by omega)) rfl (Nat.le_of_ble_eq_true rfl) (Nat.le_of_ble_eq_true rfl) rfl rfl ?_
      refine s_X9_copyFrom (t := 13 + s.toNat) (u := 0) (by omega) (by decide) (by omega) (fun T1 a1 a2 => ?_)
      simp only [Option.toList_some, Option.toList_none, List.cons_append, List.nil_append]
      have e0 : T1 0 = Tw 0 := a1 0 (by omega)
      refine g_l dX11_keep_24 rfl rfl ?_
      refine g_getf dX11_keep_25 h0 f_11_50 rfl rfl ?_
      refine g_l dX11_keep_28 rfl rfl ?_
      refine g_iconst dX11_keep_29 rfl ?_
      refine g_bast dX11_keep_30 h187 (by omega) (by omega) (by decide) p187 rfl ?_
      refine g_l dX11_keep_31 rfl rfl ?_
      refine g_getf dX11_keep_32 h0 f_11_35 rfl rfl ?_
      refine g_getf dX11_keep_35 (hT0 (by omega)) f_11_56 rfl rfl ?_
      refine g_callV dX11_keep_38 m_11_128 (n := 0) rfl (hT1 (by omega)) rfl (Nat.le_of_ble_eq_true rfl) (Nat.le_of_ble_eq_true rfl) rfl rfl ?_
      refine s_X2_allHeat (t := 0) (by decide) (by rw [e0]; omega) ?_
      simp only [Option.toList_some, Option.toList_none, List.cons_append, List.nil_append]
      rw [e0]
      refine g_retI dX11_keep_41 rfl rfl ?_
      exact q2 (by omega) T1 a1 a2
    · refine g_iconst dX11_keep_9 rfl ?_
      refine g_retI dX11_keep_10 rfl rfl ?_
      exact q1 (by omega)
theorem s_X11_again {s : Int} (hs : R32 s) (ht : ∀ u, agr S u (Tw (13 + s.toNat)) → 2 ≤ u 1 5 ∧ u 1 5 ≤ 5) (hb : 0 ≤ s → s < 2 → S 187 s = 0 ∨ S 187 s = 1) (q1 : ¬ (0 ≤ s ∧ s < 2) → Q (some (.int (iI (-1)))) (hO S Tw M P)) (q2 : 0 ≤ s ∧ s < 2 → S 187 s = 0 → Q (some (.int (iI (-3)))) (hO S Tw M P))
    (q3 : 0 ≤ s ∧ s < 2 → S 187 s = 1 → ∀ Tw', frT 0 Tw Tw' → agr S (Tw' 0) (Tw (13 + s.toNat)) → Q (some (.int (iI (sumF (Tw' 0 2) (Tw' 0 1 5).toNat)))) (hO (wS S 30 1 0) Tw' M P)) : CallD (d + 4) 108 [.ref 0, .int (iI s)] (hO S Tw M P) Q := by
  refine g_enter (loc := [some _, some _]) e_X11_again i_X11_again (Nat.le_of_ble_eq_true rfl) rfl ?_
  refine g_l dX11_again_0 rfl rfl ?_
  refine g_if_lt (t := 9) dX11_again_1 (by decide) rfl (by omega) (fun c_1 => ?_) (fun c_1 => ?_)
  · refine g_iconst dX11_again_9 rfl ?_
    refine g_retI dX11_again_10 rfl rfl ?_
    exact q1 (by omega)
  · refine g_l dX11_again_4 rfl rfl ?_
    refine g_iconst dX11_again_5 rfl ?_
    refine g_icmp_lt (t := 11) dX11_again_6 (by decide) rfl (by omega) (by omega) (fun c_6 => ?_) (fun c_6 => ?_)
    · have hb2 := hb (by omega) (by omega)
      refine g_l dX11_again_11 rfl rfl ?_
      refine g_getf dX11_again_12 h0 f_11_50 rfl rfl ?_
      refine g_l dX11_again_15 rfl rfl ?_
      refine g_bald dX11_again_16 h187 (by omega) (by decide) rfl ?_
      refine g_if_ne (t := 23) dX11_again_17 (by decide) rfl (by omega) (fun c_17 => ?_) (fun c_17 => ?_)
      · refine g_l dX11_again_23 rfl rfl ?_
        refine g_getf dX11_again_24 h0 f_11_35 rfl rfl ?_
        refine g_l dX11_again_27 rfl rfl ?_
        refine g_getf dX11_again_28 h0 f_11_46 rfl rfl ?_
        refine g_l dX11_again_31 rfl rfl ?_
        refine g_aald164 dX11_again_32 (by omega) rfl ?_
        refine g_callV dX11_again_33 m_11_251 (n := 1) rfl (hT0 (by omega)) rfl (Nat.le_of_ble_eq_true rfl) (Nat.le_of_ble_eq_true rfl) rfl rfl ?_
        refine s_X9_copyFrom (t := 0) (u := 13 + s.toNat) (by decide) (by omega) (by omega) (fun T1 a1 a2 => ?_)
        simp only [Option.toList_some, Option.toList_none, List.cons_append, List.nil_append]
        refine g_l dX11_again_36 rfl rfl ?_
        refine g_getf dX11_again_37 h0 f_11_42 rfl rfl ?_
        refine g_callV dX11_again_40 m_11_115 (n := 0) rfl h30 rfl (Nat.le_of_ble_eq_true rfl) (Nat.le_of_ble_eq_true rfl) rfl rfl ?_
        refine s_X6_forget ?_
        simp only [Option.toList_some, Option.toList_none, List.cons_append, List.nil_append]
        refine g_l dX11_again_43 rfl rfl ?_
        refine g_getf dX11_again_44 h0 f_11_35 rfl rfl ?_
        refine g_getf dX11_again_47 (hT0 (by omega)) f_11_56 rfl rfl ?_
        refine g_callV dX11_again_50 m_11_128 (n := 0) rfl (hT1 (by omega)) rfl (Nat.le_of_ble_eq_true rfl) (Nat.le_of_ble_eq_true rfl) rfl rfl ?_
        refine s_X2_allHeat (t := 0) (by decide) (by have := ht _ a2; omega) ?_
        simp only [Option.toList_some, Option.toList_none, List.cons_append, List.nil_append]
        refine g_retI dX11_again_53 rfl rfl ?_
        exact q3 (by omega) (by omega) T1 a1 a2
      · refine g_bipush dX11_again_20 (by decide) rfl ?_
        refine g_retI dX11_again_22 rfl rfl ?_
        exact q2 (by omega) (by omega)
    · refine g_iconst dX11_again_9 rfl ?_
      refine g_retI dX11_again_10 rfl rfl ?_
      exact q1 (by omega)
end OC
