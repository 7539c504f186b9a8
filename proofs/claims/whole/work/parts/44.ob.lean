/-! OvensAbove's own methods: plans, cones, slots -/
section OB
variable {S : Nat → Int → Int} {Tw : Nat → Nat → Int → Int} {M : Nat → Int → Int} {P : Nat → Nat} {d : Nat} {Q : Option Value → GH → Prop}
theorem s_X11_uncone (hq : Q (some (.int (iI (S 199 7)))) (hO (wS S 199 7 0) Tw M P)) : CallD (d + 2) 104 [.ref 0] (hO S Tw M P) Q := by
  refine g_enter (loc := [some _]) e_X11_uncone i_X11_uncone (Nat.le_of_ble_eq_true rfl) rfl ?_
  refine g_l dX11_uncone_0 rfl rfl ?_
  refine g_getf dX11_uncone_1 h0 f_11_63 rfl rfl ?_
  refine g_callV dX11_uncone_4 m_11_247 (n := 0) rfl h199 rfl (Nat.le_of_ble_eq_true rfl) (Nat.le_of_ble_eq_true rfl) rfl rfl ?_
  refine s_X0_clear ?_
  simp only [Option.toList_some, Option.toList_none, List.cons_append, List.nil_append]
  refine g_retI dX11_uncone_7 rfl rfl ?_
  exact hq
theorem s_X11_blame {k B : Int} (hk : R32 k) (hc : nOk S) (ht : tOk (Tw 0) B) (q1 : ¬ (0 ≤ k ∧ k < Tw 0 1 5) → Q (some (.int (iI (-1)))) (hO S Tw M P)) (q3 : 0 ≤ k ∧ k < Tw 0 1 5 → ∀ Tw', frT 15 Tw Tw' → Q (some (.int (iI (ttF S (Tw 0) k (11 - Tw 0 4 k).toNat)))) (hO S Tw' M P)) : CallD (d + 6) 105 [.ref 0, .int (iI k)] (hO S Tw M P) Q := by
  have t1 := ht.1
  have t2 := ht.2.1
  refine g_enter (loc := [some _, some _]) e_X11_blame i_X11_blame (Nat.le_of_ble_eq_true rfl) rfl ?_
  refine g_l dX11_blame_0 rfl rfl ?_
  refine g_getf dX11_blame_1 h0 f_11_35 rfl rfl ?_
  refine g_getf dX11_blame_4 (hT0 (by omega)) f_11_56 rfl rfl ?_
  refine g_l dX11_blame_7 rfl rfl ?_
  refine g_callV dX11_blame_8 m_11_147 (n := 1) rfl (hT1 (by omega)) rfl (Nat.le_of_ble_eq_true rfl) (Nat.le_of_ble_eq_true rfl) rfl rfl ?_
  refine s_X2_isThere (t := 0) (by decide) hk (by omega) (fun z => ?_) (fun z => ?_)
  · simp only [Option.toList_some, Option.toList_none, List.cons_append, List.nil_append]
    refine g_if_ne (t := 16) dX11_blame_11 (by decide) rfl (by omega) (fun c_11 => ?_) (fun c_11 => False.elim (by omega))
    refine g_l dX11_blame_16 rfl rfl ?_
    refine g_getf dX11_blame_17 h0 f_11_63 rfl rfl ?_
    refine g_l dX11_blame_20 rfl rfl ?_
    refine g_callV dX11_blame_21 m_11_248 (n := 1) rfl h199 rfl (Nat.le_of_ble_eq_true rfl) (Nat.le_of_ble_eq_true rfl) rfl rfl ?_
    refine s_X0_trueTenths hc ht (by omega) (fun Tw' a => ?_)
    simp only [Option.toList_some, Option.toList_none, List.cons_append, List.nil_append]
    refine g_retI dX11_blame_24 rfl rfl ?_
    exact q3 z Tw' a
  · simp only [Option.toList_some, Option.toList_none, List.cons_append, List.nil_append]
    refine g_if_ne (t := 16) dX11_blame_11 (by decide) rfl (by omega) (fun c_11 => False.elim (by omega)) (fun c_11 => ?_)
    refine g_iconst dX11_blame_14 rfl ?_
    refine g_retI dX11_blame_15 rfl rfl ?_
    exact q1 (by omega)
theorem s_X11_warm {k n w B : Int} (hk : R32 k) (hn : R32 n) (hw : R32 w) (ht : tOk (Tw 0) B) (hB : B ≤ 900000) (q1 : ¬ (0 ≤ k ∧ k < Tw 0 1 5) → Q (some (.int (iI (-1)))) (hO S Tw M P)) (q2 : 0 ≤ k ∧ k < Tw 0 1 5 → ¬ ((1 ≤ n ∧ n ≤ 9) ∧ 0 ≤ w ∧ w ≤ 9) → Q (some (.int (iI (-2)))) (hO S Tw M P))
    (q3 : 0 ≤ k ∧ k < Tw 0 1 5 → (1 ≤ n ∧ n ≤ 9) ∧ 0 ≤ w ∧ w ≤ 9 → ∀ Tw', frT 15 Tw Tw' → Q (some (.int (iI (hIt (Tw 0 1 5) (Tw 0 3) (Tw 0 4) w (Tw 0 2) n.toNat k)))) (hO S Tw' M P)) : CallD (d + 4) 95 [.ref 0, .int (iI k), .int (iI n), .int (iI w)] (hO S Tw M P) Q := by
  have t1 := ht.1
  have t2 := ht.2.1
  refine g_enter (loc := [some _, some _, some _, some _]) e_X11_warm i_X11_warm (Nat.le_of_ble_eq_true rfl) rfl ?_
  refine g_l dX11_warm_0 rfl rfl ?_
  refine g_getf dX11_warm_1 h0 f_11_35 rfl rfl ?_
  refine g_getf dX11_warm_4 (hT0 (by omega)) f_11_56 rfl rfl ?_
  refine g_l dX11_warm_7 rfl rfl ?_
  refine g_callV dX11_warm_8 m_11_147 (n := 1) rfl (hT1 (by omega)) rfl (Nat.le_of_ble_eq_true rfl) (Nat.le_of_ble_eq_true rfl) rfl rfl ?_
  refine s_X2_isThere (t := 0) (by decide) hk (by omega) (fun z => ?_) (fun z => ?_)
  · simp only [Option.toList_some, Option.toList_none, List.cons_append, List.nil_append]
    refine g_if_ne (t := 16) dX11_warm_11 (by decide) rfl (by omega) (fun c_11 => ?_) (fun c_11 => False.elim (by omega))
    refine g_l dX11_warm_16 rfl rfl ?_
    refine g_bipush dX11_warm_17 (by decide) rfl ?_
    refine g_callS dX11_warm_19 m_11_201 (n := 2) rfl (by exact Nat.le_of_ble_eq_true rfl) (by exact Nat.le_of_ble_eq_true rfl) (by rfl) (by rfl) (by rfl) ?_
    refine s_X11_isSpan hn (by decide) (fun y => ?_) (fun y => ?_)
    · simp only [Option.toList_some, Option.toList_none, List.cons_append, List.nil_append]
      refine g_if_eq (t := 32) dX11_warm_22 (by decide) rfl (by omega) (fun c_22 => False.elim (by omega)) (fun c_22 => ?_)
      refine g_l dX11_warm_25 rfl rfl ?_
      refine g_callS dX11_warm_26 m_11_188 (n := 1) rfl (by exact Nat.le_of_ble_eq_true rfl) (by exact Nat.le_of_ble_eq_true rfl) (by rfl) (by rfl) (by rfl) ?_
      refine s_X11_isWood hw (fun x => ?_) (fun x => ?_)
      · simp only [Option.toList_some, Option.toList_none, List.cons_append, List.nil_append]
        refine g_if_ne (t := 35) dX11_warm_29 (by decide) rfl (by omega) (fun c_29 => ?_) (fun c_29 => False.elim (by omega))
        refine g_l dX11_warm_35 rfl rfl ?_
        refine g_getf dX11_warm_36 h0 f_11_72 rfl rfl ?_
        refine g_l dX11_warm_39 rfl rfl ?_
        refine g_l dX11_warm_40 rfl rfl ?_
        refine g_l dX11_warm_41 rfl rfl ?_
        refine g_callV dX11_warm_42 m_11_205 (n := 3) rfl h205 rfl (Nat.le_of_ble_eq_true rfl) (Nat.le_of_ble_eq_true rfl) rfl rfl ?_
        refine s_X3_heatBehind ht hB (by omega) (by omega) x (fun Tw' a => ?_)
        simp only [Option.toList_some, Option.toList_none, List.cons_append, List.nil_append]
        refine g_retI dX11_warm_45 rfl rfl ?_
        exact q3 z ⟨y, x⟩ Tw' a
      · simp only [Option.toList_some, Option.toList_none, List.cons_append, List.nil_append]
        refine g_if_ne (t := 35) dX11_warm_29 (by decide) rfl (by omega) (fun c_29 => False.elim (by omega)) (fun c_29 => ?_)
        refine g_bipush dX11_warm_32 (by decide) rfl ?_
        refine g_retI dX11_warm_34 rfl rfl ?_
        exact q2 z (fun v => x v.2)
    · simp only [Option.toList_some, Option.toList_none, List.cons_append, List.nil_append]
      refine g_if_eq (t := 32) dX11_warm_22 (by decide) rfl (by omega) (fun c_22 => ?_) (fun c_22 => False.elim (by omega))
      refine g_bipush dX11_warm_32 (by decide) rfl ?_
      refine g_retI dX11_warm_34 rfl rfl ?_
      exact q2 z (fun v => y v.1)
  · simp only [Option.toList_some, Option.toList_none, List.cons_append, List.nil_append]
    refine g_if_ne (t := 16) dX11_warm_11 (by decide) rfl (by omega) (fun c_11 => False.elim (by omega)) (fun c_11 => ?_)
    refine g_iconst dX11_warm_14 rfl ?_
    refine g_retI dX11_warm_15 rfl rfl ?_
    exact q1 (by omega)
theorem s_X11_then {p n w B : Int} (hp0 : R32 p) (hn : R32 n) (hw : R32 w) (hp : pOk S) (ht : twOk S (Tw 0) B) (hB : B ≤ 900000) (q1 : ¬ (0 ≤ p ∧ p < S 13 5) → Q (some (.int (iI (-1)))) (hO S Tw M P)) (q2 : 0 ≤ p ∧ p < S 13 5 → ¬ ((1 ≤ n ∧ n ≤ 9) ∧ 0 ≤ w ∧ w ≤ 9) → Q (some (.int (iI (-2)))) (hO S Tw M P))
    (q3 : 0 ≤ p ∧ p < S 13 5 → (1 ≤ n ∧ n ≤ 9) ∧ 0 ≤ w ∧ w ≤ 9 → ∀ Tw', frT 15 Tw Tw' → Q (some (.int (iI (itX S w (Tw 0) n.toNat 10 p)))) (hO S Tw' M P)) : CallD (d + 7) 96 [.ref 0, .int (iI p), .int (iI n), .int (iI w)] (hO S Tw M P) Q := by
  have t1 := hp.1
  have t2 := hp.2.1
  refine g_enter (loc := [some _, some _, some _, some _]) e_X11_then i_X11_then (Nat.le_of_ble_eq_true rfl) rfl ?_
  refine g_l dX11_then_0 rfl rfl ?_
  refine g_getf dX11_then_1 h0 f_11_26 rfl rfl ?_
  refine g_l dX11_then_4 rfl rfl ?_
  refine g_callV dX11_then_5 m_11_163 (n := 1) rfl h13 rfl (Nat.le_of_ble_eq_true rfl) (Nat.le_of_ble_eq_true rfl) rfl rfl ?_
  refine s_X8_isThere hp0 (by omega) (fun z => ?_) (fun z => ?_)
  · simp only [Option.toList_some, Option.toList_none, List.cons_append, List.nil_append]
    refine g_if_ne (t := 13) dX11_then_8 (by decide) rfl (by omega) (fun c_8 => ?_) (fun c_8 => False.elim (by omega))
    refine g_l dX11_then_13 rfl rfl ?_
    refine g_bipush dX11_then_14 (by decide) rfl ?_
    refine g_callS dX11_then_16 m_11_201 (n := 2) rfl (by exact Nat.le_of_ble_eq_true rfl) (by exact Nat.le_of_ble_eq_true rfl) (by rfl) (by rfl) (by rfl) ?_
    refine s_X11_isSpan hn (by decide) (fun y => ?_) (fun y => ?_)
    · simp only [Option.toList_some, Option.toList_none, List.cons_append, List.nil_append]
      refine g_if_eq (t := 29) dX11_then_19 (by decide) rfl (by omega) (fun c_19 => False.elim (by omega)) (fun c_19 => ?_)
      refine g_l dX11_then_22 rfl rfl ?_
      refine g_callS dX11_then_23 m_11_188 (n := 1) rfl (by exact Nat.le_of_ble_eq_true rfl) (by exact Nat.le_of_ble_eq_true rfl) (by rfl) (by rfl) (by rfl) ?_
      refine s_X11_isWood hw (fun x => ?_) (fun x => ?_)
      · simp only [Option.toList_some, Option.toList_none, List.cons_append, List.nil_append]
        refine g_if_ne (t := 32) dX11_then_26 (by decide) rfl (by omega) (fun c_26 => ?_) (fun c_26 => False.elim (by omega))
        refine g_l dX11_then_32 rfl rfl ?_
        refine g_getf dX11_then_33 h0 f_11_72 rfl rfl ?_
        refine g_l dX11_then_36 rfl rfl ?_
        refine g_l dX11_then_37 rfl rfl ?_
        refine g_l dX11_then_38 rfl rfl ?_
        refine g_callV dX11_then_39 m_11_209 (n := 3) rfl h205 rfl (Nat.le_of_ble_eq_true rfl) (Nat.le_of_ble_eq_true rfl) rfl rfl ?_
        refine s_X3_howBehind hp ht hB z (by omega) x (fun Tw' a => ?_)
        simp only [Option.toList_some, Option.toList_none, List.cons_append, List.nil_append]
        refine g_retI dX11_then_42 rfl rfl ?_
        exact q3 z ⟨y, x⟩ Tw' a
      · simp only [Option.toList_some, Option.toList_none, List.cons_append, List.nil_append]
        refine g_if_ne (t := 32) dX11_then_26 (by decide) rfl (by omega) (fun c_26 => False.elim (by omega)) (fun c_26 => ?_)
        refine g_bipush dX11_then_29 (by decide) rfl ?_
        refine g_retI dX11_then_31 rfl rfl ?_
        exact q2 z (fun v => x v.2)
    · simp only [Option.toList_some, Option.toList_none, List.cons_append, List.nil_append]
      refine g_if_eq (t := 29) dX11_then_19 (by decide) rfl (by omega) (fun c_19 => ?_) (fun c_19 => False.elim (by omega))
      refine g_bipush dX11_then_29 (by decide) rfl ?_
      refine g_retI dX11_then_31 rfl rfl ?_
      exact q2 z (fun v => y v.1)
  · simp only [Option.toList_some, Option.toList_none, List.cons_append, List.nil_append]
    refine g_if_ne (t := 13) dX11_then_8 (by decide) rfl (by omega) (fun c_8 => False.elim (by omega)) (fun c_8 => ?_)
    refine g_iconst dX11_then_11 rfl ?_
    refine g_retI dX11_then_12 rfl rfl ?_
    exact q1 (by omega)
theorem s_X11_openFor {k p n w B : Int} (hk : R32 k) (hp0 : R32 p) (hn : R32 n) (hw : R32 w) (hp : pOk S) (ht : twOk S (Tw 0) B) (hB : B ≤ 900000) (q1 : ¬ ((0 ≤ k ∧ k < Tw 0 1 5) ∧ 0 ≤ p ∧ p < S 13 5) → Q (some (.int (iI (-1)))) (hO S Tw M P)) (q2 : (0 ≤ k ∧ k < Tw 0 1 5) ∧ 0 ≤ p ∧ p < S 13 5 → ¬ ((1 ≤ n ∧ n ≤ 9) ∧ 0 ≤ w ∧ w ≤ 9) → Q (some (.int (iI (-2)))) (hO S Tw M P))
    (q3 : (0 ≤ k ∧ k < Tw 0 1 5) ∧ 0 ≤ p ∧ p < S 13 5 → (1 ≤ n ∧ n ≤ 9) ∧ 0 ≤ w ∧ w ≤ 9 → ∀ Tw', frT 15 Tw Tw' → Q (some (.int (iI (fwL S (Tw 0) k p n.toNat w (11 - Tw 0 4 k).toNat 0)))) (hO S Tw' M P)) : CallD (d + 7) 101 [.ref 0, .int (iI k), .int (iI p), .int (iI n), .int (iI w)] (hO S Tw M P) Q := by
  have t1 := hp.1
  have t2 := hp.2.1
  have t3 := ht.1.1
  have t4 := ht.1.2.1
  refine g_enter (loc := [some _, some _, some _, some _, some _]) e_X11_openFor i_X11_openFor (Nat.le_of_ble_eq_true rfl) rfl ?_
  refine g_l dX11_openFor_0 rfl rfl ?_
  refine g_getf dX11_openFor_1 h0 f_11_35 rfl rfl ?_
  refine g_getf dX11_openFor_4 (hT0 (by omega)) f_11_56 rfl rfl ?_
  refine g_l dX11_openFor_7 rfl rfl ?_
  refine g_callV dX11_openFor_8 m_11_147 (n := 1) rfl (hT1 (by omega)) rfl (Nat.le_of_ble_eq_true rfl) (Nat.le_of_ble_eq_true rfl) rfl rfl ?_
  refine s_X2_isThere (t := 0) (by decide) hk (by omega) (fun zk => ?_) (fun z => ?_)
  · simp only [Option.toList_some, Option.toList_none, List.cons_append, List.nil_append]
    refine g_if_eq (t := 25) dX11_openFor_11 (by decide) rfl (by omega) (fun c_11 => False.elim (by omega)) (fun c_11 => ?_)
    refine g_l dX11_openFor_14 rfl rfl ?_
    refine g_getf dX11_openFor_15 h0 f_11_26 rfl rfl ?_
    refine g_l dX11_openFor_18 rfl rfl ?_
    refine g_callV dX11_openFor_19 m_11_163 (n := 1) rfl h13 rfl (Nat.le_of_ble_eq_true rfl) (Nat.le_of_ble_eq_true rfl) rfl rfl ?_
    refine s_X8_isThere hp0 (by omega) (fun z => ?_) (fun z => ?_)
    · simp only [Option.toList_some, Option.toList_none, List.cons_append, List.nil_append]
      refine g_if_ne (t := 27) dX11_openFor_22 (by decide) rfl (by omega) (fun c_22 => ?_) (fun c_22 => False.elim (by omega))
      refine g_l dX11_openFor_27 rfl rfl ?_
      refine g_bipush dX11_openFor_28 (by decide) rfl ?_
      refine g_callS dX11_openFor_30 m_11_201 (n := 2) rfl (by exact Nat.le_of_ble_eq_true rfl) (by exact Nat.le_of_ble_eq_true rfl) (by rfl) (by rfl) (by rfl) ?_
      refine s_X11_isSpan hn (by decide) (fun y => ?_) (fun y => ?_)
      · simp only [Option.toList_some, Option.toList_none, List.cons_append, List.nil_append]
        refine g_if_eq (t := 44) dX11_openFor_33 (by decide) rfl (by omega) (fun c_33 => False.elim (by omega)) (fun c_33 => ?_)
        refine g_l dX11_openFor_36 rfl rfl ?_
        refine g_callS dX11_openFor_38 m_11_188 (n := 1) rfl (by exact Nat.le_of_ble_eq_true rfl) (by exact Nat.le_of_ble_eq_true rfl) (by rfl) (by rfl) (by rfl) ?_
        refine s_X11_isWood hw (fun x => ?_) (fun x => ?_)
        · simp only [Option.toList_some, Option.toList_none, List.cons_append, List.nil_append]
          refine g_if_ne (t := 47) dX11_openFor_41 (by decide) rfl (by omega) (fun c_41 => ?_) (fun c_41 => False.elim (by omega))
          refine g_l dX11_openFor_47 rfl rfl ?_
          refine g_getf dX11_openFor_48 h0 f_11_72 rfl rfl ?_
          refine g_l dX11_openFor_51 rfl rfl ?_
          refine g_l dX11_openFor_52 rfl rfl ?_
          refine g_l dX11_openFor_53 rfl rfl ?_
          refine g_l dX11_openFor_54 rfl rfl ?_
          refine g_callV dX11_openFor_56 m_11_224 (n := 4) rfl h205 rfl (Nat.le_of_ble_eq_true rfl) (Nat.le_of_ble_eq_true rfl) rfl rfl ?_
          refine s_X3_fewestTenths hp ht hB (by omega) z (by omega) x (fun Tw' a => ?_)
          simp only [Option.toList_some, Option.toList_none, List.cons_append, List.nil_append]
          refine g_retI dX11_openFor_59 rfl rfl ?_
          exact q3 ⟨zk, z⟩ ⟨y, x⟩ Tw' a
        · simp only [Option.toList_some, Option.toList_none, List.cons_append, List.nil_append]
          refine g_if_ne (t := 47) dX11_openFor_41 (by decide) rfl (by omega) (fun c_41 => False.elim (by omega)) (fun c_41 => ?_)
          refine g_bipush dX11_openFor_44 (by decide) rfl ?_
          refine g_retI dX11_openFor_46 rfl rfl ?_
          exact q2 ⟨zk, z⟩ (fun v => x v.2)
      · simp only [Option.toList_some, Option.toList_none, List.cons_append, List.nil_append]
        refine g_if_eq (t := 44) dX11_openFor_33 (by decide) rfl (by omega) (fun c_33 => ?_) (fun c_33 => False.elim (by omega))
        refine g_bipush dX11_openFor_44 (by decide) rfl ?_
        refine g_retI dX11_openFor_46 rfl rfl ?_
        exact q2 ⟨zk, z⟩ (fun v => y v.1)
    · simp only [Option.toList_some, Option.toList_none, List.cons_append, List.nil_append]
      refine g_if_ne (t := 27) dX11_openFor_22 (by decide) rfl (by omega) (fun c_22 => False.elim (by omega)) (fun c_22 => ?_)
      refine g_iconst dX11_openFor_25 rfl ?_
      refine g_retI dX11_openFor_26 rfl rfl ?_
      exact q1 (by omega)
  · simp only [Option.toList_some, Option.toList_none, List.cons_append, List.nil_append]
    refine g_if_eq (t := 25) dX11_openFor_11 (by decide) rfl (by omega) (fun c_11 => ?_) (fun c_11 => False.elim (by omega))
    refine g_iconst dX11_openFor_25 rfl ?_
    refine g_retI dX11_openFor_26 rfl rfl ?_
    exact q1 (by omega)
theorem s_X11_cone {k n w c b : Int} (hk : R32 k) (hn : R32 n) (hw : R32 w) (hc : R32 c) (hb : b = 0 ∨ b = 1) (ht : 2 ≤ Tw 0 1 5 ∧ Tw 0 1 5 ≤ 5) (hx : 0 ≤ S 199 7 ∧ S 199 7 ≤ 8) (q1 : ¬ (0 ≤ k ∧ k < Tw 0 1 5) → Q (some (.int (iI (-1)))) (hO S Tw M P)) (q2 : 0 ≤ k ∧ k < Tw 0 1 5 → ¬ (((1 ≤ n ∧ n ≤ 9) ∧ 0 ≤ w ∧ w ≤ 9) ∧ 0 ≤ c ∧ c ≤ 99) → Q (some (.int (iI (-2)))) (hO S Tw M P))
    (q4 : 0 ≤ k ∧ k < Tw 0 1 5 → (((1 ≤ n ∧ n ≤ 9) ∧ 0 ≤ w ∧ w ≤ 9) ∧ 0 ≤ c ∧ c ≤ 99) → S 199 7 = 8 → Q (some (.int (iI (-4)))) (hO S Tw M P))
    (q3 : 0 ≤ k ∧ k < Tw 0 1 5 → (((1 ≤ n ∧ n ≤ 9) ∧ 0 ≤ w ∧ w ≤ 9) ∧ 0 ≤ c ∧ c ≤ 99) → S 199 7 < 8 → Q (some (.int (iI (S 199 7 + 1)))) (hO (wS (wS (wS (wS (wS (wS S 200 (S 199 7) k) 201 (S 199 7) n) 202 (S 199 7) w) 203 (S 199 7) (10 * c)) 204 (S 199 7) b) 199 7 (S 199 7 + 1)) Tw M P)) : CallD (d + 2) 103 [.ref 0, .int (iI k), .int (iI n), .int (iI w), .int (iI c), .int (iI b)] (hO S Tw M P) Q := by
  refine g_enter (loc := [some _, some _, some _, some _, some _, some _]) e_X11_cone i_X11_cone (Nat.le_of_ble_eq_true rfl) rfl ?_
  refine g_l dX11_cone_0 rfl rfl ?_
  refine g_getf dX11_cone_1 h0 f_11_35 rfl rfl ?_
  refine g_getf dX11_cone_4 (hT0 (by omega)) f_11_56 rfl rfl ?_
  refine g_l dX11_cone_7 rfl rfl ?_
  refine g_callV dX11_cone_8 m_11_147 (n := 1) rfl (hT1 (by omega)) rfl (Nat.le_of_ble_eq_true rfl) (Nat.le_of_ble_eq_true rfl) rfl rfl ?_
  refine s_X2_isThere (t := 0) (by decide) hk (by omega) (fun z => ?_) (fun z => ?_)
  · simp only [Option.toList_some, Option.toList_none, List.cons_append, List.nil_append]
    refine g_if_ne (t := 16) dX11_cone_11 (by decide) rfl (by omega) (fun c_11 => ?_) (fun c_11 => False.elim (by omega))
    refine g_l dX11_cone_16 rfl rfl ?_
    refine g_bipush dX11_cone_17 (by decide) rfl ?_
    refine g_callS dX11_cone_19 m_11_201 (n := 2) rfl (by exact Nat.le_of_ble_eq_true rfl) (by exact Nat.le_of_ble_eq_true rfl) (by rfl) (by rfl) (by rfl) ?_
    refine s_X11_isSpan hn (by decide) (fun y => ?_) (fun y => ?_)
    · simp only [Option.toList_some, Option.toList_none, List.cons_append, List.nil_append]
      refine g_if_eq (t := 44) dX11_cone_22 (by decide) rfl (by omega) (fun c_22 => False.elim (by omega)) (fun c_22 => ?_)
      refine g_l dX11_cone_25 rfl rfl ?_
      refine g_callS dX11_cone_26 m_11_188 (n := 1) rfl (by exact Nat.le_of_ble_eq_true rfl) (by exact Nat.le_of_ble_eq_true rfl) (by rfl) (by rfl) (by rfl) ?_
      refine s_X11_isWood hw (fun x => ?_) (fun x => ?_)
      · simp only [Option.toList_some, Option.toList_none, List.cons_append, List.nil_append]
        refine g_if_eq (t := 44) dX11_cone_29 (by decide) rfl (by omega) (fun c_29 => False.elim (by omega)) (fun c_29 => ?_)
        refine g_l dX11_cone_32 rfl rfl ?_
        refine g_if_lt (t := 44) dX11_cone_34 (by decide) rfl (by omega) (fun c_34 => ?_) (fun c_34 => ?_)
        · refine g_bipush dX11_cone_44 (by decide) rfl ?_
          refine g_retI dX11_cone_46 rfl rfl ?_
          exact q2 z (by omega)
        · refine g_l dX11_cone_37 rfl rfl ?_
          refine g_bipush dX11_cone_39 (by decide) rfl ?_
          refine g_icmp_le (t := 47) dX11_cone_41 (by decide) rfl (by omega) (by omega) (fun c_41 => ?_) (fun c_41 => ?_)
          · refine g_l dX11_cone_47 rfl rfl ?_
            refine g_getf dX11_cone_48 h0 f_11_63 rfl rfl ?_
            refine g_callV dX11_cone_51 m_11_144 (n := 0) rfl h199 rfl (Nat.le_of_ble_eq_true rfl) (Nat.le_of_ble_eq_true rfl) rfl rfl ?_
            refine s_X0_count ?_
            simp only [Option.toList_some, Option.toList_none, List.cons_append, List.nil_append]
            refine g_bipush dX11_cone_54 (by decide) rfl ?_
            refine g_icmp_lt (t := 62) dX11_cone_56 (by decide) rfl (by omega) (by omega) (fun c_56 => ?_) (fun c_56 => ?_)
            · refine g_l dX11_cone_62 rfl rfl ?_
              refine g_getf dX11_cone_63 h0 f_11_63 rfl rfl ?_
              refine g_l dX11_cone_66 rfl rfl ?_
              refine g_l dX11_cone_67 rfl rfl ?_
              refine g_l dX11_cone_68 rfl rfl ?_
              refine g_l dX11_cone_69 rfl rfl ?_
              refine g_l dX11_cone_71 rfl rfl ?_
              refine g_callV dX11_cone_73 m_11_244 (n := 5) rfl h199 rfl (Nat.le_of_ble_eq_true rfl) (Nat.le_of_ble_eq_true rfl) rfl rfl ?_
              refine s_X0_add hx hb (fun v => ?_) (fun v => by omega)
              simp only [Option.toList_some, Option.toList_none, List.cons_append, List.nil_append]
              refine g_retI dX11_cone_76 rfl rfl ?_
              exact q3 z (by omega) v
            · refine g_bipush dX11_cone_59 (by decide) rfl ?_
              refine g_retI dX11_cone_61 rfl rfl ?_
              exact q4 z (by omega) (by omega)
          · refine g_bipush dX11_cone_44 (by decide) rfl ?_
            refine g_retI dX11_cone_46 rfl rfl ?_
            exact q2 z (by omega)
      · simp only [Option.toList_some, Option.toList_none, List.cons_append, List.nil_append]
        refine g_if_eq (t := 44) dX11_cone_29 (by decide) rfl (by omega) (fun c_29 => ?_) (fun c_29 => False.elim (by omega))
        refine g_bipush dX11_cone_44 (by decide) rfl ?_
        refine g_retI dX11_cone_46 rfl rfl ?_
        exact q2 z (fun v => x v.1.2)
    · simp only [Option.toList_some, Option.toList_none, List.cons_append, List.nil_append]
      refine g_if_eq (t := 44) dX11_cone_22 (by decide) rfl (by omega) (fun c_22 => ?_) (fun c_22 => False.elim (by omega))
      refine g_bipush dX11_cone_44 (by decide) rfl ?_
      refine g_retI dX11_cone_46 rfl rfl ?_
      exact q2 z (fun v => y v.1.1)
  · simp only [Option.toList_some, Option.toList_none, List.cons_append, List.nil_append]
    refine g_if_ne (t := 16) dX11_cone_11 (by decide) rfl (by omega) (fun c_11 => False.elim (by omega)) (fun c_11 => ?_)
    refine g_iconst dX11_cone_14 rfl ?_
    refine g_retI dX11_cone_15 rfl rfl ?_
    exact q1 (by omega)
end OB
