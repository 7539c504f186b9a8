/-! the reference: reading -/
theorem codeN (c : Int → Prop) : ∀ n : Nat, ∃ z : Nat, z < 2 ^ n ∧ ∀ i : Nat, i < n → (c (i : Int) ↔ z.testBit i = true)
  | 0 => ⟨0, by decide, fun i h => by omega⟩
  | n + 1 => by
    obtain ⟨z, h1, h2⟩ := codeN c n
    by_cases h : c (n : Int)
    · refine ⟨2 ^ n + z, by rw [Nat.pow_succ]; omega, fun i hi => ?_⟩
      by_cases e : i = n
      · subst e
        rw [Nat.testBit_two_pow_add_eq, Nat.testBit_lt_two_pow h1]
        simp [h]
      · rw [Nat.testBit_two_pow_add_gt (by omega)]
        exact h2 i (by omega)
    · refine ⟨z, by rw [Nat.pow_succ]; omega, fun i hi => ?_⟩
      by_cases e : i = n
      · subst e
        rw [Nat.testBit_lt_two_pow h1]
        simp [h]
      · exact h2 i (by omega)
theorem T1 : ∀ (z : Fin 32) (n : Fin 6) (i : Fin 5), i.val < n.val → (bAnd (bShr (setF (fun j : Int => Nat.testBit z.val j.toNat = true) n.val) (i.val : Int)) 1 = 1 ↔ Nat.testBit z.val i.val = true) := by decide +kernel
theorem T2 : ∀ (z : Fin 32) (n : Fin 6), (setF (fun j : Int => Nat.testBit z.val j.toNat = true) n.val = bShl 1 ((n.val : Nat) : Int) - 1 ↔ ((n.val : Nat) : Int) ≤ cntF (fun j : Int => Nat.testBit z.val j.toNat = true) n.val) := by decide +kernel
theorem T3 : ∀ (z : Fin 32) (n : Fin 6) (i : Fin 5), i.val < n.val → ¬ Nat.testBit z.val i.val = true → bOr (setF (fun j : Int => Nat.testBit z.val j.toNat = true) n.val) (bShl 1 ((i.val : Nat) : Int)) = setF (fun j : Int => j = ((i.val : Nat) : Int) ∨ Nat.testBit z.val j.toNat = true) n.val ∧ cntF (fun j : Int => j = ((i.val : Nat) : Int) ∨ Nat.testBit z.val j.toNat = true) n.val = cntF (fun j : Int => Nat.testBit z.val j.toNat = true) n.val + 1 := by decide +kernel
theorem cntF_congr {c e : Int → Prop} [DecidablePred c] [DecidablePred e] {n : Nat} (h : ∀ i : Int, 0 ≤ i → i < n → (c i ↔ e i)) : cntF c n = cntF e n := by
  induction n with
  | zero => rfl
  | succ n ih =>
    have := h (n : Int) (by omega) (by omega)
    show cntF c n + (if c n then 1 else 0) = cntF e n + (if e n then 1 else 0)
    rw [ih (fun i a b => h i a (by omega))]
    by_cases q : c n
    · rw [if_pos q, if_pos (this.mp q)]
    · rw [if_neg q, if_neg (fun z => q (this.mpr z))]
theorem code5 (c : Int → Prop) : ∃ z : Fin 32, ∀ i : Int, 0 ≤ i → i < 5 → (c i ↔ Nat.testBit z.val i.toNat = true) := by
  obtain ⟨z, h1, h2⟩ := codeN c 5
  refine ⟨⟨z, h1⟩, fun i a b => ?_⟩
  have := h2 i.toNat (by omega)
  rw [Int.toNat_of_nonneg a] at this
  exact this
theorem sF_bit {c : Int → Prop} [DecidablePred c] {n i : Int} (hn : n ≤ 5) (hi : 0 ≤ i ∧ i < n) : hasB (setF c n.toNat) i ↔ c i := by
  obtain ⟨z, h⟩ := code5 c
  have e := setF_congr (c := c) (e := fun j : Int => Nat.testBit z.val j.toNat = true) (n := n.toNat) (fun j a b => h j a (by omega))
  unfold hasB
  rw [e, h i hi.1 (by omega)]
  have := T1 z ⟨n.toNat, by omega⟩ ⟨i.toNat, by omega⟩ (by show i.toNat < n.toNat; omega)
  simp only [Int.toNat_of_nonneg hi.1] at this
  exact this
theorem sF_full {c : Int → Prop} [DecidablePred c] {n : Int} (hn : 0 ≤ n ∧ n ≤ 5) : setF c n.toNat = bShl 1 n - 1 ↔ n ≤ cntF c n.toNat := by
  obtain ⟨z, h⟩ := code5 c
  rw [setF_congr (c := c) (e := fun j : Int => Nat.testBit z.val j.toNat = true) (n := n.toNat) (fun j a b => h j a (by omega)), cntF_congr (c := c) (e := fun j : Int => Nat.testBit z.val j.toNat = true) (n := n.toNat) (fun j a b => h j a (by omega))]
  have := T2 z ⟨n.toNat, by omega⟩
  simp only [Int.toNat_of_nonneg hn.1] at this
  exact this
theorem sF_set {c : Int → Prop} [DecidablePred c] {n i : Int} (hn : n ≤ 5) (hi : 0 ≤ i ∧ i < n) (hc : ¬ c i) : bOr (setF c n.toNat) (bShl 1 i) = setF (fun j => j = i ∨ c j) n.toNat ∧ cntF (fun j => j = i ∨ c j) n.toNat = cntF c n.toNat + 1 := by
  obtain ⟨z, h⟩ := code5 c
  have g : ∀ j : Int, 0 ≤ j → j < n.toNat → ((j = i ∨ c j) ↔ (j = i ∨ Nat.testBit z.val j.toNat = true)) := fun j a b => by rw [h j a (by omega)]
  rw [setF_congr (c := c) (e := fun j : Int => Nat.testBit z.val j.toNat = true) (n := n.toNat) (fun j a b => h j a (by omega)), cntF_congr (c := c) (e := fun j : Int => Nat.testBit z.val j.toNat = true) (n := n.toNat) (fun j a b => h j a (by omega)), setF_congr g, cntF_congr g]
  rw [h i hi.1 (by omega)] at hc
  have := T3 z ⟨n.toNat, by omega⟩ ⟨i.toNat, by omega⟩ (by show i.toNat < n.toNat; omega) hc
  simp only [Int.toNat_of_nonneg hi.1] at this
  exact this
/-- what reading leaves -/
def rtFr (M M' : Nat → Int → Int) : Prop := (∀ c, c ≠ 0 → c ≠ 13 → c ≠ 14 → c ≠ 15 → M' c = M c) ∧ ∀ j, j ≠ 3 → j ≠ 18 → j ≠ 19 → j ≠ 20 → M' 0 j = M 0 j
theorem rtFr.rf {M : Nat → Int → Int} : rtFr M M := ⟨fun _ _ _ _ _ => rfl, fun _ _ _ _ _ => rfl⟩
theorem rtFr.tr {M M' M2 : Nat → Int → Int} (h : rtFr M M') (g : rtFr M' M2) : rtFr M M2 := ⟨fun c a1 a2 a3 a4 => (g.1 c a1 a2 a3 a4).trans (h.1 c a1 a2 a3 a4), fun j a1 a2 a3 a4 => (g.2 j a1 a2 a3 a4).trans (h.2 j a1 a2 a3 a4)⟩
/-- only the place is another -/
def plFr (M M' : Nat → Int → Int) (a : Int) : Prop := (∀ c, c ≠ 0 → M' c = M c) ∧ (∀ j, j ≠ 3 → M' 0 j = M 0 j) ∧ M' 0 3 = a
theorem plFr.w {M M' : Nat → Int → Int} {a b : Int} (h : plFr M M' a) : plFr M (wS M' 0 3 b) b := ⟨fun c hc => by rw [wS_o hc]; exact h.1 c hc, fun j hj => by rw [wS_s, if_neg hj]; exact h.2.1 j hj, wS_e⟩
theorem plFr.r {M M' : Nat → Int → Int} {a : Int} (h : plFr M M' a) : rtFr M M' := ⟨fun c a1 _ _ _ => h.1 c a1, fun j a1 _ _ _ => h.2.1 j a1⟩
theorem plFr.t {M M' : Nat → Int → Int} {a len : Int} {by' : Int → Int} (h : plFr M M' a) (ht : txP len by' M) : txP len by' M' := ⟨by rw [h.2.1 2 (by decide)]; exact ht.1, fun j y1 y2 => by rw [h.1 1 (by decide)]; exact ht.2 j y1 y2⟩
/-- the reference has read what R has -/
def rdR (len : Int) (by' : Int → Int) (R M : Nat → Int → Int) (a : Int) : Prop := txP len by' M ∧ M 0 3 = a ∧ M 0 18 = R 3 3 ∧ M 0 19 = R 3 4 ∧ M 0 20 = setF (fun i => R 12 i = 1) (R 3 3).toNat ∧ R 3 6 = cntF (fun i => R 12 i = 1) (R 3 3).toNat ∧ (∀ k, 0 ≤ k → k < 5 → M 13 k = R 4 k ∧ M 14 k = R 5 k) ∧ ∀ p : Nat, (p : Int) < R 3 4 → ∀ j, 0 ≤ j → j < 6 → M 15 (6 * (p : Int) + j) = R (7 + p) j
theorem shP_83 {len a : Int} {by' : Int → Int} {R : Nat → Int → Int} (h : byF len by' a = 83) (g : ¬ R 3 3 ≤ R 3 6) : shP len by' a R = if dgF len by' (a + 1) < 0 ∨ R 3 3 ≤ dgF len by' (a + 1) ∨ ¬ R 12 (dgF len by' (a + 1)) = 0 then (a + 1, R)
  else if dgF len by' (a + 2) < 0 then (a + 2, R)
  else if dgF len by' (a + 3) < 0 ∨ 10 < dgF len by' (a + 2) + dgF len by' (a + 3) then (a + 3, R)
  else (-9, wS (wS (wS (wS R 4 (dgF len by' (a + 1)) (dgF len by' (a + 2))) 5 (dgF len by' (a + 1)) (dgF len by' (a + 3))) 12 (dgF len by' (a + 1)) 1) 3 6 (R 3 6 + 1)) := by
  unfold shP
  rw [if_neg (fun q => by rcases q with q | q; exact q h; exact g q)]
section RJ
variable {S : Nat → Int → Int} {Tw : Nat → Nat → Int → Int} {M : Nat → Int → Int} {P : Nat → Nat} {d : Nat} {Q : Option Value → GH → Prop}
set_option maxHeartbeats 2000000 in
theorem s_X12_readShutter {len a : Int} {by' : Int → Int} {R : Nat → Int → Int} (hx : xOk len by') (hr : rOk R) (h : rdR len by' R M (a + 1)) (h0 : 0 ≤ a ∧ a < len) (h83 : byF len by' a = 83) (hlt : ¬ R 3 3 ≤ R 3 6)
    (q1 : (shP len by' a R).1 = -9 → ∀ M', rtFr M M' → rdR len by' (shP len by' a R).2 M' (a + 4) → Q (some (.int (iI 1))) (hO S Tw M' P)) (q0 : (shP len by' a R).1 ≠ -9 → ∀ M', rtFr M M' → M' 0 3 = (shP len by' a R).1 → Q (some (.int (iI 0))) (hO S Tw M' P)) : CallD (d + 3) 122 [.ref 248] (hO S Tw M P) Q := by
  obtain ⟨r1, r2, r3, r4, r5⟩ := hr
  obtain ⟨t, g3, g18, g19, g20, g6, g13, g15⟩ := h
  have hx2 := hx.2.1
  have hd1 := dgF_in hx (a + 1)
  have hd2 := dgF_in hx (a + 2)
  have hd3 := dgF_in hx (a + 3)
  rw [shP_83 h83 hlt] at q1 q0
  refine g_enter (loc := [some _, _, _, _]) e_X12_readShutter i_X12_readShutter (Nat.le_of_ble_eq_true rfl) rfl ?_
  have start : ∀ (i : Int), (i = dgF len by' (a + 1) ∨ dgF len by' (a + 1) = -1 ∧ ¬ (0 ≤ i ∧ i < 5)) → -100 ≤ i ∧ i ≤ 300 →
      G none (d + 2) 12 false (some .boolean) 0 0 (hO S Tw M P).length cX12_readShutter Q 0 28 [some (.ref 248), none, none, none] [.int (iI i)] (hO S Tw M P) := by
    intro i hi hi2
    refine g_l (loc' := [some _, some _, _, _]) dX12_readShutter_28 rfl rfl ?_
    refine g_l dX12_readShutter_29 rfl rfl ?_
    refine g_i2l dX12_readShutter_30 (by omega) rfl ?_
    refine g_lconst0 dX12_readShutter_31 rfl rfl ?_
    refine g_l dX12_readShutter_32 rfl rfl ?_
    refine g_getf dX12_readShutter_33 h248 f_12_128 rfl rfl ?_
    rw [g18]
    refine g_iconst dX12_readShutter_36 rfl ?_
    refine g_isub dX12_readShutter_37 rfl ?_
    refine g_i2l dX12_readShutter_38 (by omega) rfl ?_
    refine g_callS dX12_readShutter_39 m_12_111 (n := 3) rfl (by exact Nat.le_of_ble_eq_true rfl) (by exact Nat.le_of_ble_eq_true rfl) (by rfl) (by rfl) (by rfl) ?_
    refine s_X12_in (by omega) (by decide) (by omega) (fun y => ?_) (fun y => ?_)
    · obtain rfl : i = dgF len by' (a + 1) := by rcases hi with hi | hi <;> omega
      have hal : a + 1 < len := by
        refine Classical.byContradiction (fun n => ?_)
        have : byF len by' (a + 1) = -1 := by unfold byF; rw [if_pos (by omega)]
        unfold dgF at y
        rw [this] at y
        simp at y
      generalize dgF len by' (a + 1) = i at *
      have r12 := (r4 i y.1 (by omega)).1
      have hbit := sF_bit (c := fun j => R 12 j = 1) (n := R 3 3) (i := i) (by omega) (by omega)
      simp only [Option.toList_some, Option.toList_none, List.cons_append, List.nil_append]
      refine g_if_eq (t := 56) dX12_readShutter_42 (by decide) rfl (by omega) (fun c_42 => False.elim (by omega)) (fun c_42 => ?_)
      refine g_l dX12_readShutter_45 rfl rfl ?_
      refine g_getf dX12_readShutter_46 h248 f_12_131 rfl rfl ?_
      rw [g20]
      refine g_l dX12_readShutter_49 rfl rfl ?_
      refine g_callS dX12_readShutter_50 m_12_134 (n := 2) rfl (by exact Nat.le_of_ble_eq_true rfl) (by exact Nat.le_of_ble_eq_true rfl) (by rfl) (by rfl) (by rfl) ?_
      refine s_X12_has (fun z => ?_) (fun z => ?_)
      · have e1 : R 12 i = 1 := hbit.mp z
        rw [if_pos (by omega)] at q0
        simp only [Option.toList_some, Option.toList_none, List.cons_append, List.nil_append]
        refine g_if_eq (t := 58) dX12_readShutter_53 (by decide) rfl (by omega) (fun c_53 => False.elim (by omega)) (fun c_53 => ?_)
        refine g_iconst dX12_readShutter_56 rfl ?_
        refine g_retZ dX12_readShutter_57 rfl rfl (by omega) ?_
        exact q0 (by simp only []; omega) M rtFr.rf g3
      · have e1 : ¬ R 12 i = 1 := fun q => z (hbit.mpr q)
        rw [if_neg (by omega)] at q0 q1
        simp only [Option.toList_some, Option.toList_none, List.cons_append, List.nil_append]
        refine g_if_eq (t := 58) dX12_readShutter_53 (by decide) rfl (by omega) (fun c_53 => ?_) (fun c_53 => False.elim (by omega))
        refine g_l dX12_readShutter_58 rfl rfl ?_
        refine g_s dX12_readShutter_59 rfl rfl rfl ?_
        refine g_getf dX12_readShutter_60 h248 f_12_125 rfl rfl ?_
        rw [g3]
        refine g_iconst dX12_readShutter_63 rfl ?_
        refine g_iadd dX12_readShutter_64 rfl ?_
        refine g_putf dX12_readShutter_65 h248 f_12_125 (Nat.le_of_ble_eq_true rfl) rfl rfl p248_3 rfl ?_
        have p1 : plFr M (wS M 0 3 (a + 1 + 1)) (a + 2) := by
          rw [show a + 1 + 1 = a + 2 by omega]
          exact ⟨fun c hc => wS_o hc, fun j hj => by rw [wS_s, if_neg hj], wS_e⟩
        generalize wS M 0 3 (a + 1 + 1) = M2 at p1 ⊢
        refine g_l dX12_readShutter_68 rfl rfl ?_
        refine g_iconst dX12_readShutter_69 rfl ?_
        refine g_bipush dX12_readShutter_70 (by decide) rfl ?_
        refine g_callV dX12_readShutter_72 m_12_137 (n := 2) rfl h248 rfl (Nat.le_of_ble_eq_true rfl) (Nat.le_of_ble_eq_true rfl) rfl rfl ?_
        refine s_X12_figure (at' := a + 2) hx (p1.t t) p1.2.2 (by omega) (by decide) (by decide) (fun z2 => ?_) (fun w2 z2 => ?_)
        · rw [if_pos (by omega)] at q0
          simp only [Option.toList_some, Option.toList_none, List.cons_append, List.nil_append]
          refine g_l (loc' := [some _, some _, some _, _]) dX12_readShutter_75 rfl rfl ?_
          refine g_l dX12_readShutter_76 rfl rfl ?_
          refine g_bipush dX12_readShutter_77 (by decide) rfl ?_
          refine g_icmp_ne (t := 87) dX12_readShutter_79 (by decide) rfl (by omega) (by omega) (fun c_79 => False.elim (by omega)) (fun c_79 => ?_)
          refine g_bipush dX12_readShutter_82 (by decide) rfl ?_
          refine g_goto (t := 105) dX12_readShutter_84 (by decide) ?_
          refine g_l (loc' := [some _, some _, some _, some _]) dX12_readShutter_105 rfl rfl ?_
          refine g_l dX12_readShutter_106 rfl rfl ?_
          refine g_bipush dX12_readShutter_107 (by decide) rfl ?_
          refine g_icmp_ne (t := 114) dX12_readShutter_109 (by decide) rfl (by omega) (by omega) (fun c_109 => False.elim (by omega)) (fun c_109 => ?_)
          refine g_iconst dX12_readShutter_112 rfl ?_
          refine g_retZ dX12_readShutter_113 rfl rfl (by omega) ?_
          exact q0 (by simp only []; omega) M2 p1.r p1.2.2
        · generalize dgF len by' (a + 2) = s at *
          rw [if_neg (by omega)] at q0 q1
          have p2 : plFr M (wS M2 0 3 (a + 2 + 1)) (a + 3) := by
            rw [show a + 2 + 1 = a + 3 by omega]
            exact p1.w
          generalize wS M2 0 3 (a + 2 + 1) = M3 at p2 ⊢
          have last : ∀ hi : Int, (-1 ≤ hi ∧ hi ≤ 9) → (0 < s → hi = 10 - s) → (s = 0 → hi = 9) →
              G none (d + 2) 12 false (some .boolean) 0 0 (hO S Tw M P).length cX12_readShutter Q 0 102 [some (.ref 248), some (.int (iI i)), some (.int (iI s)), none] [.int (iI hi), .int (iI 0), .ref 248] (hO S Tw M3 P) := by
            intro hi v1 v2 v3
            refine g_callV dX12_readShutter_102 m_12_137 (n := 2) rfl h248 rfl (Nat.le_of_ble_eq_true rfl) (Nat.le_of_ble_eq_true rfl) rfl rfl ?_
            refine s_X12_figure (at' := a + 3) hx (p2.t t) p2.2.2 (by omega) (by decide) v1 (fun z3 => ?_) (fun w3 z3 => ?_)
            · rw [if_pos (by omega)] at q0
              simp only [Option.toList_some, Option.toList_none, List.cons_append, List.nil_append]
              refine g_l (loc' := [some _, some _, some _, some _]) dX12_readShutter_105 rfl rfl ?_
              refine g_l dX12_readShutter_106 rfl rfl ?_
              refine g_bipush dX12_readShutter_107 (by decide) rfl ?_
              refine g_icmp_ne (t := 114) dX12_readShutter_109 (by decide) rfl (by omega) (by omega) (fun c_109 => False.elim (by omega)) (fun c_109 => ?_)
              refine g_iconst dX12_readShutter_112 rfl ?_
              refine g_retZ dX12_readShutter_113 rfl rfl (by omega) ?_
              exact q0 (by simp only []; omega) M3 p2.r p2.2.2
            · generalize dgF len by' (a + 3) = dd at *
              rw [if_neg (by omega)] at q1
              have p3 : plFr M (wS M3 0 3 (a + 3 + 1)) (a + 4) := by
                rw [show a + 3 + 1 = a + 4 by omega]
                exact p2.w
              generalize wS M3 0 3 (a + 3 + 1) = M4 at p3 ⊢
              have e20 : M4 0 20 = setF (fun i => R 12 i = 1) (R 3 3).toNat := by rw [p3.2.1 20 (by decide)]; exact g20
              obtain ⟨s1, s2⟩ := sF_set (c := fun j => R 12 j = 1) (n := R 3 3) (i := i) (by omega) (by omega) e1
              generalize hbits : setF (fun i => R 12 i = 1) (R 3 3).toNat = bits at e20 s1
              simp only [Option.toList_some, Option.toList_none, List.cons_append, List.nil_append]
              refine g_l (loc' := [some _, some _, some _, some _]) dX12_readShutter_105 rfl rfl ?_
              refine g_l dX12_readShutter_106 rfl rfl ?_
              refine g_bipush dX12_readShutter_107 (by decide) rfl ?_
              refine g_icmp_ne (t := 114) dX12_readShutter_109 (by decide) rfl (by omega) (by omega) (fun c_109 => ?_) (fun c_109 => False.elim (by omega))
              refine g_l dX12_readShutter_114 rfl rfl ?_
              refine g_s dX12_readShutter_115 rfl rfl rfl ?_
              refine g_getf dX12_readShutter_116 h248 f_12_131 rfl rfl ?_
              rw [e20]
              refine g_iconst dX12_readShutter_119 rfl ?_
              refine g_l dX12_readShutter_120 rfl rfl ?_
              refine g_ishl dX12_readShutter_121 rfl ?_
              refine g_ior dX12_readShutter_122 rfl ?_
              refine g_putf dX12_readShutter_123 h248 f_12_131 (Nat.le_of_ble_eq_true rfl) rfl rfl p248_20 rfl ?_
              refine g_l dX12_readShutter_126 rfl rfl ?_
              refine g_getf dX12_readShutter_127 h248 f_12_50 rfl rfl ?_
              refine g_l dX12_readShutter_130 rfl rfl ?_
              refine g_l dX12_readShutter_131 rfl rfl ?_
              refine g_iast dX12_readShutter_132 h261 (by omega) (by decide) p261 rfl ?_
              refine g_l dX12_readShutter_133 rfl rfl ?_
              refine g_getf dX12_readShutter_134 h248 f_12_53 rfl rfl ?_
              refine g_l dX12_readShutter_137 rfl rfl ?_
              refine g_l dX12_readShutter_138 rfl rfl ?_
              refine g_iast dX12_readShutter_139 h262 (by omega) (by decide) p262 rfl ?_
              refine g_iconst dX12_readShutter_140 rfl ?_
              refine g_retZ dX12_readShutter_141 rfl rfl (by omega) ?_
              have q2 := q1 rfl
              change ∀ M', rtFr M M' → rdR len by' (wS (wS (wS (wS R 4 i s) 5 i dd) 12 i 1) 3 6 (R 3 6 + 1)) M' (a + 4) → _ at q2
              refine q2 _ ⟨fun c y1 y2 y3 y4 => ?_, fun j y1 y2 y3 y4 => ?_⟩ ⟨⟨?_, fun j y1 y2 => ?_⟩, ?_, ?_, ?_, ?_, ?_, fun k y1 y2 => ?_, fun p y1 j y2 y3 => ?_⟩
              · rw [wS_o y3, wS_o y2, wS_o y1]; exact p3.1 c y1
              · rw [wS_o (by decide), wS_o (by decide), wS_s, if_neg y4]; exact p3.2.1 j y1
              · rw [wS_o (by decide), wS_o (by decide), wS_s, if_neg (by decide), p3.2.1 2 (by decide)]; exact t.1
              · rw [wS_o (by decide), wS_o (by decide), wS_o (by decide), p3.1 1 (by decide)]; exact t.2 j y1 y2
              · rw [wS_o (by decide), wS_o (by decide), wS_s, if_neg (by decide), p3.2.2]
              · rw [wS_o (by decide), wS_o (by decide), wS_s, if_neg (by decide), p3.2.1 18 (by decide), g18, wS_s, if_neg (by decide), wS_o (by decide), wS_o (by decide), wS_o (by decide)]
              · rw [wS_o (by decide), wS_o (by decide), wS_s, if_neg (by decide), p3.2.1 19 (by decide), g19, wS_s, if_neg (by decide), wS_o (by decide), wS_o (by decide), wS_o (by decide)]
              · rw [wS_o (by decide), wS_o (by decide), wS_e, s1]
                show _ = setF (fun j => wS (wS (wS (wS R 4 i s) 5 i dd) 12 i 1) 3 6 (R 3 6 + 1) 12 j = 1) (wS (wS (wS (wS R 4 i s) 5 i dd) 12 i 1) 3 6 (R 3 6 + 1) 3 3).toNat
                rw [wS_s, if_neg (by decide), wS_o (show (3 : Nat) ≠ 12 by decide), wS_o (show (3 : Nat) ≠ 5 by decide), wS_o (show (3 : Nat) ≠ 4 by decide)]
                refine setF_congr (fun j w1 w2 => ?_)
                rw [wS_o (show (12 : Nat) ≠ 3 by decide), wS_s, wS_o (show (12 : Nat) ≠ 5 by decide), wS_o (show (12 : Nat) ≠ 4 by decide)]
                by_cases e : j = i
                · rw [if_pos e]; simp [e]
                · rw [if_neg e]; simp [e]
              · rw [wS_e, g6, ← s2]
                show _ = cntF (fun j => wS (wS (wS (wS R 4 i s) 5 i dd) 12 i 1) 3 6 (cntF (fun i => R 12 i = 1) (R 3 3).toNat + 1) 12 j = 1) (wS (wS (wS (wS R 4 i s) 5 i dd) 12 i 1) 3 6 (cntF (fun i => R 12 i = 1) (R 3 3).toNat + 1) 3 3).toNat
                rw [wS_s, if_neg (by decide), wS_o (show (3 : Nat) ≠ 12 by decide), wS_o (show (3 : Nat) ≠ 5 by decide), wS_o (show (3 : Nat) ≠ 4 by decide)]
                refine cntF_congr (fun j w1 w2 => ?_)
                rw [wS_o (show (12 : Nat) ≠ 3 by decide), wS_s, wS_o (show (12 : Nat) ≠ 5 by decide), wS_o (show (12 : Nat) ≠ 4 by decide)]
                by_cases e : j = i
                · rw [if_pos e]; simp [e]
                · rw [if_neg e]; simp [e]
              · rw [wS_o (show (13 : Nat) ≠ 14 by decide), wS_s, wS_o (show (13 : Nat) ≠ 0 by decide), wS_s, wS_o (show (14 : Nat) ≠ 13 by decide), wS_o (show (14 : Nat) ≠ 0 by decide), p3.1 13 (by decide), p3.1 14 (by decide), wS_o (show (4 : Nat) ≠ 3 by decide), wS_o (show (4 : Nat) ≠ 12 by decide), wS_o (show (4 : Nat) ≠ 5 by decide), wS_s, wS_o (show (5 : Nat) ≠ 3 by decide), wS_o (show (5 : Nat) ≠ 12 by decide), wS_s, wS_o (show (5 : Nat) ≠ 4 by decide)]
                by_cases e : k = i
                · rw [if_pos e, if_pos e, if_pos e, if_pos e]; exact ⟨rfl, rfl⟩
                · rw [if_neg e, if_neg e, if_neg e, if_neg e]; exact g13 k y1 y2
              · rw [wS_s, if_neg (by decide), wS_o (show (3 : Nat) ≠ 12 by decide), wS_o (show (3 : Nat) ≠ 5 by decide), wS_o (show (3 : Nat) ≠ 4 by decide)] at y1
                rw [wS_o (by decide), wS_o (by decide), wS_o (by decide), p3.1 15 (by decide), wS_o (by omega), wS_o (by omega), wS_o (by omega), wS_o (by omega)]
                exact g15 p y1 j y2 y3
          simp only [Option.toList_some, Option.toList_none, List.cons_append, List.nil_append]
          refine g_l (loc' := [some _, some _, some _, _]) dX12_readShutter_75 rfl rfl ?_
          refine g_l dX12_readShutter_76 rfl rfl ?_
          refine g_bipush dX12_readShutter_77 (by decide) rfl ?_
          refine g_icmp_ne (t := 87) dX12_readShutter_79 (by decide) rfl (by omega) (by omega) (fun c_79 => ?_) (fun c_79 => False.elim (by omega))
          refine g_l dX12_readShutter_87 rfl rfl ?_
          refine g_iconst dX12_readShutter_88 rfl ?_
          refine g_l dX12_readShutter_89 rfl rfl ?_
          refine g_if_le (t := 100) dX12_readShutter_90 (by decide) rfl (by omega) (fun c_90 => ?_) (fun c_90 => ?_)
          · refine g_bipush dX12_readShutter_100 (by decide) rfl ?_
            exact last 9 (by decide) (fun q => by omega) (fun _ => rfl)
          · refine g_bipush dX12_readShutter_93 (by decide) rfl ?_
            refine g_l dX12_readShutter_95 rfl rfl ?_
            refine g_isub dX12_readShutter_96 rfl ?_
            refine g_goto (t := 102) dX12_readShutter_97 (by decide) ?_
            exact last (10 - s) (by omega) (fun _ => rfl) (fun q => by omega)
    · rw [if_pos (by rcases hi with hi | hi <;> omega)] at q0
      simp only [Option.toList_some, Option.toList_none, List.cons_append, List.nil_append]
      refine g_if_eq (t := 56) dX12_readShutter_42 (by decide) rfl (by omega) (fun c_42 => ?_) (fun c_42 => False.elim (by omega))
      refine g_iconst dX12_readShutter_56 rfl ?_
      refine g_retZ dX12_readShutter_57 rfl rfl (by omega) ?_
      exact q0 (by simp only []; omega) M rtFr.rf g3
  refine g_l dX12_readShutter_0 rfl rfl ?_
  refine g_getf dX12_readShutter_1 h248 f_12_125 rfl rfl ?_
  rw [g3]
  refine g_l dX12_readShutter_4 rfl rfl ?_
  refine g_getf dX12_readShutter_5 h248 f_12_122 rfl rfl ?_
  rw [t.1]
  refine g_icmp_ge (t := 26) dX12_readShutter_8 (by decide) rfl (by omega) (by omega) (fun c_8 => ?_) (fun c_8 => ?_)
  · refine g_bipush dX12_readShutter_26 (by decide) rfl ?_
    refine start (-9) (Or.inr ⟨?_, by omega⟩) (by omega)
    have : byF len by' (a + 1) = -1 := by unfold byF; rw [if_pos (by omega)]
    unfold dgF
    rw [this]
    rfl
  · have hb2 := hx.2.2 (a + 1) (by omega) (by omega)
    have e1 : M 1 (a + 1) = by' (a + 1) := t.2 (a + 1) (by omega) (by omega)
    have hb : byF len by' (a + 1) = by' (a + 1) := by unfold byF; rw [if_neg (by omega)]
    refine g_l dX12_readShutter_11 rfl rfl ?_
    refine g_getf dX12_readShutter_12 h248 f_12_7 rfl rfl ?_
    refine g_l dX12_readShutter_15 rfl rfl ?_
    refine g_getf dX12_readShutter_16 h248 f_12_125 rfl rfl ?_
    rw [g3]
    refine g_iald dX12_readShutter_19 h249 (by omega) (by decide) rfl ?_
    rw [e1]
    refine g_bipush dX12_readShutter_20 (by decide) rfl ?_
    refine g_isub dX12_readShutter_22 rfl ?_
    refine g_goto (t := 28) dX12_readShutter_23 (by decide) ?_
    refine start _ ?_ (by omega)
    unfold dgF
    rw [hb]
    split
    · exact Or.inr ⟨rfl, by omega⟩
    · exact Or.inl rfl
end RJ
