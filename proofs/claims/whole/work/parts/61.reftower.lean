/-! the reference: the fault, the tower -/
theorem rtFr.q {M M' : Nat → Int → Int} (h : rtFr M M') : quFr M M' := ⟨fun c a1 a2 _ _ _ => h.1 c a1 (by omega) (by omega) (by omega), fun j hj => h.2 j (by omega) (by omega) (by omega) (by omega)⟩
/-- a part read, as the class has it -/
def paP (len : Int) (by' : Int → Int) (a : Int) (R : Nat → Int → Int) : Int × (Nat → Int → Int) := if byF len by' a = 80 then ptP len by' a R else shP len by' a R
theorem shP_n {len a : Int} {by' : Int → Int} {R : Nat → Int → Int} (h0 : 0 ≤ a) (h : (shP len by' a R).1 = -9) : (shP len by' a R).2 3 6 = R 3 6 + 1 ∧ (shP len by' a R).2 3 4 = R 3 4 := by
  unfold shP at *
  generalize dgF len by' (a + 1) = i at *
  generalize dgF len by' (a + 2) = s at *
  generalize dgF len by' (a + 3) = z at *
  split at h
  · simp only [] at h; omega
  split at h
  · simp only [] at h; omega
  split at h
  · simp only [] at h; omega
  split at h
  · simp only [] at h; omega
  rename_i c1 c2 c3 c4
  rw [if_neg c1, if_neg c2, if_neg c3, if_neg c4]
  refine ⟨show wS (wS (wS (wS R 4 i s) 5 i z) 12 i 1) 3 6 (R 3 6 + 1) 3 6 = R 3 6 + 1 from wS_e, ?_⟩
  show wS (wS (wS (wS R 4 i s) 5 i z) 12 i 1) 3 6 (R 3 6 + 1) 3 4 = R 3 4
  rw [wS_s, if_neg (by decide), wS_o (by decide), wS_o (by decide), wS_o (by decide)]
theorem ptL_n {len a : Int} {by' : Int → Int} (h0 : 0 ≤ a) : ∀ (m : Nat) (i : Int) (R : Nat → Int → Int), 0 ≤ i → (ptL len by' a m i R).1 = -9 → (ptL len by' a m i R).2 3 4 = R 3 4 + 1 ∧ (ptL len by' a m i R).2 3 6 = R 3 6
  | 0, i, R, _, _ => ⟨show wS R 3 4 (R 3 4 + 1) 3 4 = R 3 4 + 1 from wS_e, by show wS R 3 4 (R 3 4 + 1) 3 6 = R 3 6; rw [wS_s, if_neg (by decide)]⟩
  | m + 1, i, R, hi, h => by
    rw [ptL_s] at *
    split at h
    · simp only [] at h; omega
    · rename_i c
      rw [if_neg c]
      have := ptL_n h0 m (i + 1) _ (by omega) h
      rw [wS_o (show 3 ≠ 7 + (R 3 4).toNat by omega)] at this
      exact this
theorem paP_n {len a : Int} {by' : Int → Int} {R : Nat → Int → Int} (h0 : 0 ≤ a) (h : (paP len by' a R).1 = -9) : (paP len by' a R).2 3 6 + (paP len by' a R).2 3 4 = R 3 6 + R 3 4 + 1 := by
  unfold paP ptP at *
  split at h
  · rename_i c
    rw [if_pos c]
    split at h
    · simp only [] at h; omega
    · rename_i c2
      rw [if_neg c2]
      have := ptL_n h0 6 0 R (by decide) h
      omega
  · rename_i c
    rw [if_neg c]
    have := shP_n h0 h
    omega
theorem paP_ok {len a : Int} {by' : Int → Int} {R : Nat → Int → Int} (hx : xOk len by') (hr : rOk R) : rOk (paP len by' a R).2 := by
  unfold paP
  split
  · exact (ptP_ok hx hr).1
  · exact (shP_ok hx hr).1
theorem paP_R {len a : Int} {by' : Int → Int} {R : Nat → Int → Int} (ha : 0 ≤ a ∧ a < 1000) : R32 (paP len by' a R).1 := by
  unfold paP
  split
  · exact ptP_in ha
  · unfold shP
    repeat' split
    all_goals (simp only []; omega)
theorem prL_s {len a : Int} {by' : Int → Int} {m : Nat} {R : Nat → Int → Int} : prL len by' (m + 1) a R = if len ≤ a then (-9, R) else if (paP len by' a R).1 = -9 then prL len by' m (a + (if byF len by' a = 80 then 7 else 4)) (paP len by' a R).2 else paP len by' a R := by
  rw [prL]
  unfold paP
  by_cases c : len ≤ a
  · rw [if_pos c, if_pos c]
  · rw [if_neg c, if_neg c]
    by_cases e : byF len by' a = 80
    · simp only [if_pos e]
    · simp only [if_neg e]
/-- what tower does -/
def twP (M R M' : Nat → Int → Int) : Prop := (∀ c, c ≠ 0 → ¬ (2 ≤ c ∧ c ≤ 15) → c ≠ 18 → M' c = M c) ∧ (M' 0 2 = M 0 2 ∧ M' 0 35 = M 0 35) ∧ M' 0 4 = R 3 3 ∧ M' 0 5 = R 3 4 ∧ (∀ k, 0 ≤ k → k < 5 → M' 2 k = R 4 k ∧ M' 3 k = R 5 k ∧ M' 4 k = 0) ∧ (∀ p : Int, 0 ≤ p → p < R 3 4 → (M' 5 p = R (7 + p.toNat) 0 ∧ M' 6 p = R (7 + p.toNat) 1 ∧ M' 7 p = R (7 + p.toNat) 2 ∧ M' 8 p = R (7 + p.toNat) 3 ∧ M' 9 p = R (7 + p.toNat) 4 ∧ M' 10 p = R (7 + p.toNat) 5) ∧ M' 11 p = 0 ∧ M' 12 p = 0) ∧ M' 0 17 = 0 ∧ M' 0 25 = 0 ∧ M' 18 0 = 0 ∧ M' 18 1 = 0
section RL
variable {S : Nat → Int → Int} {Tw : Nat → Nat → Int → Int} {M : Nat → Int → Int} {P : Nat → Nat} {d : Nat} {Q : Option Value → GH → Prop}
theorem s_X12_readPart {len a : Int} {by' : Int → Int} {R : Nat → Int → Int} (hx : xOk len by') (hr : rOk R) (h : rdR len by' R M a) (h0 : 0 ≤ a ∧ a < len)
    (q1 : (paP len by' a R).1 = -9 → ∀ M', rtFr M M' → rdR len by' (paP len by' a R).2 M' (a + (if byF len by' a = 80 then 7 else 4)) → Q (some (.int (iI 1))) (hO S Tw M' P)) (q0 : (paP len by' a R).1 ≠ -9 → ∀ M', rtFr M M' → M' 0 3 = (paP len by' a R).1 → Q (some (.int (iI 0))) (hO S Tw M' P)) : CallD (d + 4) 124 [.ref 248] (hO S Tw M P) Q := by
  obtain ⟨r1, r2, r3, r4, r5⟩ := id hr
  obtain ⟨t, g3, g18, g19, g20, g6, g13, g15⟩ := id h
  have hx2 := hx.2.1
  have hb2 := hx.2.2 a h0.1 (by omega)
  have e1 : M 1 a = by' a := t.2 a h0.1 h0.2
  have hb : byF len by' a = by' a := by unfold byF; rw [if_neg (by omega)]
  have hfull := sF_full (c := fun j => R 12 j = 1) (n := R 3 3) (by omega)
  have rs : R32 (setF (fun i => R 12 i = 1) (R 3 3).toNat) := setF_R
  have rb : R32 (bShl 1 (R 3 3) - 1) := by
    rcases (show R 3 3 = 2 ∨ R 3 3 = 3 ∨ R 3 3 = 4 ∨ R 3 3 = 5 by omega) with e | e | e | e <;> (rw [e]; decide)
  -- the reading moved on by one byte
  have mv : ∀ b, b = a + 1 → rdR len by' R (wS M 0 3 b) (a + 1) ∧ plFr M (wS M 0 3 b) (a + 1) := by
    intro b hb
    subst hb
    refine ⟨⟨⟨?_, fun j y1 y2 => ?_⟩, wS_e, ?_, ?_, ?_, g6, fun k y1 y2 => ?_, fun p y1 j y2 y3 => ?_⟩, ⟨fun c hc => wS_o hc, fun j hj => by rw [wS_s, if_neg hj], wS_e⟩⟩
    · rw [wS_s, if_neg (by decide)]; exact t.1
    · rw [wS_o (by decide)]; exact t.2 j y1 y2
    · rw [wS_s, if_neg (by decide)]; exact g18
    · rw [wS_s, if_neg (by decide)]; exact g19
    · rw [wS_s, if_neg (by decide)]; exact g20
    · rw [wS_o (by decide), wS_o (by decide)]; exact g13 k y1 y2
    · rw [wS_o (by decide)]; exact g15 p y1 j y2 y3
  unfold paP at q1 q0
  rw [hb] at q1 q0
  refine g_enter (loc := [some _, _]) e_X12_readPart i_X12_readPart (Nat.le_of_ble_eq_true rfl) rfl ?_
  refine g_l dX12_readPart_0 rfl rfl ?_
  refine g_getf dX12_readPart_1 h248 f_12_7 rfl rfl ?_
  refine g_l dX12_readPart_4 rfl rfl ?_
  refine g_getf dX12_readPart_5 h248 f_12_125 rfl rfl ?_
  rw [g3]
  refine g_iald dX12_readPart_8 h249 (by omega) (by decide) rfl ?_
  rw [e1]
  have pot : ¬ (by' a = 83 ∧ ¬ R 3 3 ≤ R 3 6) → G none (d + 3) 12 false (some .boolean) 0 0 (hO S Tw M P).length cX12_readPart Q 0 46 [some (.ref 248), some (.int (iI (by' a)))] [] (hO S Tw M P) := by
    intro hn
    refine g_l dX12_readPart_46 rfl rfl ?_
    refine g_bipush dX12_readPart_47 (by decide) rfl ?_
    refine g_icmp_ne (t := 75) dX12_readPart_49 (by decide) rfl (by omega) (by omega) (fun c_49 => ?_) (fun c_49 => ?_)
    · rw [if_neg c_49] at q0
      have es : shP len by' a R = (a, R) := by
        unfold shP
        rw [if_pos]
        by_cases c : by' a = 83
        · exact Or.inr (Classical.byContradiction (fun q => hn ⟨c, q⟩))
        · rw [hb]; exact Or.inl c
      rw [es] at q0
      refine g_iconst dX12_readPart_75 rfl ?_
      refine g_retZ dX12_readPart_76 rfl rfl (by omega) ?_
      exact q0 (by simp only []; omega) M rtFr.rf g3
    · rw [if_pos c_49] at q0 q1
      rw [if_pos c_49] at q1
      unfold ptP at q0 q1
      refine g_l dX12_readPart_52 rfl rfl ?_
      refine g_getf dX12_readPart_53 h248 f_12_141 rfl rfl ?_
      rw [g19]
      refine g_iconst dX12_readPart_56 rfl ?_
      refine g_icmp_ge (t := 75) dX12_readPart_57 (by decide) rfl (by omega) (by omega) (fun c_57 => ?_) (fun c_57 => ?_)
      · rw [if_pos c_57] at q0
        refine g_iconst dX12_readPart_75 rfl ?_
        refine g_retZ dX12_readPart_76 rfl rfl (by omega) ?_
        exact q0 (by simp only []; omega) M rtFr.rf g3
      · rw [if_neg (by omega)] at q0 q1
        refine g_l dX12_readPart_60 rfl rfl ?_
        refine g_s dX12_readPart_61 rfl rfl rfl ?_
        refine g_getf dX12_readPart_62 h248 f_12_125 rfl rfl ?_
        rw [g3]
        refine g_iconst dX12_readPart_65 rfl ?_
        refine g_iadd dX12_readPart_66 rfl ?_
        refine g_putf dX12_readPart_67 h248 f_12_125 (Nat.le_of_ble_eq_true rfl) rfl rfl p248_3 rfl ?_
        obtain ⟨m1, m2⟩ := mv (a + 1) rfl
        generalize wS M 0 3 (a + 1) = M1 at m1 m2 ⊢
        refine g_l dX12_readPart_70 rfl rfl ?_
        refine g_callV dX12_readPart_71 m_12_147 (n := 0) rfl h248 rfl (Nat.le_of_ble_eq_true rfl) (Nat.le_of_ble_eq_true rfl) rfl rfl ?_
        refine s_X12_readPot hx hr m1 h0 (by omega) (fun y M2 a1 a2 => ?_) (fun y M2 a1 a2 => ?_)
        · simp only [Option.toList_some, Option.toList_none, List.cons_append, List.nil_append]
          refine g_retZ dX12_readPart_74 rfl rfl (by omega) ?_
          exact q1 y M2 (m2.r.tr a1) a2
        · simp only [Option.toList_some, Option.toList_none, List.cons_append, List.nil_append]
          refine g_retZ dX12_readPart_74 rfl rfl (by omega) ?_
          exact q0 y M2 (m2.r.tr a1) a2
  refine g_l (loc' := [some _, some _]) dX12_readPart_9 rfl rfl ?_
  refine g_l dX12_readPart_10 rfl rfl ?_
  refine g_bipush dX12_readPart_11 (by decide) rfl ?_
  refine g_icmp_ne (t := 46) dX12_readPart_13 (by decide) rfl (by omega) (by omega) (fun c_13 => ?_) (fun c_13 => ?_)
  · exact pot (fun q => c_13 q.1)
  · refine g_l dX12_readPart_16 rfl rfl ?_
    refine g_getf dX12_readPart_17 h248 f_12_131 rfl rfl ?_
    rw [g20]
    refine g_iconst dX12_readPart_20 rfl ?_
    refine g_l dX12_readPart_21 rfl rfl ?_
    refine g_getf dX12_readPart_22 h248 f_12_128 rfl rfl ?_
    rw [g18]
    refine g_ishl dX12_readPart_25 rfl ?_
    refine g_iconst dX12_readPart_26 rfl ?_
    refine g_isub dX12_readPart_27 rfl ?_
    refine g_icmp_eq (t := 46) dX12_readPart_28 (by decide) rfl (by omega) (by omega) (fun c_28 => ?_) (fun c_28 => ?_)
    · exact pot (fun q => q.2 (hfull.mp c_28 |> fun z => by rw [g6]; exact z))
    · have hlt : ¬ R 3 3 ≤ R 3 6 := fun q => c_28 (hfull.mpr (by rw [← g6]; exact q))
      rw [if_neg (by omega)] at q0 q1
      rw [if_neg (by omega)] at q1
      refine g_l dX12_readPart_31 rfl rfl ?_
      refine g_s dX12_readPart_32 rfl rfl rfl ?_
      refine g_getf dX12_readPart_33 h248 f_12_125 rfl rfl ?_
      rw [g3]
      refine g_iconst dX12_readPart_36 rfl ?_
      refine g_iadd dX12_readPart_37 rfl ?_
      refine g_putf dX12_readPart_38 h248 f_12_125 (Nat.le_of_ble_eq_true rfl) rfl rfl p248_3 rfl ?_
      obtain ⟨m1, m2⟩ := mv (a + 1) rfl
      generalize wS M 0 3 (a + 1) = M1 at m1 m2 ⊢
      refine g_l dX12_readPart_41 rfl rfl ?_
      refine g_callV dX12_readPart_42 m_12_144 (n := 0) rfl h248 rfl (Nat.le_of_ble_eq_true rfl) (Nat.le_of_ble_eq_true rfl) rfl rfl ?_
      refine s_X12_readShutter hx hr m1 h0 (by rw [hb]; exact c_13) hlt (fun y M2 a1 a2 => ?_) (fun y M2 a1 a2 => ?_)
      · simp only [Option.toList_some, Option.toList_none, List.cons_append, List.nil_append]
        refine g_retZ dX12_readPart_45 rfl rfl (by omega) ?_
        exact q1 y M2 (m2.r.tr a1) a2
      · simp only [Option.toList_some, Option.toList_none, List.cons_append, List.nil_append]
        refine g_retZ dX12_readPart_45 rfl rfl (by omega) ?_
        exact q0 y M2 (m2.r.tr a1) a2
set_option maxHeartbeats 1000000 in
theorem s_X12_readTower {len : Int} {by' : Int → Int} {R : Nat → Int → Int} (hx : xOk len by') (ht : txP len by' M) (hR : 2 ≤ dgF len by' 1 ∧ dgF len by' 1 ≤ 5 → rd0 (dgF len by' 1) R)
    (q0 : byF len by' 0 ≠ 75 → ∀ M', rtFr M M' → Q (some (.int (iI 0))) (hO S Tw M' P)) (q1 : byF len by' 0 = 75 → ¬ (2 ≤ dgF len by' 1 ∧ dgF len by' 1 ≤ 5) → ∀ M', rtFr M M' → Q (some (.int (iI 1))) (hO S Tw M' P))
    (q2 : byF len by' 0 = 75 → 2 ≤ dgF len by' 1 ∧ dgF len by' 1 ≤ 5 → ∀ M', rtFr M M' → ((prL len by' 11 2 R).1 = -9 → ∃ z, rdR len by' (prL len by' 11 2 R).2 M' z) → Q (some (.int (iI (prL len by' 11 2 R).1))) (hO S Tw M' P)) : CallD (d + 5) 125 [.ref 248] (hO S Tw M P) Q := by
  have hx1 := hx.1
  have hx2 := hx.2.1
  refine g_enter (loc := [some _, _]) e_X12_readTower i_X12_readTower (Nat.le_of_ble_eq_true rfl) rfl ?_
  refine g_l dX12_readTower_0 rfl rfl ?_
  refine g_iconst dX12_readTower_1 rfl ?_
  refine g_putf dX12_readTower_2 h248 f_12_125 (Nat.le_of_ble_eq_true rfl) rfl rfl p248_3 rfl ?_
  refine g_l dX12_readTower_5 rfl rfl ?_
  refine g_iconst dX12_readTower_6 rfl ?_
  refine g_putf dX12_readTower_7 h248 f_12_141 (Nat.le_of_ble_eq_true rfl) rfl rfl p248_19 rfl ?_
  refine g_l dX12_readTower_10 rfl rfl ?_
  refine g_iconst dX12_readTower_11 rfl ?_
  refine g_putf dX12_readTower_12 h248 f_12_131 (Nat.le_of_ble_eq_true rfl) rfl rfl p248_20 rfl ?_
  refine g_iconst dX12_readTower_15 rfl ?_
  refine g_l (loc' := [some _, some _]) dX12_readTower_16 rfl rfl ?_
  have loop : ∀ (m : Nat) (i : Int) (M1 : Nat → Int → Int), 0 ≤ i → i ≤ 5 → (5 - i).toNat = m → rtFr M M1 → M1 0 19 = 0 → M1 0 20 = 0 → (∀ k, 0 ≤ k → k < i → M1 13 k = 5 ∧ M1 14 k = 0) →
      G none (d + 4) 12 false (some .int) 0 0 (hO S Tw M P).length cX12_readTower Q 0 17 [some (.ref 248), some (.int (iI i))] [] (hO S Tw M1 P) := by
    intro m
    induction m with
    | zero =>
      intro i M1 b1 b2 hm f1 f2 f3 f4
      have e2 : M1 0 2 = len := by rw [f1.2 2 (by decide) (by decide) (by decide) (by decide)]; exact ht.1
      have e1 : M1 1 = M 1 := f1.1 1 (by decide) (by decide) (by decide) (by decide)
      refine g_l dX12_readTower_17 rfl rfl ?_
      refine g_iconst dX12_readTower_18 rfl ?_
      refine g_icmp_ge (t := 42) dX12_readTower_19 (by decide) rfl (by omega) (by omega) (fun c_19 => ?_) (fun c_19 => False.elim (by omega))
      refine g_l dX12_readTower_42 rfl rfl ?_
      refine g_getf dX12_readTower_43 h248 f_12_122 rfl rfl ?_
      rw [e2]
      refine g_if_eq (t := 60) dX12_readTower_46 (by decide) rfl (by omega) (fun c_46 => ?_) (fun c_46 => ?_)
      · refine g_iconst dX12_readTower_60 rfl ?_
        refine g_retI dX12_readTower_61 rfl rfl ?_
        refine q0 ?_ M1 f1
        have : byF len by' 0 = -1 := by unfold byF; rw [if_pos (by omega)]
        rw [this]; decide
      · have hb2 := hx.2.2 0 (by decide) (by decide)
        have e10 : M1 1 0 = by' 0 := by rw [e1]; exact ht.2 0 (by decide) (by omega)
        have hb : byF len by' 0 = by' 0 := by unfold byF; rw [if_neg (by omega)]
        refine g_l dX12_readTower_49 rfl rfl ?_
        refine g_getf dX12_readTower_50 h248 f_12_7 rfl rfl ?_
        refine g_iconst dX12_readTower_53 rfl ?_
        refine g_iald dX12_readTower_54 h249 (by omega) (by decide) rfl ?_
        rw [e10]
        refine g_bipush dX12_readTower_55 (by decide) rfl ?_
        refine g_icmp_eq (t := 62) dX12_readTower_57 (by decide) rfl (by omega) (by omega) (fun c_57 => ?_) (fun c_57 => ?_)
        · have z75 : byF len by' 0 = 75 := by rw [hb]; exact c_57
          refine g_l dX12_readTower_62 rfl rfl ?_
          refine g_iconst dX12_readTower_63 rfl ?_
          refine g_putf dX12_readTower_64 h248 f_12_125 (Nat.le_of_ble_eq_true rfl) rfl rfl p248_3 rfl ?_
          have p1 : plFr M1 (wS M1 0 3 1) 1 := ⟨fun c hc => wS_o hc, fun j hj => by rw [wS_s, if_neg hj], wS_e⟩
          generalize wS M1 0 3 1 = M2 at p1 ⊢
          have t1 : txP len by' M1 := ⟨e2, fun j y1 y2 => by rw [e1]; exact ht.2 j y1 y2⟩
          refine g_l dX12_readTower_67 rfl rfl ?_
          refine g_l dX12_readTower_68 rfl rfl ?_
          refine g_iconst dX12_readTower_69 rfl ?_
          refine g_iconst dX12_readTower_70 rfl ?_
          refine g_callV dX12_readTower_71 m_12_137 (n := 2) rfl h248 rfl (Nat.le_of_ble_eq_true rfl) (Nat.le_of_ble_eq_true rfl) rfl rfl ?_
          refine s_X12_figure (at' := 1) hx (p1.t t1) p1.2.2 (by omega) (by decide) (by decide) (fun z => ?_) (fun w z => ?_)
          · have f : rtFr M2 (wS M2 0 18 (-9)) := ⟨fun c y1 _ _ _ => wS_o y1, fun j _ y2 _ _ => by rw [wS_s, if_neg y2]⟩
            simp only [Option.toList_some, Option.toList_none, List.cons_append, List.nil_append]
            refine g_putf dX12_readTower_74 h248 f_12_128 (Nat.le_of_ble_eq_true rfl) rfl rfl p248_18 rfl ?_
            refine g_l dX12_readTower_77 rfl rfl ?_
            refine g_getf dX12_readTower_78 h248 f_12_128 rfl rfl ?_
            rw [wS_e]
            refine g_bipush dX12_readTower_81 (by decide) rfl ?_
            refine g_icmp_ne (t := 88) dX12_readTower_83 (by decide) rfl (by omega) (by omega) (fun c_83 => False.elim (by omega)) (fun c_83 => ?_)
            refine g_iconst dX12_readTower_86 rfl ?_
            refine g_retI dX12_readTower_87 rfl rfl ?_
            exact q1 z75 (by omega) _ ((f1.tr p1.r).tr f)
          · have hr0 := hR z
            have q3 := q2 z75 z
            generalize dgF len by' 1 = n at *
            have p2 : plFr M1 (wS M2 0 3 (1 + 1)) 2 := p1.w
            generalize wS M2 0 3 (1 + 1) = M3 at p2 ⊢
            simp only [Option.toList_some, Option.toList_none, List.cons_append, List.nil_append]
            refine g_putf dX12_readTower_74 h248 f_12_128 (Nat.le_of_ble_eq_true rfl) rfl rfl p248_18 rfl ?_
            refine g_l dX12_readTower_77 rfl rfl ?_
            refine g_getf dX12_readTower_78 h248 f_12_128 rfl rfl ?_
            rw [wS_e]
            refine g_bipush dX12_readTower_81 (by decide) rfl ?_
            refine g_icmp_ne (t := 88) dX12_readTower_83 (by decide) rfl (by omega) (by omega) (fun c_83 => ?_) (fun c_83 => False.elim (by omega))
            have hr := rd0_ok z hr0
            obtain ⟨h33, h34, h36, h45⟩ := hr0
            have rd : rdR len by' R (wS M3 0 18 n) 2 := by
              have e0 : setF (fun i => R 12 i = 1) n.toNat = 0 ∧ cntF (fun i => R 12 i = 1) n.toNat = 0 := by
                rw [setF_congr (e := fun _ => False) (fun i y1 y2 => ⟨fun q => by have := (h45 i y1 (by omega)).2.2; omega, fun q => q.elim⟩), cntF_congr (e := fun _ => False) (fun i y1 y2 => ⟨fun q => by have := (h45 i y1 (by omega)).2.2; omega, fun q => q.elim⟩)]
                rcases (show n = 2 ∨ n = 3 ∨ n = 4 ∨ n = 5 by omega) with e | e | e | e <;> (subst e; decide)
              refine ⟨⟨?_, fun j y1 y2 => ?_⟩, ?_, ?_, ?_, ?_, ?_, fun k y1 y2 => ?_, fun p y1 j y2 y3 => by rw [h34] at y1; omega⟩
              · rw [wS_s, if_neg (by decide), p2.2.1 2 (by decide)]; exact e2
              · rw [wS_o (by decide), p2.1 1 (by decide), e1]; exact ht.2 j y1 y2
              · rw [wS_s, if_neg (by decide)]; exact p2.2.2
              · rw [wS_e, h33]
              · rw [wS_s, if_neg (by decide), p2.2.1 19 (by decide), f2, h34]
              · rw [wS_s, if_neg (by decide), p2.2.1 20 (by decide), f3, h33]; exact e0.1.symm
              · rw [h36, h33]; exact e0.2.symm
              · obtain ⟨x1, x2, -⟩ := h45 k y1 y2
                rw [wS_o (by decide), wS_o (by decide), p2.1 13 (by decide), p2.1 14 (by decide), x1, x2]
                exact f4 k y1 (by omega)
            have fr : rtFr M (wS M3 0 18 n) := (f1.tr p2.r).tr ⟨fun c y1 _ _ _ => wS_o y1, fun j _ y2 _ _ => by rw [wS_s, if_neg y2]⟩
            generalize wS M3 0 18 n = M4 at rd fr ⊢
            obtain rfl : i = 5 := by omega
            have parts : ∀ (m : Nat) (a : Int) (R1 M5 : Nat → Int → Int), 0 ≤ a → a + 7 * m ≤ 100 → R1 3 6 + R1 3 4 + m = 11 → rOk R1 → rdR len by' R1 M5 a → rtFr M M5 → prL len by' m a R1 = prL len by' 11 2 R →
                G none (d + 4) 12 false (some .int) 0 0 (hO S Tw M P).length cX12_readTower Q 0 88 [some (.ref 248), some (.int (iI 5))] [] (hO S Tw M5 P) := by
              intro m
              induction m with
              | zero =>
                intro a R1 M5 a1 a2 a3 a4 a5 a6 hz
                obtain ⟨r1, r2, r3, r4, r5⟩ := a4
                exact False.elim (by omega)
              | succ m ihm =>
                intro a R1 M5 a1 a2 a3 a4 a5 a6 hz
                have g3 := a5.2.1
                have g2 := a5.1.1
                rw [prL_s] at hz
                have ihx := fun R2 M6 => ihm (a + (if byF len by' a = 80 then 7 else 4)) R2 M6 (by split <;> omega) (by split <;> omega)
                have hpart := fun (h0 : 0 ≤ a ∧ a < len) (Q' : Option Value → GH → Prop) => s_X12_readPart (S := S) (Tw := Tw) (P := P) (d := d) (Q := Q') hx a4 a5 h0
                have hpn := paP_n (len := len) (by' := by') (R := R1) a1
                have hpo := paP_ok (a := a) hx a4
                have hpr := paP_R (len := len) (by' := by') (R := R1) (show 0 ≤ a ∧ a < 1000 by omega)
                generalize (a + (if byF len by' a = 80 then 7 else 4)) = an at ihx hz hpart
                generalize paP len by' a R1 = T at hz hpart hpn hpo hpr
                refine g_l dX12_readTower_88 rfl rfl ?_
                refine g_getf dX12_readTower_89 h248 f_12_125 rfl rfl ?_
                rw [g3]
                refine g_l dX12_readTower_92 rfl rfl ?_
                refine g_getf dX12_readTower_93 h248 f_12_122 rfl rfl ?_
                rw [g2]
                refine g_icmp_ge (t := 111) dX12_readTower_96 (by decide) rfl (by omega) (by omega) (fun c_96 => ?_) (fun c_96 => ?_)
                · rw [if_pos c_96] at hz
                  rw [← hz] at q3
                  refine g_bipush dX12_readTower_111 (by decide) rfl ?_
                  refine g_retI dX12_readTower_113 rfl rfl ?_
                  exact q3 M5 a6 (fun _ => ⟨a, a5⟩)
                · rw [if_neg (by omega)] at hz
                  refine g_l dX12_readTower_99 rfl rfl ?_
                  refine g_callV dX12_readTower_100 m_12_149 (n := 0) rfl h248 rfl (Nat.le_of_ble_eq_true rfl) (Nat.le_of_ble_eq_true rfl) rfl rfl ?_
                  refine hpart (by omega) _ (fun y M6 w1 w2 => ?_) (fun y M6 w1 w2 => ?_)
                  · rw [if_pos y] at hz
                    have hs := hpn y
                    simp only [Option.toList_some, Option.toList_none, List.cons_append, List.nil_append]
                    refine g_if_ne (t := 88) dX12_readTower_103 (by decide) rfl (by omega) (fun c_103 => ?_) (fun c_103 => False.elim (by omega))
                    exact ihx T.2 M6 (by omega) hpo w2 (a6.tr w1) hz
                  · rw [if_neg y] at hz
                    rw [← hz] at q3
                    simp only [Option.toList_some, Option.toList_none, List.cons_append, List.nil_append]
                    refine g_if_ne (t := 88) dX12_readTower_103 (by decide) rfl (by omega) (fun c_103 => False.elim (by omega)) (fun c_103 => ?_)
                    refine g_l dX12_readTower_106 rfl rfl ?_
                    refine g_getf dX12_readTower_107 h248 f_12_125 rfl rfl ?_
                    rw [w2]
                    refine g_retI dX12_readTower_110 rfl rfl ?_
                    exact q3 M6 (a6.tr w1) (fun q => absurd q y)
            exact parts 11 2 R M4 (by decide) (by decide) (by omega) hr rd fr rfl
        · refine g_iconst dX12_readTower_60 rfl ?_
          refine g_retI dX12_readTower_61 rfl rfl ?_
          exact q0 (by rw [hb]; exact c_57) M1 f1
    | succ m ih =>
      intro i M1 b1 b2 hm f1 f2 f3 f4
      refine g_l dX12_readTower_17 rfl rfl ?_
      refine g_iconst dX12_readTower_18 rfl ?_
      refine g_icmp_ge (t := 42) dX12_readTower_19 (by decide) rfl (by omega) (by omega) (fun c_19 => False.elim (by omega)) (fun c_19 => ?_)
      refine g_l dX12_readTower_22 rfl rfl ?_
      refine g_getf dX12_readTower_23 h248 f_12_50 rfl rfl ?_
      refine g_l dX12_readTower_26 rfl rfl ?_
      refine g_iconst dX12_readTower_27 rfl ?_
      refine g_iast dX12_readTower_28 h261 (by omega) (by decide) p261 rfl ?_
      refine g_l dX12_readTower_29 rfl rfl ?_
      refine g_getf dX12_readTower_30 h248 f_12_53 rfl rfl ?_
      refine g_l dX12_readTower_33 rfl rfl ?_
      refine g_iconst dX12_readTower_34 rfl ?_
      refine g_iast dX12_readTower_35 h262 (by omega) (by decide) p262 rfl ?_
      refine g_iinc (loc' := [some _, some _]) dX12_readTower_36 rfl rfl rfl ?_
      refine g_goto (t := 17) dX12_readTower_39 (by decide) ?_
      refine ih (i + 1) _ (by omega) (by omega) (by omega) (f1.tr ⟨fun c _ y2 y3 _ => by rw [wS_o y3, wS_o y2], fun j _ _ _ _ => by rw [wS_o (by decide), wS_o (by decide)]⟩) (by rw [wS_o (by decide), wS_o (by decide)]; exact f2) (by rw [wS_o (by decide), wS_o (by decide)]; exact f3) (fun k y1 y2 => ?_)
      rw [wS_o (show (13 : Nat) ≠ 14 by decide), wS_s, wS_s, wS_o (show (14 : Nat) ≠ 13 by decide)]
      by_cases e : k = i
      · rw [if_pos e, if_pos e]; exact ⟨rfl, rfl⟩
      · rw [if_neg e, if_neg e]; exact f4 k y1 (by omega)
  refine loop 5 0 _ (by decide) (by decide) rfl ⟨fun c y1 _ _ _ => by rw [wS_o y1, wS_o y1, wS_o y1], fun j y1 _ y3 y4 => by rw [wS_s, if_neg y4, wS_s, if_neg y3, wS_s, if_neg y1]⟩ ?_ ?_ (fun k y1 y2 => by omega)
  · rw [wS_s, if_neg (by decide), wS_e]
  · rw [wS_e]
theorem s_X12_fault {len : Int} {by' : Int → Int} {R : Nat → Int → Int} (hx : xOk len by') (ht : txP len by' M) (hR : 2 ≤ dgF len by' 1 ∧ dgF len by' 1 ≤ 5 → rd0 (dgF len by' 1) R)
    (q0 : byF len by' 0 ≠ 75 → ∀ M', quFr M M' → Q (some (.int (iI 0))) (hO S Tw M' P)) (q1 : byF len by' 0 = 75 → ¬ (2 ≤ dgF len by' 1 ∧ dgF len by' 1 ≤ 5) → ∀ M', quFr M M' → Q (some (.int (iI 1))) (hO S Tw M' P))
    (q2 : byF len by' 0 = 75 → 2 ≤ dgF len by' 1 ∧ dgF len by' 1 ≤ 5 → ∀ M', quFr M M' → Q (some (.int (iI (prL len by' 11 2 R).1))) (hO S Tw M' P)) : CallD (d + 6) 126 [.ref 248] (hO S Tw M P) Q := by
  refine g_enter (loc := [some _]) e_X12_fault i_X12_fault (Nat.le_of_ble_eq_true rfl) rfl ?_
  refine g_l dX12_fault_0 rfl rfl ?_
  refine g_iconst dX12_fault_1 rfl ?_
  refine g_putf dX12_fault_2 h248 f_12_108 (Nat.le_of_ble_eq_true rfl) rfl rfl p248_0 rfl ?_
  have h1 := thP_w (M := M)
  generalize wS M 0 0 0 = M1 at h1 ⊢
  have t1 : txP len by' M1 := ⟨by rw [h1.2 2 (by decide)]; exact ht.1, fun j y1 y2 => by rw [h1.1 1 (by decide)]; exact ht.2 j y1 y2⟩
  refine g_l dX12_fault_5 rfl rfl ?_
  refine g_callV dX12_fault_6 m_12_152 (n := 0) rfl h248 rfl (Nat.le_of_ble_eq_true rfl) (Nat.le_of_ble_eq_true rfl) rfl rfl ?_
  refine s_X12_readTower hx t1 hR (fun y M2 a => ?_) (fun y z M2 a => ?_) (fun y z M2 a b => ?_)
  · simp only [Option.toList_some, Option.toList_none, List.cons_append, List.nil_append]
    refine g_retI dX12_fault_9 rfl rfl ?_
    exact q0 y M2 (h1.q.tr a.q)
  · simp only [Option.toList_some, Option.toList_none, List.cons_append, List.nil_append]
    refine g_retI dX12_fault_9 rfl rfl ?_
    exact q1 y z M2 (h1.q.tr a.q)
  · simp only [Option.toList_some, Option.toList_none, List.cons_append, List.nil_append]
    have h := q2 y z M2 (h1.q.tr a.q)
    generalize (prL len by' 11 2 R).1 = r at h ⊢
    refine g_retI dX12_fault_9 rfl rfl ?_
    exact h
set_option maxHeartbeats 2000000 in
theorem s_X12_tower {len : Int} {by' : Int → Int} {R : Nat → Int → Int} (hx : xOk len by') (ht : txP len by' M) (hR : 2 ≤ dgF len by' 1 ∧ dgF len by' 1 ≤ 5 → rd0 (dgF len by' 1) R)
    (q0 : byF len by' 0 ≠ 75 → ∀ M', quFr M M' → Q (some (.int (iI (-3)))) (hO S Tw M' P)) (q1 : byF len by' 0 = 75 → ¬ (2 ≤ dgF len by' 1 ∧ dgF len by' 1 ≤ 5) → ∀ M', quFr M M' → Q (some (.int (iI (-3)))) (hO S Tw M' P))
    (q2 : byF len by' 0 = 75 → 2 ≤ dgF len by' 1 ∧ dgF len by' 1 ≤ 5 → (prL len by' 11 2 R).1 ≠ -9 → ∀ M', quFr M M' → Q (some (.int (iI (-3)))) (hO S Tw M' P))
    (q3 : byF len by' 0 = 75 → 2 ≤ dgF len by' 1 ∧ dgF len by' 1 ≤ 5 → (prL len by' 11 2 R).1 = -9 → ∀ M', twP M (prL len by' 11 2 R).2 M' → Q (some (.int (iI ((prL len by' 11 2 R).2 3 3)))) (hO S Tw M' P)) : CallD (d + 6) 127 [.ref 248] (hO S Tw M P) Q := by
  refine g_enter (loc := [some _, _]) e_X12_tower i_X12_tower (Nat.le_of_ble_eq_true rfl) rfl ?_
  refine g_l dX12_tower_0 rfl rfl ?_
  refine g_iconst dX12_tower_1 rfl ?_
  refine g_putf dX12_tower_2 h248 f_12_108 (Nat.le_of_ble_eq_true rfl) rfl rfl p248_0 rfl ?_
  have h1 := thP_w (M := M)
  generalize wS M 0 0 0 = M1 at h1 ⊢
  have t1 : txP len by' M1 := ⟨by rw [h1.2 2 (by decide)]; exact ht.1, fun j y1 y2 => by rw [h1.1 1 (by decide)]; exact ht.2 j y1 y2⟩
  refine g_l dX12_tower_5 rfl rfl ?_
  refine g_callV dX12_tower_6 m_12_152 (n := 0) rfl h248 rfl (Nat.le_of_ble_eq_true rfl) (Nat.le_of_ble_eq_true rfl) rfl rfl ?_
  refine s_X12_readTower hx t1 hR (fun y M2 a => ?_) (fun y z M2 a => ?_) (fun y z M2 a b => ?_)
  · simp only [Option.toList_some, Option.toList_none, List.cons_append, List.nil_append]
    refine g_bipush dX12_tower_9 (by decide) rfl ?_
    refine g_icmp_eq (t := 17) dX12_tower_11 (by decide) rfl (by omega) (by omega) (fun c_11 => False.elim (by omega)) (fun c_11 => ?_)
    refine g_bipush dX12_tower_14 (by decide) rfl ?_
    refine g_retI dX12_tower_16 rfl rfl ?_
    exact q0 y M2 (h1.q.tr a.q)
  · simp only [Option.toList_some, Option.toList_none, List.cons_append, List.nil_append]
    refine g_bipush dX12_tower_9 (by decide) rfl ?_
    refine g_icmp_eq (t := 17) dX12_tower_11 (by decide) rfl (by omega) (by omega) (fun c_11 => False.elim (by omega)) (fun c_11 => ?_)
    refine g_bipush dX12_tower_14 (by decide) rfl ?_
    refine g_retI dX12_tower_16 rfl rfl ?_
    exact q1 y z M2 (h1.q.tr a.q)
  · have hpr := prL_ok hx 11 2 R (by decide) (by decide) (rd0_ok z (hR z))
    have h2 := q2 y z
    have h3 := q3 y z
    generalize prL len by' 11 2 R = T at hpr h2 h3 b ⊢
    obtain ⟨hr, -, hr32⟩ := hpr
    obtain ⟨T1, R'⟩ := T
    simp only [] at hr hr32 h2 h3 b ⊢
    obtain ⟨r1, r2, r3, r4, r5⟩ := hr
    simp only [Option.toList_some, Option.toList_none, List.cons_append, List.nil_append]
    refine g_bipush dX12_tower_9 (by decide) rfl ?_
    refine g_icmp_eq (t := 17) dX12_tower_11 (by decide) rfl (by omega) (by omega) (fun c_11 => ?_) (fun c_11 => ?_)
    · obtain ⟨w, t, -, g18, g19, -, -, g13, g15⟩ := b c_11
      have h4 := h3 c_11
      have e0 : ∀ c, c ≠ 0 → c ≠ 13 → c ≠ 14 → c ≠ 15 → M2 c = M c := fun c y1 y2 y3 y4 => by rw [a.1 c y1 y2 y3 y4]; exact h1.1 c y1
      have e00 : ∀ j, j ≠ 0 → j ≠ 3 → j ≠ 18 → j ≠ 19 → j ≠ 20 → M2 0 j = M 0 j := fun j y0 y1 y2 y3 y4 => by rw [a.2 j y1 y2 y3 y4]; exact h1.2 j y0
      refine g_l dX12_tower_17 rfl rfl ?_
      refine g_l dX12_tower_18 rfl rfl ?_
      refine g_getf dX12_tower_19 h248 f_12_128 rfl rfl ?_
      rw [g18]
      refine g_putf dX12_tower_22 h248 f_12_13 (Nat.le_of_ble_eq_true rfl) rfl rfl p248_4 rfl ?_
      refine g_l dX12_tower_25 rfl rfl ?_
      refine g_l dX12_tower_26 rfl rfl ?_
      refine g_getf dX12_tower_27 h248 f_12_141 rfl rfl ?_
      rw [show wS M2 0 4 (R' 3 3) 0 19 = R' 3 4 by rw [wS_s, if_neg (by decide)]; exact g19]
      refine g_putf dX12_tower_30 h248 f_12_115 (Nat.le_of_ble_eq_true rfl) rfl rfl p248_5 rfl ?_
      refine g_iconst dX12_tower_33 rfl ?_
      refine g_l (loc' := [some _, some _]) dX12_tower_34 rfl rfl ?_
      have s0 : ∀ c, c ≠ 0 → wS (wS M2 0 4 (R' 3 3)) 0 5 (R' 3 4) c = M2 c := fun c hc => by rw [wS_o hc, wS_o hc]
      have s04 : wS (wS M2 0 4 (R' 3 3)) 0 5 (R' 3 4) 0 4 = R' 3 3 := by rw [wS_s, if_neg (by decide), wS_e]
      have s05 : wS (wS M2 0 4 (R' 3 3)) 0 5 (R' 3 4) 0 5 = R' 3 4 := wS_e
      have s0j : ∀ j, j ≠ 4 → j ≠ 5 → wS (wS M2 0 4 (R' 3 3)) 0 5 (R' 3 4) 0 j = M2 0 j := fun j y1 y2 => by rw [wS_s, if_neg y2, wS_s, if_neg y1]
      generalize wS (wS M2 0 4 (R' 3 3)) 0 5 (R' 3 4) = M3 at s0 s04 s05 s0j ⊢
      have loop2 : ∀ (m : Nat) (i : Int) (M4 : Nat → Int → Int), 0 ≤ i → i ≤ R' 3 4 → (R' 3 4 - i).toNat = m → (∀ c, ¬ (2 ≤ c ∧ c ≤ 12) → M4 c = M3 c) → (∀ k, 0 ≤ k → k < 5 → M4 2 k = R' 4 k ∧ M4 3 k = R' 5 k ∧ M4 4 k = 0) → (∀ p : Int, 0 ≤ p → p < i → (M4 5 p = R' (7 + p.toNat) 0 ∧ M4 6 p = R' (7 + p.toNat) 1 ∧ M4 7 p = R' (7 + p.toNat) 2 ∧ M4 8 p = R' (7 + p.toNat) 3 ∧ M4 9 p = R' (7 + p.toNat) 4 ∧ M4 10 p = R' (7 + p.toNat) 5) ∧ M4 11 p = 0 ∧ M4 12 p = 0) →
          G none (d + 5) 12 false (some .int) 0 0 (hO S Tw M P).length cX12_tower Q 0 79 [some (.ref 248), some (.int (iI i))] [] (hO S Tw M4 P) := by
        intro m
        induction m with
        | zero =>
          intro i M4 b1 b2 hm f1 f2 f3
          have e0' : M4 0 = M3 0 := f1 0 (by decide)
          refine g_l dX12_tower_79 rfl rfl ?_
          refine g_l dX12_tower_80 rfl rfl ?_
          refine g_getf dX12_tower_81 h248 f_12_115 rfl rfl ?_
          rw [e0', s05]
          refine g_icmp_ge (t := 207) dX12_tower_84 (by decide) rfl (by omega) (by omega) (fun c_84 => ?_) (fun c_84 => False.elim (by omega))
          refine g_l dX12_tower_207 rfl rfl ?_
          refine g_iconst dX12_tower_208 rfl ?_
          refine g_putf dX12_tower_209 h248 f_12_156 (Nat.le_of_ble_eq_true rfl) rfl rfl p248_17 rfl ?_
          refine g_l dX12_tower_212 rfl rfl ?_
          refine g_iconst dX12_tower_213 rfl ?_
          refine g_putf dX12_tower_214 h248 f_12_159 (Nat.le_of_ble_eq_true rfl) rfl rfl p248_25 rfl ?_
          refine g_l dX12_tower_217 rfl rfl ?_
          refine g_getf dX12_tower_218 h248 f_12_65 rfl rfl ?_
          refine g_iconst dX12_tower_221 rfl ?_
          refine g_iconst dX12_tower_222 rfl ?_
          refine g_bast dX12_tower_223 h266 (by omega) (by omega) (by decide) p266 rfl ?_
          refine g_l dX12_tower_224 rfl rfl ?_
          refine g_getf dX12_tower_225 h248 f_12_65 rfl rfl ?_
          refine g_iconst dX12_tower_228 rfl ?_
          refine g_iconst dX12_tower_229 rfl ?_
          refine g_bast dX12_tower_230 h266 (by omega) (by omega) (by decide) p266 rfl ?_
          refine g_l dX12_tower_231 rfl rfl ?_
          refine g_getf dX12_tower_232 h248 f_12_13 rfl rfl ?_
          have t0 : ∀ (X : Nat → Int → Int) (i v : Int), wS X 18 i v 0 = X 0 := fun X i v => wS_o (by decide)
          rw [t0, t0, wS_s, if_neg (by decide), wS_s, if_neg (by decide), e0', s04]
          refine g_retI dX12_tower_235 rfl rfl ?_
          refine h4 _ ⟨fun c y1 y2 y3 => ?_, ⟨?_, ?_⟩, ?_, ?_, fun k y1 y2 => ?_, fun p y1 y2 => ?_, ?_, ?_, ?_, ?_⟩
          · rw [wS_o y3, wS_o y3, wS_o y1, wS_o y1, f1 c (by omega), s0 c y1]; exact e0 c y1 (by omega) (by omega) (by omega)
          · rw [t0, t0, wS_s, if_neg (by decide), wS_s, if_neg (by decide), e0', s0j 2 (by decide) (by decide)]; exact e00 2 (by decide) (by decide) (by decide) (by decide) (by decide)
          · rw [t0, t0, wS_s, if_neg (by decide), wS_s, if_neg (by decide), e0', s0j 35 (by decide) (by decide)]; exact e00 35 (by decide) (by decide) (by decide) (by decide) (by decide)
          · rw [t0, t0, wS_s, if_neg (by decide), wS_s, if_neg (by decide), e0', s04]
          · rw [t0, t0, wS_s, if_neg (by decide), wS_s, if_neg (by decide), e0', s05]
          · rw [wS_o (show (2 : Nat) ≠ 18 by decide), wS_o (show (2 : Nat) ≠ 18 by decide), wS_o (show (2 : Nat) ≠ 0 by decide), wS_o (show (2 : Nat) ≠ 0 by decide), wS_o (show (3 : Nat) ≠ 18 by decide), wS_o (show (3 : Nat) ≠ 18 by decide), wS_o (show (3 : Nat) ≠ 0 by decide), wS_o (show (3 : Nat) ≠ 0 by decide), wS_o (show (4 : Nat) ≠ 18 by decide), wS_o (show (4 : Nat) ≠ 18 by decide), wS_o (show (4 : Nat) ≠ 0 by decide), wS_o (show (4 : Nat) ≠ 0 by decide)]
            exact f2 k y1 y2
          · have o : ∀ c : Nat, c ≠ 0 → c ≠ 18 → wS (wS (wS (wS M4 0 17 0) 0 25 0) 18 0 0) 18 1 0 c = M4 c := fun c w1 w2 => by rw [wS_o w2, wS_o w2, wS_o w1, wS_o w1]
            rw [o 5 (by decide) (by decide), o 6 (by decide) (by decide), o 7 (by decide) (by decide), o 8 (by decide) (by decide), o 9 (by decide) (by decide), o 10 (by decide) (by decide), o 11 (by decide) (by decide), o 12 (by decide) (by decide)]
            exact f3 p y1 (by omega)
          · rw [t0, t0, wS_s, if_neg (by decide), wS_e]
          · rw [t0, t0, wS_e]
          · rw [wS_s, if_neg (by decide), wS_e]
          · rw [wS_e]
        | succ m ih =>
          intro i M4 b1 b2 hm f1 f2 f3
          have e0' : M4 0 = M3 0 := f1 0 (by decide)
          have v15 : ∀ j, 0 ≤ j → j < 6 → M4 15 (6 * i + j) = R' (7 + i.toNat) j := fun j y1 y2 => by
            rw [f1 15 (by decide), s0 15 (by decide)]
            have := g15 i.toNat (by omega) j y1 y2
            rw [Int.toNat_of_nonneg b1] at this
            exact this
          have v0 := v15 0 (by decide) (by decide)
          rw [Int.add_zero] at v0
          refine g_l dX12_tower_79 rfl rfl ?_
          refine g_l dX12_tower_80 rfl rfl ?_
          refine g_getf dX12_tower_81 h248 f_12_115 rfl rfl ?_
          rw [e0', s05]
          refine g_icmp_ge (t := 207) dX12_tower_84 (by decide) rfl (by omega) (by omega) (fun c_84 => False.elim (by omega)) (fun c_84 => ?_)
          refine g_l dX12_tower_87 rfl rfl ?_
          refine g_getf dX12_tower_88 h248 f_12_26 rfl rfl ?_
          refine g_l dX12_tower_91 rfl rfl ?_
          refine g_l dX12_tower_92 rfl rfl ?_
          refine g_getf dX12_tower_93 h248 f_12_56 rfl rfl ?_
          refine g_bipush dX12_tower_96 (by decide) rfl ?_
          refine g_l dX12_tower_98 rfl rfl ?_
          refine g_imul dX12_tower_99 rfl ?_
          refine g_iald dX12_tower_100 h263 (by omega) (by decide) rfl ?_
          refine g_iast dX12_tower_101 h253 (by omega) (by decide) p253 rfl ?_
          refine g_l dX12_tower_102 rfl rfl ?_
          refine g_getf dX12_tower_103 h248 f_12_29 rfl rfl ?_
          refine g_l dX12_tower_106 rfl rfl ?_
          refine g_l dX12_tower_107 rfl rfl ?_
          refine g_getf dX12_tower_108 h248 f_12_56 rfl rfl ?_
          refine g_bipush dX12_tower_111 (by decide) rfl ?_
          refine g_l dX12_tower_113 rfl rfl ?_
          refine g_imul dX12_tower_114 rfl ?_
          refine g_iconst dX12_tower_115 rfl ?_
          refine g_iadd dX12_tower_116 rfl ?_
          refine g_iald dX12_tower_117 h263 (by omega) (by decide) rfl ?_
          refine g_iast dX12_tower_118 h254 (by omega) (by decide) p254 rfl ?_
          refine g_l dX12_tower_119 rfl rfl ?_
          refine g_getf dX12_tower_120 h248 f_12_32 rfl rfl ?_
          refine g_l dX12_tower_123 rfl rfl ?_
          refine g_l dX12_tower_124 rfl rfl ?_
          refine g_getf dX12_tower_125 h248 f_12_56 rfl rfl ?_
          refine g_bipush dX12_tower_128 (by decide) rfl ?_
          refine g_l dX12_tower_130 rfl rfl ?_
          refine g_imul dX12_tower_131 rfl ?_
          refine g_iconst dX12_tower_132 rfl ?_
          refine g_iadd dX12_tower_133 rfl ?_
          refine g_iald dX12_tower_134 h263 (by omega) (by decide) rfl ?_
          refine g_iast dX12_tower_135 h255 (by omega) (by decide) p255 rfl ?_
          refine g_l dX12_tower_136 rfl rfl ?_
          refine g_getf dX12_tower_137 h248 f_12_35 rfl rfl ?_
          refine g_l dX12_tower_140 rfl rfl ?_
          refine g_l dX12_tower_141 rfl rfl ?_
          refine g_getf dX12_tower_142 h248 f_12_56 rfl rfl ?_
          refine g_bipush dX12_tower_145 (by decide) rfl ?_
          refine g_l dX12_tower_147 rfl rfl ?_
          refine g_imul dX12_tower_148 rfl ?_
          refine g_iconst dX12_tower_149 rfl ?_
          refine g_iadd dX12_tower_150 rfl ?_
          refine g_iald dX12_tower_151 h263 (by omega) (by decide) rfl ?_
          refine g_iast dX12_tower_152 h256 (by omega) (by decide) p256 rfl ?_
          refine g_l dX12_tower_153 rfl rfl ?_
          refine g_getf dX12_tower_154 h248 f_12_38 rfl rfl ?_
          refine g_l dX12_tower_157 rfl rfl ?_
          refine g_l dX12_tower_158 rfl rfl ?_
          refine g_getf dX12_tower_159 h248 f_12_56 rfl rfl ?_
          refine g_bipush dX12_tower_162 (by decide) rfl ?_
          refine g_l dX12_tower_164 rfl rfl ?_
          refine g_imul dX12_tower_165 rfl ?_
          refine g_iconst dX12_tower_166 rfl ?_
          refine g_iadd dX12_tower_167 rfl ?_
          refine g_iald dX12_tower_168 h263 (by omega) (by decide) rfl ?_
          refine g_iast dX12_tower_169 h257 (by omega) (by decide) p257 rfl ?_
          refine g_l dX12_tower_170 rfl rfl ?_
          refine g_getf dX12_tower_171 h248 f_12_41 rfl rfl ?_
          refine g_l dX12_tower_174 rfl rfl ?_
          refine g_l dX12_tower_175 rfl rfl ?_
          refine g_getf dX12_tower_176 h248 f_12_56 rfl rfl ?_
          refine g_bipush dX12_tower_179 (by decide) rfl ?_
          refine g_l dX12_tower_181 rfl rfl ?_
          refine g_imul dX12_tower_182 rfl ?_
          refine g_iconst dX12_tower_183 rfl ?_
          refine g_iadd dX12_tower_184 rfl ?_
          refine g_iald dX12_tower_185 h263 (by omega) (by decide) rfl ?_
          refine g_iast dX12_tower_186 h258 (by omega) (by decide) p258 rfl ?_
          refine g_l dX12_tower_187 rfl rfl ?_
          refine g_getf dX12_tower_188 h248 f_12_44 rfl rfl ?_
          refine g_l dX12_tower_191 rfl rfl ?_
          refine g_iconst dX12_tower_192 rfl ?_
          refine g_iast dX12_tower_193 h259 (by omega) (by decide) p259 rfl ?_
          refine g_l dX12_tower_194 rfl rfl ?_
          refine g_getf dX12_tower_195 h248 f_12_47 rfl rfl ?_
          refine g_l dX12_tower_198 rfl rfl ?_
          refine g_iconst dX12_tower_199 rfl ?_
          refine g_iast dX12_tower_200 h260 (by omega) (by decide) p260 rfl ?_
          refine g_iinc (loc' := [some _, some _]) dX12_tower_201 rfl rfl rfl ?_
          refine g_goto (t := 79) dX12_tower_204 (by decide) ?_
          simp only [wS_o (show (15 : Nat) ≠ 5 by decide), wS_o (show (15 : Nat) ≠ 6 by decide), wS_o (show (15 : Nat) ≠ 7 by decide), wS_o (show (15 : Nat) ≠ 8 by decide), wS_o (show (15 : Nat) ≠ 9 by decide), v0, v15 1 (by decide) (by decide), v15 2 (by decide) (by decide), v15 3 (by decide) (by decide), v15 4 (by decide) (by decide), v15 5 (by decide) (by decide)]
          refine ih (i + 1) _ (by omega) (by omega) (by omega) (fun c hc => ?_) (fun k y1 y2 => ?_) (fun p y1 y2 => ?_)
          · rw [wS_o (by omega), wS_o (by omega), wS_o (by omega), wS_o (by omega), wS_o (by omega), wS_o (by omega), wS_o (by omega), wS_o (by omega)]; exact f1 c hc
          · rw [wS_o (show (2 : Nat) ≠ 12 by decide), wS_o (show (2 : Nat) ≠ 11 by decide), wS_o (show (2 : Nat) ≠ 10 by decide), wS_o (show (2 : Nat) ≠ 9 by decide), wS_o (show (2 : Nat) ≠ 8 by decide), wS_o (show (2 : Nat) ≠ 7 by decide), wS_o (show (2 : Nat) ≠ 6 by decide), wS_o (show (2 : Nat) ≠ 5 by decide), wS_o (show (3 : Nat) ≠ 12 by decide), wS_o (show (3 : Nat) ≠ 11 by decide), wS_o (show (3 : Nat) ≠ 10 by decide), wS_o (show (3 : Nat) ≠ 9 by decide), wS_o (show (3 : Nat) ≠ 8 by decide), wS_o (show (3 : Nat) ≠ 7 by decide), wS_o (show (3 : Nat) ≠ 6 by decide), wS_o (show (3 : Nat) ≠ 5 by decide), wS_o (show (4 : Nat) ≠ 12 by decide), wS_o (show (4 : Nat) ≠ 11 by decide), wS_o (show (4 : Nat) ≠ 10 by decide), wS_o (show (4 : Nat) ≠ 9 by decide), wS_o (show (4 : Nat) ≠ 8 by decide), wS_o (show (4 : Nat) ≠ 7 by decide), wS_o (show (4 : Nat) ≠ 6 by decide), wS_o (show (4 : Nat) ≠ 5 by decide)]
            exact f2 k y1 y2
          · by_cases e : p = i
            · subst e
              refine ⟨⟨?_, ?_, ?_, ?_, ?_, ?_⟩, ?_, ?_⟩
              · rw [wS_o (by decide), wS_o (by decide), wS_o (by decide), wS_o (by decide), wS_o (by decide), wS_o (by decide), wS_o (by decide), wS_e]
              · rw [wS_o (by decide), wS_o (by decide), wS_o (by decide), wS_o (by decide), wS_o (by decide), wS_o (by decide), wS_e]
              · rw [wS_o (by decide), wS_o (by decide), wS_o (by decide), wS_o (by decide), wS_o (by decide), wS_e]
              · rw [wS_o (by decide), wS_o (by decide), wS_o (by decide), wS_o (by decide), wS_e]
              · rw [wS_o (by decide), wS_o (by decide), wS_o (by decide), wS_e]
              · rw [wS_o (by decide), wS_o (by decide), wS_e]
              · rw [wS_o (by decide), wS_e]
              · rw [wS_e]
            · obtain ⟨⟨k1, k2, k3, k4, k5, k6⟩, k7, k8⟩ := f3 p y1 (by omega)
              refine ⟨⟨?_, ?_, ?_, ?_, ?_, ?_⟩, ?_, ?_⟩
              · rw [wS_o (by decide), wS_o (by decide), wS_o (by decide), wS_o (by decide), wS_o (by decide), wS_o (by decide), wS_o (by decide), wS_s, if_neg e]; exact k1
              · rw [wS_o (by decide), wS_o (by decide), wS_o (by decide), wS_o (by decide), wS_o (by decide), wS_o (by decide), wS_s, if_neg e, wS_o (by decide)]; exact k2
              · rw [wS_o (by decide), wS_o (by decide), wS_o (by decide), wS_o (by decide), wS_o (by decide), wS_s, if_neg e, wS_o (by decide), wS_o (by decide)]; exact k3
              · rw [wS_o (by decide), wS_o (by decide), wS_o (by decide), wS_o (by decide), wS_s, if_neg e, wS_o (by decide), wS_o (by decide), wS_o (by decide)]; exact k4
              · rw [wS_o (by decide), wS_o (by decide), wS_o (by decide), wS_s, if_neg e, wS_o (by decide), wS_o (by decide), wS_o (by decide), wS_o (by decide)]; exact k5
              · rw [wS_o (by decide), wS_o (by decide), wS_s, if_neg e, wS_o (by decide), wS_o (by decide), wS_o (by decide), wS_o (by decide), wS_o (by decide)]; exact k6
              · rw [wS_o (by decide), wS_s, if_neg e, wS_o (by decide), wS_o (by decide), wS_o (by decide), wS_o (by decide), wS_o (by decide), wS_o (by decide)]; exact k7
              · rw [wS_s, if_neg e, wS_o (by decide), wS_o (by decide), wS_o (by decide), wS_o (by decide), wS_o (by decide), wS_o (by decide), wS_o (by decide)]; exact k8
      have loop : ∀ (m : Nat) (i : Int) (M4 : Nat → Int → Int), 0 ≤ i → i ≤ 5 → (5 - i).toNat = m → (∀ c, c ≠ 2 → c ≠ 3 → c ≠ 4 → M4 c = M3 c) → (∀ k, 0 ≤ k → k < i → M4 2 k = R' 4 k ∧ M4 3 k = R' 5 k ∧ M4 4 k = 0) →
          G none (d + 5) 12 false (some .int) 0 0 (hO S Tw M P).length cX12_tower Q 0 35 [some (.ref 248), some (.int (iI i))] [] (hO S Tw M4 P) := by
        intro m
        induction m with
        | zero =>
          intro i M4 b1 b2 hm f1 f2
          refine g_l dX12_tower_35 rfl rfl ?_
          refine g_iconst dX12_tower_36 rfl ?_
          refine g_icmp_ge (t := 77) dX12_tower_37 (by decide) rfl (by omega) (by omega) (fun c_37 => ?_) (fun c_37 => False.elim (by omega))
          refine g_iconst dX12_tower_77 rfl ?_
          refine g_l (loc' := [some _, some _]) dX12_tower_78 rfl rfl ?_
          exact loop2 (R' 3 4).toNat 0 M4 (by decide) (by omega) (by rw [Int.sub_zero]) (fun c hc => f1 c (by omega) (by omega) (by omega)) (fun k y1 y2 => f2 k y1 (by omega)) (fun p y1 y2 => by omega)
        | succ m ih =>
          intro i M4 b1 b2 hm f1 f2
          obtain ⟨v13, v14⟩ := g13 i b1 (by omega)
          have w13 : M4 13 i = R' 4 i := by rw [f1 13 (by decide) (by decide) (by decide), s0 13 (by decide)]; exact v13
          have w14 : M4 14 i = R' 5 i := by rw [f1 14 (by decide) (by decide) (by decide), s0 14 (by decide)]; exact v14
          refine g_l dX12_tower_35 rfl rfl ?_
          refine g_iconst dX12_tower_36 rfl ?_
          refine g_icmp_ge (t := 77) dX12_tower_37 (by decide) rfl (by omega) (by omega) (fun c_37 => False.elim (by omega)) (fun c_37 => ?_)
          refine g_l dX12_tower_40 rfl rfl ?_
          refine g_getf dX12_tower_41 h248 f_12_17 rfl rfl ?_
          refine g_l dX12_tower_44 rfl rfl ?_
          refine g_l dX12_tower_45 rfl rfl ?_
          refine g_getf dX12_tower_46 h248 f_12_50 rfl rfl ?_
          refine g_l dX12_tower_49 rfl rfl ?_
          refine g_iald dX12_tower_50 h261 (by omega) (by decide) rfl ?_
          refine g_iast dX12_tower_51 h250 (by omega) (by decide) p250 rfl ?_
          refine g_l dX12_tower_52 rfl rfl ?_
          refine g_getf dX12_tower_53 h248 f_12_20 rfl rfl ?_
          refine g_l dX12_tower_56 rfl rfl ?_
          refine g_l dX12_tower_57 rfl rfl ?_
          refine g_getf dX12_tower_58 h248 f_12_53 rfl rfl ?_
          refine g_l dX12_tower_61 rfl rfl ?_
          refine g_iald dX12_tower_62 h262 (by omega) (by decide) rfl ?_
          refine g_iast dX12_tower_63 h251 (by omega) (by decide) p251 rfl ?_
          refine g_l dX12_tower_64 rfl rfl ?_
          refine g_getf dX12_tower_65 h248 f_12_23 rfl rfl ?_
          refine g_l dX12_tower_68 rfl rfl ?_
          refine g_iconst dX12_tower_69 rfl ?_
          refine g_iast dX12_tower_70 h252 (by omega) (by decide) p252 rfl ?_
          refine g_iinc (loc' := [some _, some _]) dX12_tower_71 rfl rfl rfl ?_
          refine g_goto (t := 35) dX12_tower_74 (by decide) ?_
          simp only [wS_o (show (14 : Nat) ≠ 2 by decide), w13, w14]
          refine ih (i + 1) _ (by omega) (by omega) (by omega) (fun c y1 y2 y3 => by rw [wS_o y3, wS_o y2, wS_o y1]; exact f1 c y1 y2 y3) (fun k y1 y2 => ?_)
          rw [wS_o (show (2 : Nat) ≠ 4 by decide), wS_o (show (2 : Nat) ≠ 3 by decide), wS_s, wS_o (show (3 : Nat) ≠ 4 by decide), wS_s, wS_s, wS_o (show (3 : Nat) ≠ 2 by decide), wS_o (show (4 : Nat) ≠ 3 by decide), wS_o (show (4 : Nat) ≠ 2 by decide)]
          by_cases e : k = i
          · rw [if_pos e, if_pos e, if_pos e, e]; exact ⟨rfl, rfl, rfl⟩
          · rw [if_neg e, if_neg e, if_neg e]; exact f2 k y1 (by omega)
      exact loop 5 0 M3 (by decide) (by decide) rfl (fun _ _ _ _ => rfl) (fun k y1 y2 => by omega)
    · refine g_bipush dX12_tower_14 (by decide) rfl ?_
      refine g_retI dX12_tower_16 rfl rfl ?_
      exact h2 c_11 M2 (h1.q.tr a.q)
end RL
