/-! the reference: pots read; the tower read -/
theorem ptL_s {len a : Int} {by' : Int → Int} {m : Nat} {i : Int} {R : Nat → Int → Int} : ptL len by' a (m + 1) i R = if dgF len by' (a + 1 + i) < leD R (R 3 4).toNat i ∨ moD R i < dgF len by' (a + 1 + i) then (a + 1 + i, R) else ptL len by' a m (i + 1) (wS R (7 + (R 3 4).toNat) i (dgF len by' (a + 1 + i))) := rfl
section RK
variable {S : Nat → Int → Int} {Tw : Nat → Nat → Int → Int} {M : Nat → Int → Int} {P : Nat → Nat} {d : Nat} {Q : Option Value → GH → Prop}
set_option maxHeartbeats 4000000 in
theorem s_X12_readPot {len a : Int} {by' : Int → Int} {R : Nat → Int → Int} (hx : xOk len by') (hr : rOk R) (h : rdR len by' R M (a + 1)) (h0 : 0 ≤ a ∧ a < len) (hlt : R 3 4 < 5)
    (q1 : (ptL len by' a 6 0 R).1 = -9 → ∀ M', rtFr M M' → rdR len by' (ptL len by' a 6 0 R).2 M' (a + 7) → Q (some (.int (iI 1))) (hO S Tw M' P)) (q0 : (ptL len by' a 6 0 R).1 ≠ -9 → ∀ M', rtFr M M' → M' 0 3 = (ptL len by' a 6 0 R).1 → Q (some (.int (iI 0))) (hO S Tw M' P)) : CallD (d + 3) 123 [.ref 248] (hO S Tw M P) Q := by
  obtain ⟨r1, r2, r3, r4, r5⟩ := hr
  obtain ⟨t, g3, g18, g19, g20, g6, g13, g15⟩ := h
  have hx2 := hx.2.1
  have e6 := ptL_s (len := len) (a := a) (by' := by') (m := 5) (i := 0) (R := R)
  generalize hT : ptL len by' a 6 0 R = T at q1 q0 e6
  obtain ⟨p, hp⟩ : ∃ p, p = (R 3 4).toNat := ⟨_, rfl⟩
  rw [← hp] at e6
  have hp5 : p < 5 := by omega
  refine g_enter (loc := [some _, _, _, _, _, _, _, _]) e_X12_readPot i_X12_readPot (Nat.le_of_ble_eq_true rfl) rfl ?_
  have f6 : ∀ (M' : Nat → Int → Int) (v1 v2 v3 v4 v5 : Int), plFr M M' T.1 → T.1 ≠ -9 → G none (d + 2) 12 false (some .boolean) 0 0 (hO S Tw M P).length cX12_readPot Q 0 109 [some (.ref 248), some (.int (iI v1)), some (.int (iI v2)), some (.int (iI v3)), some (.int (iI v4)), some (.int (iI v5)), none, none] [.int (iI (-9))] (hO S Tw M' P) := by
    intro M' v1 v2 v3 v4 v5 y1 y2
    refine g_l (loc' := [some _, some _, some _, some _, some _, some _, some _, _]) dX12_readPot_109 rfl rfl ?_
    refine g_l dX12_readPot_111 rfl rfl ?_
    refine g_bipush dX12_readPot_113 (by decide) rfl ?_
    refine g_icmp_ne (t := 120) dX12_readPot_115 (by decide) rfl (by omega) (by omega) (fun c_115 => False.elim (by omega)) (fun c_115 => ?_)
    refine g_iconst dX12_readPot_118 rfl ?_
    refine g_retZ dX12_readPot_119 rfl rfl (by omega) ?_
    exact q0 y2 M' y1.r y1.2.2
  have f5 : ∀ (M' : Nat → Int → Int) (v1 v2 v3 v4 : Int), plFr M M' T.1 → T.1 ≠ -9 → G none (d + 2) 12 false (some .boolean) 0 0 (hO S Tw M P).length cX12_readPot Q 0 88 [some (.ref 248), some (.int (iI v1)), some (.int (iI v2)), some (.int (iI v3)), some (.int (iI v4)), none, none, none] [.int (iI (-9))] (hO S Tw M' P) := by
    intro M' v1 v2 v3 v4 y1 y2
    refine g_l (loc' := [some _, some _, some _, some _, some _, some _, _, _]) dX12_readPot_88 rfl rfl ?_
    refine g_l dX12_readPot_90 rfl rfl ?_
    refine g_bipush dX12_readPot_92 (by decide) rfl ?_
    refine g_icmp_ne (t := 102) dX12_readPot_94 (by decide) rfl (by omega) (by omega) (fun c_94 => False.elim (by omega)) (fun c_94 => ?_)
    refine g_bipush dX12_readPot_97 (by decide) rfl ?_
    refine g_goto (t := 109) dX12_readPot_99 (by decide) ?_
    exact f6 M' _ _ _ _ _ y1 y2
  have f4 : ∀ (M' : Nat → Int → Int) (v1 v2 v3 : Int), plFr M M' T.1 → T.1 ≠ -9 → G none (d + 2) 12 false (some .boolean) 0 0 (hO S Tw M P).length cX12_readPot Q 0 67 [some (.ref 248), some (.int (iI v1)), some (.int (iI v2)), some (.int (iI v3)), none, none, none, none] [.int (iI (-9))] (hO S Tw M' P) := by
    intro M' v1 v2 v3 y1 y2
    refine g_l (loc' := [some _, some _, some _, some _, some _, _, _, _]) dX12_readPot_67 rfl rfl ?_
    refine g_l dX12_readPot_69 rfl rfl ?_
    refine g_bipush dX12_readPot_71 (by decide) rfl ?_
    refine g_icmp_ne (t := 81) dX12_readPot_73 (by decide) rfl (by omega) (by omega) (fun c_73 => False.elim (by omega)) (fun c_73 => ?_)
    refine g_bipush dX12_readPot_76 (by decide) rfl ?_
    refine g_goto (t := 88) dX12_readPot_78 (by decide) ?_
    exact f5 M' _ _ _ _ y1 y2
  have f3 : ∀ (M' : Nat → Int → Int) (v1 v2 : Int), plFr M M' T.1 → T.1 ≠ -9 → G none (d + 2) 12 false (some .boolean) 0 0 (hO S Tw M P).length cX12_readPot Q 0 48 [some (.ref 248), some (.int (iI v1)), some (.int (iI v2)), none, none, none, none, none] [.int (iI (-9))] (hO S Tw M' P) := by
    intro M' v1 v2 y1 y2
    refine g_l (loc' := [some _, some _, some _, some _, _, _, _, _]) dX12_readPot_48 rfl rfl ?_
    refine g_l dX12_readPot_49 rfl rfl ?_
    refine g_bipush dX12_readPot_50 (by decide) rfl ?_
    refine g_icmp_ne (t := 60) dX12_readPot_52 (by decide) rfl (by omega) (by omega) (fun c_52 => False.elim (by omega)) (fun c_52 => ?_)
    refine g_bipush dX12_readPot_55 (by decide) rfl ?_
    refine g_goto (t := 67) dX12_readPot_57 (by decide) ?_
    exact f4 M' _ _ _ y1 y2
  have f2 : ∀ (M' : Nat → Int → Int) (v1 : Int), plFr M M' T.1 → T.1 ≠ -9 → G none (d + 2) 12 false (some .boolean) 0 0 (hO S Tw M P).length cX12_readPot Q 0 29 [some (.ref 248), some (.int (iI v1)), none, none, none, none, none, none] [.int (iI (-9))] (hO S Tw M' P) := by
    intro M' v1 y1 y2
    refine g_l (loc' := [some _, some _, some _, _, _, _, _, _]) dX12_readPot_29 rfl rfl ?_
    refine g_l dX12_readPot_30 rfl rfl ?_
    refine g_bipush dX12_readPot_31 (by decide) rfl ?_
    refine g_icmp_ne (t := 41) dX12_readPot_33 (by decide) rfl (by omega) (by omega) (fun c_33 => False.elim (by omega)) (fun c_33 => ?_)
    refine g_bipush dX12_readPot_36 (by decide) rfl ?_
    refine g_goto (t := 48) dX12_readPot_38 (by decide) ?_
    exact f3 M' _ _ y1 y2
  have f1 : ∀ (M' : Nat → Int → Int), plFr M M' T.1 → T.1 ≠ -9 → G none (d + 2) 12 false (some .boolean) 0 0 (hO S Tw M P).length cX12_readPot Q 0 11 [some (.ref 248), none, none, none, none, none, none, none] [.int (iI (-9))] (hO S Tw M' P) := by
    intro M' y1 y2
    refine g_l (loc' := [some _, some _, _, _, _, _, _, _]) dX12_readPot_11 rfl rfl ?_
    refine g_l dX12_readPot_12 rfl rfl ?_
    refine g_bipush dX12_readPot_13 (by decide) rfl ?_
    refine g_icmp_ne (t := 23) dX12_readPot_15 (by decide) rfl (by omega) (by omega) (fun c_15 => False.elim (by omega)) (fun c_15 => ?_)
    refine g_bipush dX12_readPot_18 (by decide) rfl ?_
    refine g_goto (t := 29) dX12_readPot_20 (by decide) ?_
    exact f2 M' _ y1 y2
  have pM : plFr M M (a + 1) := ⟨fun _ _ => rfl, fun _ _ => rfl, g3⟩
  have bad : ∀ (M' : Nat → Int → Int) (b : Int) (X : Nat → Int → Int), plFr M M' b → 0 ≤ b → T = (b, X) → plFr M M' T.1 ∧ T.1 ≠ -9 := by
    intro M' b X y1 y2 y3
    rw [y3]
    exact ⟨y1, by simp only []; omega⟩
  -- digit 0
  refine g_l dX12_readPot_0 rfl rfl ?_
  refine g_iconst dX12_readPot_1 rfl ?_
  refine g_l dX12_readPot_2 rfl rfl ?_
  refine g_getf dX12_readPot_3 h248 f_12_128 rfl rfl ?_
  rw [g18]
  refine g_iconst dX12_readPot_6 rfl ?_
  refine g_isub dX12_readPot_7 rfl ?_
  refine g_callV dX12_readPot_8 m_12_137 (n := 2) rfl h248 rfl (Nat.le_of_ble_eq_true rfl) (Nat.le_of_ble_eq_true rfl) rfl rfl ?_
  refine s_X12_figure (at' := a + 1) hx t g3 (by omega) (by decide) (by omega) (fun z => ?_) (fun w z => ?_)
  · rw [if_pos (by rcases z with z | z; exact Or.inl (by rw [Int.add_zero]; exact z); exact Or.inr (by rw [Int.add_zero]; show R 3 3 - 1 < _; omega)), Int.add_zero] at e6
    obtain ⟨y1, y2⟩ := bad M _ _ pM (by omega) e6
    simp only [Option.toList_some, Option.toList_none, List.cons_append, List.nil_append]
    exact f1 M y1 y2
  rw [if_neg (by rw [Int.add_zero]; intro q; rcases q with q | q; change _ < (0 : Int) at q; omega; change R 3 3 - 1 < _ at q; omega), Int.add_zero] at e6
  have hd0 := dgF_in hx (a + 1)
  generalize hv0 : dgF len by' (a + 1) = d0 at *
  have p1 : plFr M (wS M 0 3 (a + 1 + 1)) (a + 2) := by
    rw [show a + 1 + 1 = a + 2 by omega]
    exact pM.w
  generalize wS M 0 3 (a + 1 + 1) = M1 at p1 ⊢
  simp only [Option.toList_some, Option.toList_none, List.cons_append, List.nil_append]
  refine g_l (loc' := [some _, some _, _, _, _, _, _, _]) dX12_readPot_11 rfl rfl ?_
  refine g_l dX12_readPot_12 rfl rfl ?_
  refine g_bipush dX12_readPot_13 (by decide) rfl ?_
  refine g_icmp_ne (t := 23) dX12_readPot_15 (by decide) rfl (by omega) (by omega) (fun c_15 => ?_) (fun c_15 => False.elim (by omega))
  refine g_l dX12_readPot_23 rfl rfl ?_
  refine g_iconst dX12_readPot_24 rfl ?_
  refine g_iconst dX12_readPot_25 rfl ?_
  refine g_callV dX12_readPot_26 m_12_137 (n := 2) rfl h248 rfl (Nat.le_of_ble_eq_true rfl) (Nat.le_of_ble_eq_true rfl) rfl rfl ?_
  -- digit 1
  rw [show (0 : Int) + 1 = 1 from rfl, show (5 : Nat) = 4 + 1 from rfl, ptL_s, show a + 1 + 1 = a + 2 by omega] at e6
  refine s_X12_figure (at' := a + 2) hx (p1.t t) p1.2.2 (by omega) (by decide) (by decide) (fun z => ?_) (fun w1 z1 => ?_)
  · rw [if_pos (by rcases z with z | z; exact Or.inl z; exact Or.inr z)] at e6
    obtain ⟨y1, y2⟩ := bad M1 _ _ p1 (by omega) e6
    simp only [Option.toList_some, Option.toList_none, List.cons_append, List.nil_append]
    exact f2 M1 _ y1 y2
  rw [if_neg (by intro q; rcases q with q | q; change _ < (0 : Int) at q; omega; change (3 : Int) < _ at q; omega)] at e6
  have hd1 := dgF_in hx (a + 2)
  generalize hv1 : dgF len by' (a + 2) = d1 at *
  have p2 : plFr M (wS M1 0 3 (a + 2 + 1)) (a + 3) := by
    rw [show a + 2 + 1 = a + 3 by omega]
    exact p1.w
  generalize wS M1 0 3 (a + 2 + 1) = M2 at p2 ⊢
  have k34 : ∀ (X : Nat → Int → Int) (i v : Int), wS X (7 + p) i v 3 = X 3 := fun X i v => wS_o (by omega)
  rw [k34, ← hp] at e6
  simp only [Option.toList_some, Option.toList_none, List.cons_append, List.nil_append]
  refine g_l (loc' := [some _, some _, some _, _, _, _, _, _]) dX12_readPot_29 rfl rfl ?_
  refine g_l dX12_readPot_30 rfl rfl ?_
  refine g_bipush dX12_readPot_31 (by decide) rfl ?_
  refine g_icmp_ne (t := 41) dX12_readPot_33 (by decide) rfl (by omega) (by omega) (fun c_33 => ?_) (fun c_33 => False.elim (by omega))
  refine g_l dX12_readPot_41 rfl rfl ?_
  refine g_iconst dX12_readPot_42 rfl ?_
  refine g_bipush dX12_readPot_43 (by decide) rfl ?_
  refine g_callV dX12_readPot_45 m_12_137 (n := 2) rfl h248 rfl (Nat.le_of_ble_eq_true rfl) (Nat.le_of_ble_eq_true rfl) rfl rfl ?_
  -- digit 2
  rw [show (1 : Int) + 1 = 2 from rfl, show (4 : Nat) = 3 + 1 from rfl, ptL_s, show a + 1 + 2 = a + 3 by omega] at e6
  refine s_X12_figure (at' := a + 3) hx (p2.t t) p2.2.2 (by omega) (by decide) (by decide) (fun z => ?_) (fun w2 z2 => ?_)
  · rw [if_pos (by rcases z with z | z; exact Or.inl z; exact Or.inr z)] at e6
    obtain ⟨y1, y2⟩ := bad M2 _ _ p2 (by omega) e6
    simp only [Option.toList_some, Option.toList_none, List.cons_append, List.nil_append]
    exact f3 M2 _ _ y1 y2
  rw [if_neg (by intro q; rcases q with q | q; change _ < (0 : Int) at q; omega; change (9 : Int) < _ at q; omega)] at e6
  have hd2 := dgF_in hx (a + 3)
  generalize hv2 : dgF len by' (a + 3) = d2 at *
  have p3 : plFr M (wS M2 0 3 (a + 3 + 1)) (a + 4) := by
    rw [show a + 3 + 1 = a + 4 by omega]
    exact p2.w
  generalize wS M2 0 3 (a + 3 + 1) = M3 at p3 ⊢
  rw [k34, k34, ← hp] at e6
  simp only [Option.toList_some, Option.toList_none, List.cons_append, List.nil_append]
  refine g_l (loc' := [some _, some _, some _, some _, _, _, _, _]) dX12_readPot_48 rfl rfl ?_
  refine g_l dX12_readPot_49 rfl rfl ?_
  refine g_bipush dX12_readPot_50 (by decide) rfl ?_
  refine g_icmp_ne (t := 60) dX12_readPot_52 (by decide) rfl (by omega) (by omega) (fun c_52 => ?_) (fun c_52 => False.elim (by omega))
  refine g_l dX12_readPot_60 rfl rfl ?_
  refine g_l dX12_readPot_61 rfl rfl ?_
  refine g_bipush dX12_readPot_62 (by decide) rfl ?_
  refine g_callV dX12_readPot_64 m_12_137 (n := 2) rfl h248 rfl (Nat.le_of_ble_eq_true rfl) (Nat.le_of_ble_eq_true rfl) rfl rfl ?_
  -- digit 3
  rw [show (2 : Int) + 1 = 3 from rfl, show (3 : Nat) = 2 + 1 from rfl, ptL_s, show a + 1 + 3 = a + 4 by omega] at e6
  have le3 : leD (wS (wS (wS R (7 + p) 0 d0) (7 + p) 1 d1) (7 + p) 2 d2) p 3 = d2 := by
    show wS (wS (wS R (7 + p) 0 d0) (7 + p) 1 d1) (7 + p) 2 d2 (7 + p) 2 = d2
    rw [wS_e]
  rw [k34, k34, k34, ← hp, le3] at e6
  refine s_X12_figure (at' := a + 4) hx (p3.t t) p3.2.2 (by omega) (by omega) (by decide) (fun z => ?_) (fun w3 z3 => ?_)
  · rw [if_pos (by rcases z with z | z; exact Or.inl z; exact Or.inr z)] at e6
    obtain ⟨y1, y2⟩ := bad M3 _ _ p3 (by omega) e6
    simp only [Option.toList_some, Option.toList_none, List.cons_append, List.nil_append]
    exact f4 M3 _ _ _ y1 y2
  rw [if_neg (by intro q; rcases q with q | q; omega; change (9 : Int) < _ at q; omega)] at e6
  have hd3 := dgF_in hx (a + 4)
  generalize hv3 : dgF len by' (a + 4) = d3 at *
  have p4 : plFr M (wS M3 0 3 (a + 4 + 1)) (a + 5) := by
    rw [show a + 4 + 1 = a + 5 by omega]
    exact p3.w
  generalize wS M3 0 3 (a + 4 + 1) = M4 at p4 ⊢
  simp only [Option.toList_some, Option.toList_none, List.cons_append, List.nil_append]
  refine g_l (loc' := [some _, some _, some _, some _, some _, _, _, _]) dX12_readPot_67 rfl rfl ?_
  refine g_l dX12_readPot_69 rfl rfl ?_
  refine g_bipush dX12_readPot_71 (by decide) rfl ?_
  refine g_icmp_ne (t := 81) dX12_readPot_73 (by decide) rfl (by omega) (by omega) (fun c_73 => ?_) (fun c_73 => False.elim (by omega))
  refine g_l dX12_readPot_81 rfl rfl ?_
  refine g_iconst dX12_readPot_82 rfl ?_
  refine g_bipush dX12_readPot_83 (by decide) rfl ?_
  refine g_callV dX12_readPot_85 m_12_137 (n := 2) rfl h248 rfl (Nat.le_of_ble_eq_true rfl) (Nat.le_of_ble_eq_true rfl) rfl rfl ?_
  -- digit 4
  rw [show (3 : Int) + 1 = 4 from rfl, show (2 : Nat) = 1 + 1 from rfl, ptL_s, show a + 1 + 4 = a + 5 by omega] at e6
  rw [k34, k34, k34, k34, ← hp] at e6
  refine s_X12_figure (at' := a + 5) hx (p4.t t) p4.2.2 (by omega) (by decide) (by decide) (fun z => ?_) (fun w4 z4 => ?_)
  · rw [if_pos (by rcases z with z | z; exact Or.inl z; exact Or.inr z)] at e6
    obtain ⟨y1, y2⟩ := bad M4 _ _ p4 (by omega) e6
    simp only [Option.toList_some, Option.toList_none, List.cons_append, List.nil_append]
    exact f5 M4 _ _ _ _ y1 y2
  rw [if_neg (by intro q; rcases q with q | q; change _ < (1 : Int) at q; omega; change (9 : Int) < _ at q; omega)] at e6
  have hd4 := dgF_in hx (a + 5)
  generalize hv4 : dgF len by' (a + 5) = d4 at *
  have p5 : plFr M (wS M4 0 3 (a + 5 + 1)) (a + 6) := by
    rw [show a + 5 + 1 = a + 6 by omega]
    exact p4.w
  generalize wS M4 0 3 (a + 5 + 1) = M5 at p5 ⊢
  simp only [Option.toList_some, Option.toList_none, List.cons_append, List.nil_append]
  refine g_l (loc' := [some _, some _, some _, some _, some _, some _, _, _]) dX12_readPot_88 rfl rfl ?_
  refine g_l dX12_readPot_90 rfl rfl ?_
  refine g_bipush dX12_readPot_92 (by decide) rfl ?_
  refine g_icmp_ne (t := 102) dX12_readPot_94 (by decide) rfl (by omega) (by omega) (fun c_94 => ?_) (fun c_94 => False.elim (by omega))
  refine g_l dX12_readPot_102 rfl rfl ?_
  refine g_iconst dX12_readPot_103 rfl ?_
  refine g_bipush dX12_readPot_104 (by decide) rfl ?_
  refine g_callV dX12_readPot_106 m_12_137 (n := 2) rfl h248 rfl (Nat.le_of_ble_eq_true rfl) (Nat.le_of_ble_eq_true rfl) rfl rfl ?_
  -- digit 5
  rw [show (4 : Int) + 1 = 5 from rfl, show (1 : Nat) = 0 + 1 from rfl, ptL_s, show a + 1 + 5 = a + 6 by omega] at e6
  rw [k34, k34, k34, k34, k34] at e6
  rw [show (R 3 4).toNat = p from hp.symm] at e6
  refine s_X12_figure (at' := a + 6) hx (p5.t t) p5.2.2 (by omega) (by decide) (by decide) (fun z => ?_) (fun w5 z5 => ?_)
  · rw [if_pos (by rcases z with z | z; exact Or.inl z; exact Or.inr z)] at e6
    obtain ⟨y1, y2⟩ := bad M5 _ _ p5 (by omega) e6
    simp only [Option.toList_some, Option.toList_none, List.cons_append, List.nil_append]
    exact f6 M5 _ _ _ _ _ y1 y2
  rw [if_neg (by intro q; rcases q with q | q; change _ < (1 : Int) at q; omega; change (9 : Int) < _ at q; omega)] at e6
  have hd5 := dgF_in hx (a + 6)
  generalize hv5 : dgF len by' (a + 6) = d5 at *
  have p6 : plFr M (wS M5 0 3 (a + 6 + 1)) (a + 7) := by
    rw [show a + 6 + 1 = a + 7 by omega]
    exact p5.w
  generalize wS M5 0 3 (a + 6 + 1) = M6 at p6 ⊢
  have e7 : T = (-9, wS (wS (wS (wS (wS (wS (wS R (7 + p) 0 d0) (7 + p) 1 d1) (7 + p) 2 d2) (7 + p) 3 d3) (7 + p) 4 d4) (7 + p) 5 d5) 3 4 (R 3 4 + 1)) := by
    rw [e6]
    show (-9, wS _ 3 4 (_ + 1)) = _
    rw [k34, k34, k34, k34, k34, k34]
  rw [e7] at q1
  have q2 := q1 rfl
  change ∀ M', rtFr M M' → rdR len by' (wS (wS (wS (wS (wS (wS (wS R (7 + p) 0 d0) (7 + p) 1 d1) (7 + p) 2 d2) (7 + p) 3 d3) (7 + p) 4 d4) (7 + p) 5 d5) 3 4 (R 3 4 + 1)) M' (a + 7) → _ at q2
  have e19 : M6 0 19 = (p : Int) := by rw [p6.2.1 19 (by decide), g19]; omega
  have ep : R 3 4 = (p : Int) := by omega
  have t0 : ∀ (X : Nat → Int → Int) (i v : Int), wS X 15 i v 0 = X 0 := fun X i v => wS_o (by decide)
  simp only [Option.toList_some, Option.toList_none, List.cons_append, List.nil_append]
  refine g_l (loc' := [some _, some _, some _, some _, some _, some _, some _, _]) dX12_readPot_109 rfl rfl ?_
  refine g_l dX12_readPot_111 rfl rfl ?_
  refine g_bipush dX12_readPot_113 (by decide) rfl ?_
  refine g_icmp_ne (t := 120) dX12_readPot_115 (by decide) rfl (by omega) (by omega) (fun c_115 => ?_) (fun c_115 => False.elim (by omega))
  refine g_bipush dX12_readPot_120 (by decide) rfl ?_
  refine g_l dX12_readPot_122 rfl rfl ?_
  refine g_getf dX12_readPot_123 h248 f_12_141 rfl rfl ?_
  rw [e19]
  refine g_imul dX12_readPot_126 rfl ?_
  refine g_l (loc' := [some _, some _, some _, some _, some _, some _, some _, some _]) dX12_readPot_127 rfl rfl ?_
  refine g_l dX12_readPot_129 rfl rfl ?_
  refine g_getf dX12_readPot_130 h248 f_12_56 rfl rfl ?_
  refine g_l dX12_readPot_133 rfl rfl ?_
  refine g_l dX12_readPot_135 rfl rfl ?_
  refine g_iast dX12_readPot_136 h263 (by omega) (by decide) p263 rfl ?_
  refine g_l dX12_readPot_137 rfl rfl ?_
  refine g_getf dX12_readPot_138 h248 f_12_56 rfl rfl ?_
  refine g_l dX12_readPot_141 rfl rfl ?_
  refine g_iconst dX12_readPot_143 rfl ?_
  refine g_iadd dX12_readPot_144 rfl ?_
  refine g_l dX12_readPot_145 rfl rfl ?_
  refine g_iast dX12_readPot_146 h263 (by omega) (by decide) p263 rfl ?_
  refine g_l dX12_readPot_147 rfl rfl ?_
  refine g_getf dX12_readPot_148 h248 f_12_56 rfl rfl ?_
  refine g_l dX12_readPot_151 rfl rfl ?_
  refine g_iconst dX12_readPot_153 rfl ?_
  refine g_iadd dX12_readPot_154 rfl ?_
  refine g_l dX12_readPot_155 rfl rfl ?_
  refine g_iast dX12_readPot_156 h263 (by omega) (by decide) p263 rfl ?_
  refine g_l dX12_readPot_157 rfl rfl ?_
  refine g_getf dX12_readPot_158 h248 f_12_56 rfl rfl ?_
  refine g_l dX12_readPot_161 rfl rfl ?_
  refine g_iconst dX12_readPot_163 rfl ?_
  refine g_iadd dX12_readPot_164 rfl ?_
  refine g_l dX12_readPot_165 rfl rfl ?_
  refine g_iast dX12_readPot_167 h263 (by omega) (by decide) p263 rfl ?_
  refine g_l dX12_readPot_168 rfl rfl ?_
  refine g_getf dX12_readPot_169 h248 f_12_56 rfl rfl ?_
  refine g_l dX12_readPot_172 rfl rfl ?_
  refine g_iconst dX12_readPot_174 rfl ?_
  refine g_iadd dX12_readPot_175 rfl ?_
  refine g_l dX12_readPot_176 rfl rfl ?_
  refine g_iast dX12_readPot_178 h263 (by omega) (by decide) p263 rfl ?_
  refine g_l dX12_readPot_179 rfl rfl ?_
  refine g_getf dX12_readPot_180 h248 f_12_56 rfl rfl ?_
  refine g_l dX12_readPot_183 rfl rfl ?_
  refine g_iconst dX12_readPot_185 rfl ?_
  refine g_iadd dX12_readPot_186 rfl ?_
  refine g_l dX12_readPot_187 rfl rfl ?_
  refine g_iast dX12_readPot_189 h263 (by omega) (by decide) p263 rfl ?_
  refine g_l dX12_readPot_190 rfl rfl ?_
  refine g_s dX12_readPot_191 rfl rfl rfl ?_
  refine g_getf dX12_readPot_192 h248 f_12_141 rfl rfl ?_
  rw [t0, t0, t0, t0, t0, t0, e19]
  refine g_iconst dX12_readPot_195 rfl ?_
  refine g_iadd dX12_readPot_196 rfl ?_
  refine g_putf dX12_readPot_197 h248 f_12_141 (Nat.le_of_ble_eq_true rfl) rfl rfl p248_19 rfl ?_
  refine g_iconst dX12_readPot_200 rfl ?_
  refine g_retZ dX12_readPot_201 rfl rfl (by omega) ?_
  clear f1 f2 f3 f4 f5 f6 bad q0 q1
  refine q2 _ ⟨fun c y1 y2 y3 y4 => ?_, fun j y1 y2 y3 y4 => ?_⟩ ⟨⟨?_, fun j y1 y2 => ?_⟩, ?_, ?_, ?_, ?_, ?_, fun k y1 y2 => ?_, fun p' y1 j y2 y3 => ?_⟩
  · rw [wS_o y1, wS_o y4, wS_o y4, wS_o y4, wS_o y4, wS_o y4, wS_o y4]; exact p6.1 c y1
  · rw [wS_s, if_neg y3, t0, t0, t0, t0, t0, t0]; exact p6.2.1 j y1
  · rw [wS_s, if_neg (by decide), t0, t0, t0, t0, t0, t0, p6.2.1 2 (by decide)]; exact t.1
  · rw [wS_o (by decide), wS_o (by decide), wS_o (by decide), wS_o (by decide), wS_o (by decide), wS_o (by decide), wS_o (by decide), p6.1 1 (by decide)]; exact t.2 j y1 y2
  · rw [wS_s, if_neg (by decide), t0, t0, t0, t0, t0, t0, p6.2.2]
  · rw [wS_s, if_neg (by decide), t0, t0, t0, t0, t0, t0, p6.2.1 18 (by decide), g18, wS_s, if_neg (by decide), k34, k34, k34, k34, k34, k34]
  · rw [wS_e, wS_e, ep]
  · rw [wS_s, if_neg (by decide), t0, t0, t0, t0, t0, t0, p6.2.1 20 (by decide), g20, wS_s, if_neg (by decide), k34, k34, k34, k34, k34, k34]
    refine setF_congr (fun j w1 w2 => ?_)
    rw [wS_o (by decide), wS_o (by omega), wS_o (by omega), wS_o (by omega), wS_o (by omega), wS_o (by omega), wS_o (by omega)]
  · rw [wS_s, if_neg (by decide), k34, k34, k34, k34, k34, k34, g6, wS_s, if_neg (by decide), k34, k34, k34, k34, k34, k34]
    refine cntF_congr (fun j w1 w2 => ?_)
    rw [wS_o (by decide), wS_o (by omega), wS_o (by omega), wS_o (by omega), wS_o (by omega), wS_o (by omega), wS_o (by omega)]
  · have o1 : ∀ c : Nat, c = 4 ∨ c = 5 → ∀ X : Nat → Int → Int, ∀ i v : Int, wS X (7 + p) i v c = X c := fun c hc X i v => wS_o (by omega)
    rw [wS_o (show (13 : Nat) ≠ 0 by decide), wS_o (show (13 : Nat) ≠ 15 by decide), wS_o (show (13 : Nat) ≠ 15 by decide), wS_o (show (13 : Nat) ≠ 15 by decide), wS_o (show (13 : Nat) ≠ 15 by decide), wS_o (show (13 : Nat) ≠ 15 by decide), wS_o (show (13 : Nat) ≠ 15 by decide), wS_o (show (14 : Nat) ≠ 0 by decide), wS_o (show (14 : Nat) ≠ 15 by decide), wS_o (show (14 : Nat) ≠ 15 by decide), wS_o (show (14 : Nat) ≠ 15 by decide), wS_o (show (14 : Nat) ≠ 15 by decide), wS_o (show (14 : Nat) ≠ 15 by decide), wS_o (show (14 : Nat) ≠ 15 by decide), p6.1 13 (by decide), p6.1 14 (by decide), wS_o (show (4 : Nat) ≠ 3 by decide), wS_o (show (5 : Nat) ≠ 3 by decide), o1 4 (by decide), o1 4 (by decide), o1 4 (by decide), o1 4 (by decide), o1 4 (by decide), o1 4 (by decide), o1 5 (by decide), o1 5 (by decide), o1 5 (by decide), o1 5 (by decide), o1 5 (by decide), o1 5 (by decide)]
    exact g13 k y1 y2
  · rw [wS_e, ep] at y1
    rw [wS_o (show (15 : Nat) ≠ 0 by decide), wS_o (show 7 + p' ≠ 3 by omega)]
    by_cases e : p' = p
    · subst e
      simp only [wS_s]
      rcases (show j = 0 ∨ j = 1 ∨ j = 2 ∨ j = 3 ∨ j = 4 ∨ j = 5 by omega) with e | e | e | e | e | e
      · subst e
        rw [if_neg (by omega), if_neg (by omega), if_neg (by omega), if_neg (by omega), if_neg (by omega), if_pos (by omega), if_neg (by decide), if_neg (by decide), if_neg (by decide), if_neg (by decide), if_neg (by decide), if_pos rfl]
      · subst e
        rw [if_neg (by omega), if_neg (by omega), if_neg (by omega), if_neg (by omega), if_pos (by omega), if_neg (by decide), if_neg (by decide), if_neg (by decide), if_neg (by decide), if_pos rfl]
      · subst e
        rw [if_neg (by omega), if_neg (by omega), if_neg (by omega), if_pos (by omega), if_neg (by decide), if_neg (by decide), if_neg (by decide), if_pos rfl]
      · subst e
        rw [if_neg (by omega), if_neg (by omega), if_pos (by omega), if_neg (by decide), if_neg (by decide), if_pos rfl]
      · subst e
        rw [if_neg (by omega), if_pos (by omega), if_neg (by decide), if_pos rfl]
      · subst e
        rw [if_pos (by omega), if_pos rfl]
    · rw [wS_s, if_neg (by omega), wS_s, if_neg (by omega), wS_s, if_neg (by omega), wS_s, if_neg (by omega), wS_s, if_neg (by omega), wS_s, if_neg (by omega), p6.1 15 (by decide), wS_o (by omega), wS_o (by omega), wS_o (by omega), wS_o (by omega), wS_o (by omega), wS_o (by omega)]
      exact g15 p' (by omega) j y2 y3
end RK
