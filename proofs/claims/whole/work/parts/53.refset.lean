/-! the reference: what is read, what is set -/
/-- but for what was thrown, nothing changes -/
def thP (M M1 : Nat → Int → Int) : Prop := (∀ c, c ≠ 0 → M1 c = M c) ∧ ∀ j, j ≠ 0 → M1 0 j = M 0 j
theorem thP_w {M : Nat → Int → Int} : thP M (wS M 0 0 0) := ⟨fun c hc => wS_o hc, fun j hj => by rw [wS_s, if_neg hj]⟩
section RD
variable {S : Nat → Int → Int} {Tw : Nat → Nat → Int → Int} {M : Nat → Int → Int} {P : Nat → Nat} {d : Nat} {Q : Option Value → GH → Prop}
theorem s_X12_about {x : Int} (hx : R32 x) (hp : 0 ≤ M 0 5 ∧ M 0 5 ≤ 5) (ht : 2 ≤ M 0 4 ∧ M 0 4 ≤ 5) (hr : ∀ i, 0 ≤ i → i < M 0 5 → R32 (M 12 i))
    (a0 : x = 0 → ∀ M1, thP M M1 → Q (some (.int (iI (M 0 4)))) (hO S Tw M1 P)) (a1 : x = 1 → ∀ M1, thP M M1 → Q (some (.int (iI (M 0 5)))) (hO S Tw M1 P)) (a2 : x = 2 → ∀ M1, thP M M1 → Q (some (.int (iI (M 0 25)))) (hO S Tw M1 P)) (a3 : x = 3 → ∀ M1, thP M M1 → Q (some (.int (iI (sumF (M 4) (M 0 4).toNat)))) (hO S Tw M1 P)) (a4 : x = 4 → ∀ M1, thP M M1 → Q (some (.int (iI (M 0 17)))) (hO S Tw M1 P)) (a5 : x = 5 → ∀ M1, thP M M1 → Q (some (.int (iI (cntF (fun i => M 12 i = 1) (M 0 5).toNat)))) (hO S Tw M1 P)) (a6 : x = 6 → ∀ M1, thP M M1 → Q (some (.int (iI (cntF (fun i => M 12 i = 2) (M 0 5).toNat)))) (hO S Tw M1 P)) (a7 : x = 7 → ∀ M1, thP M M1 → Q (some (.int (iI (cntF (fun i => M 12 i = 3) (M 0 5).toNat)))) (hO S Tw M1 P)) (a8 : x = 8 → ∀ M1, thP M M1 → Q (some (.int (iI (M 0 35)))) (hO S Tw M1 P)) (a9 : x = 9 → ∀ M1, thP M M1 → Q (some (.int (iI (M 0 2)))) (hO S Tw M1 P)) (az : ¬ (0 ≤ x ∧ x ≤ 9) → ∀ M1, thP M M1 → Q (some (.int (iI (-2)))) (hO S Tw M1 P)) : CallD (d + 2) 130 [.ref 248, .int (iI x)] (hO S Tw M P) Q := by
  refine g_enter (loc := [some _, some _]) e_X12_about i_X12_about (Nat.le_of_ble_eq_true rfl) rfl ?_
  refine g_l dX12_about_0 rfl rfl ?_
  refine g_iconst dX12_about_1 rfl ?_
  refine g_putf dX12_about_2 h248 f_12_108 (Nat.le_of_ble_eq_true rfl) rfl rfl p248_0 rfl ?_
  have h1 := thP_w (M := M)
  generalize wS M 0 0 0 = M1 at h1 ⊢
  obtain ⟨o1, z1⟩ := id h1
  have e4 : M1 4 = M 4 := o1 4 (by decide)
  have e12 : M1 12 = M 12 := o1 12 (by decide)
  have z4 : M1 0 4 = M 0 4 := z1 4 (by decide)
  have z5 : M1 0 5 = M 0 5 := z1 5 (by decide)
  rcases (show x = 0 ∨ x = 1 ∨ x = 2 ∨ x = 3 ∨ x = 4 ∨ x = 5 ∨ x = 6 ∨ x = 7 ∨ x = 8 ∨ x = 9 ∨ ¬ (0 ≤ x ∧ x ≤ 9) by omega) with c | c | c | c | c | c | c | c | c | c | c
  · refine g_l dX12_about_5 rfl rfl ?_
    refine g_tsw (t := 60) (off := 54) dX12_about_6 (by decide) (by omega) (sw_c (v := 0) (by omega) (by decide)) ?_
    refine g_l dX12_about_60 rfl rfl ?_
    refine g_getf dX12_about_61 h248 f_12_13 rfl rfl ?_
    refine g_retI dX12_about_64 rfl rfl ?_
    rw [z4]
    exact a0 c M1 h1
  · refine g_l dX12_about_5 rfl rfl ?_
    refine g_tsw (t := 65) (off := 59) dX12_about_6 (by decide) (by omega) (sw_c (v := 1) (by omega) (by decide)) ?_
    refine g_l dX12_about_65 rfl rfl ?_
    refine g_getf dX12_about_66 h248 f_12_115 rfl rfl ?_
    refine g_retI dX12_about_69 rfl rfl ?_
    rw [z5]
    exact a1 c M1 h1
  · refine g_l dX12_about_5 rfl rfl ?_
    refine g_tsw (t := 70) (off := 64) dX12_about_6 (by decide) (by omega) (sw_c (v := 2) (by omega) (by decide)) ?_
    refine g_l dX12_about_70 rfl rfl ?_
    refine g_getf dX12_about_71 h248 f_12_159 rfl rfl ?_
    refine g_retI dX12_about_74 rfl rfl ?_
    rw [z1 25 (by decide)]
    exact a2 c M1 h1
  · refine g_l dX12_about_5 rfl rfl ?_
    refine g_tsw (t := 75) (off := 69) dX12_about_6 (by decide) (by omega) (sw_c (v := 3) (by omega) (by decide)) ?_
    refine g_l dX12_about_75 rfl rfl ?_
    refine g_callV dX12_about_76 m_12_162 (n := 0) rfl h248 rfl (Nat.le_of_ble_eq_true rfl) (Nat.le_of_ble_eq_true rfl) rfl rfl ?_
    refine s_X12_allHeat (by omega) ?_
    simp only [Option.toList_some, Option.toList_none, List.cons_append, List.nil_append]
    rw [z4, e4]
    refine g_retI dX12_about_79 rfl rfl ?_
    exact a3 c M1 h1
  · refine g_l dX12_about_5 rfl rfl ?_
    refine g_tsw (t := 80) (off := 74) dX12_about_6 (by decide) (by omega) (sw_c (v := 4) (by omega) (by decide)) ?_
    refine g_l dX12_about_80 rfl rfl ?_
    refine g_getf dX12_about_81 h248 f_12_156 rfl rfl ?_
    refine g_retI dX12_about_84 rfl rfl ?_
    rw [z1 17 (by decide)]
    exact a4 c M1 h1
  · refine g_l dX12_about_5 rfl rfl ?_
    refine g_tsw (t := 85) (off := 79) dX12_about_6 (by decide) (by omega) (sw_c (v := 5) (by omega) (by decide)) ?_
    refine g_l dX12_about_85 rfl rfl ?_
    refine g_iconst dX12_about_86 rfl ?_
    refine g_callV dX12_about_87 m_12_165 (n := 1) rfl h248 rfl (Nat.le_of_ble_eq_true rfl) (Nat.le_of_ble_eq_true rfl) rfl rfl ?_
    refine s_X12_countHow (by decide) (by omega) (by rw [z5, e12]; exact hr) ?_
    simp only [Option.toList_some, Option.toList_none, List.cons_append, List.nil_append]
    rw [z5, e12]
    refine g_retI dX12_about_90 rfl rfl ?_
    exact a5 c M1 h1
  · refine g_l dX12_about_5 rfl rfl ?_
    refine g_tsw (t := 91) (off := 85) dX12_about_6 (by decide) (by omega) (sw_c (v := 6) (by omega) (by decide)) ?_
    refine g_l dX12_about_91 rfl rfl ?_
    refine g_iconst dX12_about_92 rfl ?_
    refine g_callV dX12_about_93 m_12_165 (n := 1) rfl h248 rfl (Nat.le_of_ble_eq_true rfl) (Nat.le_of_ble_eq_true rfl) rfl rfl ?_
    refine s_X12_countHow (by decide) (by omega) (by rw [z5, e12]; exact hr) ?_
    simp only [Option.toList_some, Option.toList_none, List.cons_append, List.nil_append]
    rw [z5, e12]
    refine g_retI dX12_about_96 rfl rfl ?_
    exact a6 c M1 h1
  · refine g_l dX12_about_5 rfl rfl ?_
    refine g_tsw (t := 97) (off := 91) dX12_about_6 (by decide) (by omega) (sw_c (v := 7) (by omega) (by decide)) ?_
    refine g_l dX12_about_97 rfl rfl ?_
    refine g_iconst dX12_about_98 rfl ?_
    refine g_callV dX12_about_99 m_12_165 (n := 1) rfl h248 rfl (Nat.le_of_ble_eq_true rfl) (Nat.le_of_ble_eq_true rfl) rfl rfl ?_
    refine s_X12_countHow (by decide) (by omega) (by rw [z5, e12]; exact hr) ?_
    simp only [Option.toList_some, Option.toList_none, List.cons_append, List.nil_append]
    rw [z5, e12]
    refine g_retI dX12_about_102 rfl rfl ?_
    exact a7 c M1 h1
  · refine g_l dX12_about_5 rfl rfl ?_
    refine g_tsw (t := 103) (off := 97) dX12_about_6 (by decide) (by omega) (sw_c (v := 8) (by omega) (by decide)) ?_
    refine g_l dX12_about_103 rfl rfl ?_
    refine g_getf dX12_about_104 h248 f_12_169 rfl rfl ?_
    refine g_retI dX12_about_107 rfl rfl ?_
    rw [z1 35 (by decide)]
    exact a8 c M1 h1
  · refine g_l dX12_about_5 rfl rfl ?_
    refine g_tsw (t := 108) (off := 102) dX12_about_6 (by decide) (by omega) (sw_c (v := 9) (by omega) (by decide)) ?_
    refine g_l dX12_about_108 rfl rfl ?_
    refine g_getf dX12_about_109 h248 f_12_122 rfl rfl ?_
    refine g_retI dX12_about_112 rfl rfl ?_
    rw [z1 2 (by decide)]
    exact a9 c M1 h1
  · refine g_l dX12_about_5 rfl rfl ?_
    refine g_tsw (t := 113) (off := 107) dX12_about_6 (by decide) (by omega) (if_pos (by omega)) ?_
    refine g_bipush dX12_about_113 (by decide) rfl ?_
    refine g_retI dX12_about_115 rfl rfl ?_
    exact az c M1 h1
theorem s_X12_kiln {k x : Int} (hk : R32 k) (hx : R32 x) (hp : 0 ≤ M 0 5 ∧ M 0 5 ≤ 5) (ht : 2 ≤ M 0 4 ∧ M 0 4 ≤ 5) (hr : ∀ i, 0 ≤ i → i < M 0 5 → R32 (M 5 i))
    (q1 : ¬ (0 ≤ k ∧ k < M 0 4) → ∀ M1, thP M M1 → Q (some (.int (iI (-1)))) (hO S Tw M1 P)) (a0 : 0 ≤ k ∧ k < M 0 4 → x = 0 → ∀ M1, thP M M1 → Q (some (.int (iI (M 4 k)))) (hO S Tw M1 P)) (a1 : 0 ≤ k ∧ k < M 0 4 → x = 1 → ∀ M1, thP M M1 → Q (some (.int (iI (M 2 k)))) (hO S Tw M1 P)) (a2 : 0 ≤ k ∧ k < M 0 4 → x = 2 → ∀ M1, thP M M1 → Q (some (.int (iI (M 3 k)))) (hO S Tw M1 P)) (a3 : 0 ≤ k ∧ k < M 0 4 → x = 3 → ∀ M1, thP M M1 → Q (some (.int (iI (setF (fun i => M 5 i = k) (M 0 5).toNat)))) (hO S Tw M1 P)) (az : 0 ≤ k ∧ k < M 0 4 → ¬ (0 ≤ x ∧ x ≤ 3) → ∀ M1, thP M M1 → Q (some (.int (iI (-2)))) (hO S Tw M1 P)) : CallD (d + 3) 131 [.ref 248, .int (iI k), .int (iI x)] (hO S Tw M P) Q := by
  refine g_enter (loc := [some _, some _, some _, _, _]) e_X12_kiln i_X12_kiln (Nat.le_of_ble_eq_true rfl) rfl ?_
  refine g_l dX12_kiln_0 rfl rfl ?_
  refine g_iconst dX12_kiln_1 rfl ?_
  refine g_putf dX12_kiln_2 h248 f_12_108 (Nat.le_of_ble_eq_true rfl) rfl rfl p248_0 rfl ?_
  have h1 := thP_w (M := M)
  generalize wS M 0 0 0 = M1 at h1 ⊢
  obtain ⟨o1, z1⟩ := id h1
  have z4 : M1 0 4 = M 0 4 := z1 4 (by decide)
  have z5 : M1 0 5 = M 0 5 := z1 5 (by decide)
  have e5 : M1 5 = M 5 := o1 5 (by decide)
  refine g_l dX12_kiln_5 rfl rfl ?_
  refine g_l dX12_kiln_6 rfl rfl ?_
  refine g_callV dX12_kiln_7 m_12_172 (n := 1) rfl h248 rfl (Nat.le_of_ble_eq_true rfl) (Nat.le_of_ble_eq_true rfl) rfl rfl ?_
  refine s_X12_noKiln hk (by omega) (fun z => ?_) (fun z => ?_)
  · simp only [Option.toList_some, Option.toList_none, List.cons_append, List.nil_append]
    refine g_if_eq (t := 15) dX12_kiln_10 (by decide) rfl (by omega) (fun c_10 => False.elim (by omega)) (fun c_10 => ?_)
    refine g_iconst dX12_kiln_13 rfl ?_
    refine g_retI dX12_kiln_14 rfl rfl ?_
    exact q1 (by omega) M1 h1
  · rw [z4] at z
    simp only [Option.toList_some, Option.toList_none, List.cons_append, List.nil_append]
    refine g_if_eq (t := 15) dX12_kiln_10 (by decide) rfl (by omega) (fun c_10 => ?_) (fun c_10 => False.elim (by omega))
    refine g_iconst dX12_kiln_15 rfl ?_
    refine g_l (loc' := [some _, some _, some _, some _, _]) dX12_kiln_16 rfl rfl ?_
    refine g_iconst dX12_kiln_17 rfl ?_
    refine g_l (loc' := [some _, some _, some _, some _, some _]) dX12_kiln_18 rfl rfl ?_
    have loop : ∀ (m : Nat) (i : Int), 0 ≤ i → i ≤ M 0 5 → (M 0 5 - i).toNat = m →
        G none (d + 2) 12 false (some .int) 0 0 (hO S Tw M P).length cX12_kiln Q 0 20 [some (.ref 248), some (.int (iI k)), some (.int (iI x)), some (.int (iI (setF (fun i => M 5 i = k) i.toNat))), some (.int (iI i))] [] (hO S Tw M1 P) := by
      intro m
      induction m with
      | zero =>
        intro i b1 b2 hm
        refine g_l dX12_kiln_20 rfl rfl ?_
        refine g_l dX12_kiln_22 rfl rfl ?_
        refine g_getf dX12_kiln_23 h248 f_12_115 rfl rfl ?_
        rw [z5]
        refine g_icmp_ge (t := 57) dX12_kiln_26 (by decide) rfl (by omega) (by omega) (fun c_26 => ?_) (fun c_26 => False.elim (by omega))
        rcases (show x = 0 ∨ x = 1 ∨ x = 2 ∨ x = 3 ∨ ¬ (0 ≤ x ∧ x ≤ 3) by omega) with c | c | c | c | c
        · refine g_l dX12_kiln_57 rfl rfl ?_
          refine g_if_ne (t := 70) dX12_kiln_58 (by decide) rfl (by omega) (fun c_58 => False.elim (by omega)) (fun c_58 => ?_)
          refine g_l dX12_kiln_61 rfl rfl ?_
          refine g_getf dX12_kiln_62 h248 f_12_23 rfl rfl ?_
          refine g_l dX12_kiln_65 rfl rfl ?_
          refine g_iald dX12_kiln_66 h252 (by omega) (by decide) rfl ?_
          rw [o1 4 (by decide)]
          refine g_goto (t := 109) dX12_kiln_67 (by decide) ?_
          refine g_retI dX12_kiln_109 rfl rfl ?_
          exact a0 z c M1 h1
        · refine g_l dX12_kiln_57 rfl rfl ?_
          refine g_if_ne (t := 70) dX12_kiln_58 (by decide) rfl (by omega) (fun c_58 => ?_) (fun c_58 => False.elim (by omega))
          refine g_l dX12_kiln_70 rfl rfl ?_
          refine g_iconst dX12_kiln_71 rfl ?_
          refine g_icmp_ne (t := 84) dX12_kiln_72 (by decide) rfl (by omega) (by omega) (fun c_72 => False.elim (by omega)) (fun c_72 => ?_)
          refine g_l dX12_kiln_75 rfl rfl ?_
          refine g_getf dX12_kiln_76 h248 f_12_17 rfl rfl ?_
          refine g_l dX12_kiln_79 rfl rfl ?_
          refine g_iald dX12_kiln_80 h250 (by omega) (by decide) rfl ?_
          rw [o1 2 (by decide)]
          refine g_goto (t := 109) dX12_kiln_81 (by decide) ?_
          refine g_retI dX12_kiln_109 rfl rfl ?_
          exact a1 z c M1 h1
        · refine g_l dX12_kiln_57 rfl rfl ?_
          refine g_if_ne (t := 70) dX12_kiln_58 (by decide) rfl (by omega) (fun c_58 => ?_) (fun c_58 => False.elim (by omega))
          refine g_l dX12_kiln_70 rfl rfl ?_
          refine g_iconst dX12_kiln_71 rfl ?_
          refine g_icmp_ne (t := 84) dX12_kiln_72 (by decide) rfl (by omega) (by omega) (fun c_72 => ?_) (fun c_72 => False.elim (by omega))
          refine g_l dX12_kiln_84 rfl rfl ?_
          refine g_iconst dX12_kiln_85 rfl ?_
          refine g_icmp_ne (t := 98) dX12_kiln_86 (by decide) rfl (by omega) (by omega) (fun c_86 => False.elim (by omega)) (fun c_86 => ?_)
          refine g_l dX12_kiln_89 rfl rfl ?_
          refine g_getf dX12_kiln_90 h248 f_12_20 rfl rfl ?_
          refine g_l dX12_kiln_93 rfl rfl ?_
          refine g_iald dX12_kiln_94 h251 (by omega) (by decide) rfl ?_
          rw [o1 3 (by decide)]
          refine g_goto (t := 109) dX12_kiln_95 (by decide) ?_
          refine g_retI dX12_kiln_109 rfl rfl ?_
          exact a2 z c M1 h1
        · refine g_l dX12_kiln_57 rfl rfl ?_
          refine g_if_ne (t := 70) dX12_kiln_58 (by decide) rfl (by omega) (fun c_58 => ?_) (fun c_58 => False.elim (by omega))
          refine g_l dX12_kiln_70 rfl rfl ?_
          refine g_iconst dX12_kiln_71 rfl ?_
          refine g_icmp_ne (t := 84) dX12_kiln_72 (by decide) rfl (by omega) (by omega) (fun c_72 => ?_) (fun c_72 => False.elim (by omega))
          refine g_l dX12_kiln_84 rfl rfl ?_
          refine g_iconst dX12_kiln_85 rfl ?_
          refine g_icmp_ne (t := 98) dX12_kiln_86 (by decide) rfl (by omega) (by omega) (fun c_86 => ?_) (fun c_86 => False.elim (by omega))
          refine g_l dX12_kiln_98 rfl rfl ?_
          refine g_iconst dX12_kiln_99 rfl ?_
          refine g_icmp_ne (t := 107) dX12_kiln_100 (by decide) rfl (by omega) (by omega) (fun c_100 => False.elim (by omega)) (fun c_100 => ?_)
          refine g_l dX12_kiln_103 rfl rfl ?_
          refine g_goto (t := 109) dX12_kiln_104 (by decide) ?_
          refine g_retI dX12_kiln_109 rfl rfl ?_
          rw [show i = M 0 5 by omega]
          exact a3 z c M1 h1
        · refine g_l dX12_kiln_57 rfl rfl ?_
          refine g_if_ne (t := 70) dX12_kiln_58 (by decide) rfl (by omega) (fun c_58 => ?_) (fun c_58 => False.elim (by omega))
          refine g_l dX12_kiln_70 rfl rfl ?_
          refine g_iconst dX12_kiln_71 rfl ?_
          refine g_icmp_ne (t := 84) dX12_kiln_72 (by decide) rfl (by omega) (by omega) (fun c_72 => ?_) (fun c_72 => False.elim (by omega))
          refine g_l dX12_kiln_84 rfl rfl ?_
          refine g_iconst dX12_kiln_85 rfl ?_
          refine g_icmp_ne (t := 98) dX12_kiln_86 (by decide) rfl (by omega) (by omega) (fun c_86 => ?_) (fun c_86 => False.elim (by omega))
          refine g_l dX12_kiln_98 rfl rfl ?_
          refine g_iconst dX12_kiln_99 rfl ?_
          refine g_icmp_ne (t := 107) dX12_kiln_100 (by decide) rfl (by omega) (by omega) (fun c_100 => ?_) (fun c_100 => False.elim (by omega))
          refine g_bipush dX12_kiln_107 (by decide) rfl ?_
          refine g_retI dX12_kiln_109 rfl rfl ?_
          exact az z c M1 h1
      | succ m ih =>
        intro i b1 b2 hm
        have hn := ih (i + 1) (by omega) (by omega) (by omega)
        have ri := hr i b1 (by omega)
        rw [setF_s b1] at hn
        refine g_l dX12_kiln_20 rfl rfl ?_
        refine g_l dX12_kiln_22 rfl rfl ?_
        refine g_getf dX12_kiln_23 h248 f_12_115 rfl rfl ?_
        rw [z5]
        refine g_icmp_ge (t := 57) dX12_kiln_26 (by decide) rfl (by omega) (by omega) (fun c_26 => False.elim (by omega)) (fun c_26 => ?_)
        refine g_l dX12_kiln_29 rfl rfl ?_
        refine g_l dX12_kiln_30 rfl rfl ?_
        refine g_getf dX12_kiln_31 h248 f_12_26 rfl rfl ?_
        refine g_l dX12_kiln_34 rfl rfl ?_
        refine g_iald dX12_kiln_36 h253 (by omega) (by decide) rfl ?_
        refine g_l dX12_kiln_37 rfl rfl ?_
        rw [e5]
        refine g_icmp_ne (t := 48) dX12_kiln_38 (by decide) rfl (by omega) (by omega) (fun c_38 => ?_) (fun c_38 => ?_)
        · rw [if_neg c_38] at hn
          refine g_iconst dX12_kiln_48 rfl ?_
          refine g_ior dX12_kiln_49 rfl ?_
          refine g_l (loc' := [some _, some _, some _, some _, some _]) dX12_kiln_50 rfl rfl ?_
          refine g_iinc (loc' := [some _, some _, some _, some _, some _]) dX12_kiln_51 rfl rfl rfl ?_
          refine g_goto (t := 20) dX12_kiln_54 (by decide) ?_
          exact hn
        · rw [if_pos c_38] at hn
          refine g_iconst dX12_kiln_41 rfl ?_
          refine g_l dX12_kiln_42 rfl rfl ?_
          refine g_ishl dX12_kiln_44 rfl ?_
          refine g_goto (t := 49) dX12_kiln_45 (by decide) ?_
          refine g_ior dX12_kiln_49 rfl ?_
          refine g_l (loc' := [some _, some _, some _, some _, some _]) dX12_kiln_50 rfl rfl ?_
          refine g_iinc (loc' := [some _, some _, some _, some _, some _]) dX12_kiln_51 rfl rfl rfl ?_
          refine g_goto (t := 20) dX12_kiln_54 (by decide) ?_
          exact hn
    exact loop (M 0 5).toNat 0 (by omega) hp.1 (by rw [Int.sub_zero])
theorem s_X12_pot {p x : Int} (hp0 : R32 p) (hx : R32 x) (hp : 0 ≤ M 0 5 ∧ M 0 5 ≤ 5) (q1 : ¬ (0 ≤ p ∧ p < M 0 5) → ∀ M1, thP M M1 → Q (some (.int (iI (-1)))) (hO S Tw M1 P)) (a0 : 0 ≤ p ∧ p < M 0 5 → x = 0 → ∀ M1, thP M M1 → Q (some (.int (iI (M 5 p)))) (hO S Tw M1 P)) (a1 : 0 ≤ p ∧ p < M 0 5 → x = 1 → ∀ M1, thP M M1 → Q (some (.int (iI (M 6 p)))) (hO S Tw M1 P)) (a2 : 0 ≤ p ∧ p < M 0 5 → x = 2 → ∀ M1, thP M M1 → Q (some (.int (iI (M 7 p)))) (hO S Tw M1 P)) (a3 : 0 ≤ p ∧ p < M 0 5 → x = 3 → ∀ M1, thP M M1 → Q (some (.int (iI (M 8 p)))) (hO S Tw M1 P)) (a4 : 0 ≤ p ∧ p < M 0 5 → x = 4 → ∀ M1, thP M M1 → Q (some (.int (iI (M 9 p)))) (hO S Tw M1 P)) (a5 : 0 ≤ p ∧ p < M 0 5 → x = 5 → ∀ M1, thP M M1 → Q (some (.int (iI (M 10 p)))) (hO S Tw M1 P)) (a6 : 0 ≤ p ∧ p < M 0 5 → x = 6 → ∀ M1, thP M M1 → Q (some (.int (iI (M 11 p)))) (hO S Tw M1 P)) (a7 : 0 ≤ p ∧ p < M 0 5 → x = 7 → ∀ M1, thP M M1 → Q (some (.int (iI (M 12 p)))) (hO S Tw M1 P)) (az : 0 ≤ p ∧ p < M 0 5 → ¬ (0 ≤ x ∧ x ≤ 7) → ∀ M1, thP M M1 → Q (some (.int (iI (-2)))) (hO S Tw M1 P)) : CallD (d + 3) 132 [.ref 248, .int (iI p), .int (iI x)] (hO S Tw M P) Q := by
  refine g_enter (loc := [some _, some _, some _]) e_X12_pot i_X12_pot (Nat.le_of_ble_eq_true rfl) rfl ?_
  refine g_l dX12_pot_0 rfl rfl ?_
  refine g_iconst dX12_pot_1 rfl ?_
  refine g_putf dX12_pot_2 h248 f_12_108 (Nat.le_of_ble_eq_true rfl) rfl rfl p248_0 rfl ?_
  have h1 := thP_w (M := M)
  generalize wS M 0 0 0 = M1 at h1 ⊢
  obtain ⟨o1, z1⟩ := id h1
  have z5 : M1 0 5 = M 0 5 := z1 5 (by decide)
  refine g_l dX12_pot_5 rfl rfl ?_
  refine g_l dX12_pot_6 rfl rfl ?_
  refine g_callV dX12_pot_7 m_12_176 (n := 1) rfl h248 rfl (Nat.le_of_ble_eq_true rfl) (Nat.le_of_ble_eq_true rfl) rfl rfl ?_
  refine s_X12_noPot hp0 (by omega) (fun z => ?_) (fun z => ?_)
  · simp only [Option.toList_some, Option.toList_none, List.cons_append, List.nil_append]
    refine g_if_eq (t := 15) dX12_pot_10 (by decide) rfl (by omega) (fun c_10 => False.elim (by omega)) (fun c_10 => ?_)
    refine g_iconst dX12_pot_13 rfl ?_
    refine g_retI dX12_pot_14 rfl rfl ?_
    exact q1 (by omega) M1 h1
  · rw [z5] at z
    simp only [Option.toList_some, Option.toList_none, List.cons_append, List.nil_append]
    rcases (show x = 0 ∨ x = 1 ∨ x = 2 ∨ x = 3 ∨ x = 4 ∨ x = 5 ∨ x = 6 ∨ x = 7 ∨ ¬ (0 ≤ x ∧ x ≤ 7) by omega) with c | c | c | c | c | c | c | c | c
    · refine g_if_eq (t := 15) dX12_pot_10 (by decide) rfl (by omega) (fun c_10 => ?_) (fun c_10 => False.elim (by omega))
      refine g_l dX12_pot_15 rfl rfl ?_
      refine g_tsw (t := 64) (off := 48) dX12_pot_16 (by decide) (by omega) (sw_c (v := 0) (by omega) (by decide)) ?_
      refine g_l dX12_pot_64 rfl rfl ?_
      refine g_getf dX12_pot_65 h248 f_12_26 rfl rfl ?_
      refine g_l dX12_pot_68 rfl rfl ?_
      refine g_iald dX12_pot_69 h253 (by omega) (by decide) rfl ?_
      refine g_retI dX12_pot_70 rfl rfl ?_
      rw [o1 5 (by decide)]
      exact a0 z c M1 h1
    · refine g_if_eq (t := 15) dX12_pot_10 (by decide) rfl (by omega) (fun c_10 => ?_) (fun c_10 => False.elim (by omega))
      refine g_l dX12_pot_15 rfl rfl ?_
      refine g_tsw (t := 71) (off := 55) dX12_pot_16 (by decide) (by omega) (sw_c (v := 1) (by omega) (by decide)) ?_
      refine g_l dX12_pot_71 rfl rfl ?_
      refine g_getf dX12_pot_72 h248 f_12_29 rfl rfl ?_
      refine g_l dX12_pot_75 rfl rfl ?_
      refine g_iald dX12_pot_76 h254 (by omega) (by decide) rfl ?_
      refine g_retI dX12_pot_77 rfl rfl ?_
      rw [o1 6 (by decide)]
      exact a1 z c M1 h1
    · refine g_if_eq (t := 15) dX12_pot_10 (by decide) rfl (by omega) (fun c_10 => ?_) (fun c_10 => False.elim (by omega))
      refine g_l dX12_pot_15 rfl rfl ?_
      refine g_tsw (t := 78) (off := 62) dX12_pot_16 (by decide) (by omega) (sw_c (v := 2) (by omega) (by decide)) ?_
      refine g_l dX12_pot_78 rfl rfl ?_
      refine g_getf dX12_pot_79 h248 f_12_32 rfl rfl ?_
      refine g_l dX12_pot_82 rfl rfl ?_
      refine g_iald dX12_pot_83 h255 (by omega) (by decide) rfl ?_
      refine g_retI dX12_pot_84 rfl rfl ?_
      rw [o1 7 (by decide)]
      exact a2 z c M1 h1
    · refine g_if_eq (t := 15) dX12_pot_10 (by decide) rfl (by omega) (fun c_10 => ?_) (fun c_10 => False.elim (by omega))
      refine g_l dX12_pot_15 rfl rfl ?_
      refine g_tsw (t := 85) (off := 69) dX12_pot_16 (by decide) (by omega) (sw_c (v := 3) (by omega) (by decide)) ?_
      refine g_l dX12_pot_85 rfl rfl ?_
      refine g_getf dX12_pot_86 h248 f_12_35 rfl rfl ?_
      refine g_l dX12_pot_89 rfl rfl ?_
      refine g_iald dX12_pot_90 h256 (by omega) (by decide) rfl ?_
      refine g_retI dX12_pot_91 rfl rfl ?_
      rw [o1 8 (by decide)]
      exact a3 z c M1 h1
    · refine g_if_eq (t := 15) dX12_pot_10 (by decide) rfl (by omega) (fun c_10 => ?_) (fun c_10 => False.elim (by omega))
      refine g_l dX12_pot_15 rfl rfl ?_
      refine g_tsw (t := 92) (off := 76) dX12_pot_16 (by decide) (by omega) (sw_c (v := 4) (by omega) (by decide)) ?_
      refine g_l dX12_pot_92 rfl rfl ?_
      refine g_getf dX12_pot_93 h248 f_12_38 rfl rfl ?_
      refine g_l dX12_pot_96 rfl rfl ?_
      refine g_iald dX12_pot_97 h257 (by omega) (by decide) rfl ?_
      refine g_retI dX12_pot_98 rfl rfl ?_
      rw [o1 9 (by decide)]
      exact a4 z c M1 h1
    · refine g_if_eq (t := 15) dX12_pot_10 (by decide) rfl (by omega) (fun c_10 => ?_) (fun c_10 => False.elim (by omega))
      refine g_l dX12_pot_15 rfl rfl ?_
      refine g_tsw (t := 99) (off := 83) dX12_pot_16 (by decide) (by omega) (sw_c (v := 5) (by omega) (by decide)) ?_
      refine g_l dX12_pot_99 rfl rfl ?_
      refine g_getf dX12_pot_100 h248 f_12_41 rfl rfl ?_
      refine g_l dX12_pot_103 rfl rfl ?_
      refine g_iald dX12_pot_104 h258 (by omega) (by decide) rfl ?_
      refine g_retI dX12_pot_105 rfl rfl ?_
      rw [o1 10 (by decide)]
      exact a5 z c M1 h1
    · refine g_if_eq (t := 15) dX12_pot_10 (by decide) rfl (by omega) (fun c_10 => ?_) (fun c_10 => False.elim (by omega))
      refine g_l dX12_pot_15 rfl rfl ?_
      refine g_tsw (t := 106) (off := 90) dX12_pot_16 (by decide) (by omega) (sw_c (v := 6) (by omega) (by decide)) ?_
      refine g_l dX12_pot_106 rfl rfl ?_
      refine g_getf dX12_pot_107 h248 f_12_44 rfl rfl ?_
      refine g_l dX12_pot_110 rfl rfl ?_
      refine g_iald dX12_pot_111 h259 (by omega) (by decide) rfl ?_
      refine g_retI dX12_pot_112 rfl rfl ?_
      rw [o1 11 (by decide)]
      exact a6 z c M1 h1
    · refine g_if_eq (t := 15) dX12_pot_10 (by decide) rfl (by omega) (fun c_10 => ?_) (fun c_10 => False.elim (by omega))
      refine g_l dX12_pot_15 rfl rfl ?_
      refine g_tsw (t := 113) (off := 97) dX12_pot_16 (by decide) (by omega) (sw_c (v := 7) (by omega) (by decide)) ?_
      refine g_l dX12_pot_113 rfl rfl ?_
      refine g_getf dX12_pot_114 h248 f_12_47 rfl rfl ?_
      refine g_l dX12_pot_117 rfl rfl ?_
      refine g_iald dX12_pot_118 h260 (by omega) (by decide) rfl ?_
      refine g_retI dX12_pot_119 rfl rfl ?_
      rw [o1 12 (by decide)]
      exact a7 z c M1 h1
    · refine g_if_eq (t := 15) dX12_pot_10 (by decide) rfl (by omega) (fun c_10 => ?_) (fun c_10 => False.elim (by omega))
      refine g_l dX12_pot_15 rfl rfl ?_
      refine g_tsw (t := 120) (off := 104) dX12_pot_16 (by decide) (by omega) (if_pos (by omega)) ?_
      refine g_bipush dX12_pot_120 (by decide) rfl ?_
      refine g_retI dX12_pot_122 rfl rfl ?_
      exact az z c M1 h1
theorem s_X12_open {k s : Int} (hk : R32 k) (hs : R32 s) (ht : 2 ≤ M 0 4 ∧ M 0 4 ≤ 5) (hr : ∀ k, 0 ≤ k → k < 5 → 0 ≤ M 3 k ∧ M 3 k ≤ 10) (q1 : ¬ (0 ≤ k ∧ k < M 0 4) → ∀ M1, thP M M1 → Q (some (.int (iI (-1)))) (hO S Tw M1 P)) (q2 : 0 ≤ k ∧ k < M 0 4 → ¬ (0 ≤ s ∧ s ≤ 10 - M 3 k) → ∀ M1, thP M M1 → Q (some (.int (iI (-2)))) (hO S Tw M1 P)) (q3 : 0 ≤ k ∧ k < M 0 4 → 0 ≤ s ∧ s ≤ 10 - M 3 k → ∀ M1, thP M M1 → Q (some (.int (iI (M 2 k)))) (hO S Tw (wS M1 2 k s) P)) : CallD (d + 3) 133 [.ref 248, .int (iI k), .int (iI s)] (hO S Tw M P) Q := by
  refine g_enter (loc := [some _, some _, some _, _]) e_X12_open i_X12_open (Nat.le_of_ble_eq_true rfl) rfl ?_
  refine g_l dX12_open_0 rfl rfl ?_
  refine g_iconst dX12_open_1 rfl ?_
  refine g_putf dX12_open_2 h248 f_12_108 (Nat.le_of_ble_eq_true rfl) rfl rfl p248_0 rfl ?_
  have h1 := thP_w (M := M)
  generalize wS M 0 0 0 = M1 at h1 ⊢
  obtain ⟨o1, z1⟩ := id h1
  have z4 : M1 0 4 = M 0 4 := z1 4 (by decide)
  refine g_l dX12_open_5 rfl rfl ?_
  refine g_l dX12_open_6 rfl rfl ?_
  refine g_callV dX12_open_7 m_12_172 (n := 1) rfl h248 rfl (Nat.le_of_ble_eq_true rfl) (Nat.le_of_ble_eq_true rfl) rfl rfl ?_
  refine s_X12_noKiln hk (by omega) (fun z => ?_) (fun z => ?_)
  · simp only [Option.toList_some, Option.toList_none, List.cons_append, List.nil_append]
    refine g_if_eq (t := 15) dX12_open_10 (by decide) rfl (by omega) (fun c_10 => False.elim (by omega)) (fun c_10 => ?_)
    refine g_iconst dX12_open_13 rfl ?_
    refine g_retI dX12_open_14 rfl rfl ?_
    exact q1 (by omega) M1 h1
  · rw [z4] at z
    have rk := hr k z.1 (by omega)
    simp only [Option.toList_some, Option.toList_none, List.cons_append, List.nil_append]
    refine g_if_eq (t := 15) dX12_open_10 (by decide) rfl (by omega) (fun c_10 => ?_) (fun c_10 => False.elim (by omega))
    refine g_l dX12_open_15 rfl rfl ?_
    refine g_i2l dX12_open_16 hs rfl ?_
    refine g_lconst0 dX12_open_17 rfl rfl ?_
    refine g_bipush dX12_open_18 (by decide) rfl ?_
    refine g_l dX12_open_20 rfl rfl ?_
    refine g_getf dX12_open_21 h248 f_12_20 rfl rfl ?_
    refine g_l dX12_open_24 rfl rfl ?_
    refine g_iald dX12_open_25 h251 (by omega) (by decide) rfl ?_
    rw [o1 3 (by decide)]
    refine g_isub dX12_open_26 rfl ?_
    refine g_i2l dX12_open_27 (by omega) rfl ?_
    refine g_callS dX12_open_28 m_12_111 (n := 3) rfl (by exact Nat.le_of_ble_eq_true rfl) (by exact Nat.le_of_ble_eq_true rfl) (by rfl) (by rfl) (by rfl) ?_
    refine s_X12_in (by omega) (by decide) (by omega) (fun y => ?_) (fun y => ?_)
    · simp only [Option.toList_some, Option.toList_none, List.cons_append, List.nil_append]
      refine g_if_ne (t := 37) dX12_open_31 (by decide) rfl (by omega) (fun c_31 => ?_) (fun c_31 => False.elim (by omega))
      refine g_l dX12_open_37 rfl rfl ?_
      refine g_getf dX12_open_38 h248 f_12_17 rfl rfl ?_
      refine g_l dX12_open_41 rfl rfl ?_
      refine g_iald dX12_open_42 h250 (by omega) (by decide) rfl ?_
      rw [o1 2 (by decide)]
      refine g_l (loc' := [some _, some _, some _, some _]) dX12_open_43 rfl rfl ?_
      refine g_l dX12_open_44 rfl rfl ?_
      refine g_getf dX12_open_45 h248 f_12_17 rfl rfl ?_
      refine g_l dX12_open_48 rfl rfl ?_
      refine g_l dX12_open_49 rfl rfl ?_
      refine g_iast dX12_open_50 h250 (by omega) (by decide) p250 rfl ?_
      refine g_l dX12_open_51 rfl rfl ?_
      refine g_retI dX12_open_52 rfl rfl ?_
      exact q3 z y M1 h1
    · simp only [Option.toList_some, Option.toList_none, List.cons_append, List.nil_append]
      refine g_if_ne (t := 37) dX12_open_31 (by decide) rfl (by omega) (fun c_31 => False.elim (by omega)) (fun c_31 => ?_)
      refine g_bipush dX12_open_34 (by decide) rfl ?_
      refine g_retI dX12_open_36 rfl rfl ?_
      exact q2 z y M1 h1
theorem s_X12_damp {k s : Int} (hk : R32 k) (hs : R32 s) (ht : 2 ≤ M 0 4 ∧ M 0 4 ≤ 5) (hr : ∀ k, 0 ≤ k → k < 5 → 0 ≤ M 2 k ∧ M 2 k ≤ 10) (q1 : ¬ (0 ≤ k ∧ k < M 0 4) → ∀ M1, thP M M1 → Q (some (.int (iI (-1)))) (hO S Tw M1 P)) (q2 : 0 ≤ k ∧ k < M 0 4 → ¬ (0 ≤ s ∧ s ≤ 10 - M 2 k) → ∀ M1, thP M M1 → Q (some (.int (iI (-2)))) (hO S Tw M1 P)) (q3 : 0 ≤ k ∧ k < M 0 4 → 0 ≤ s ∧ s ≤ 10 - M 2 k → ∀ M1, thP M M1 → Q (some (.int (iI (M 3 k)))) (hO S Tw (wS M1 3 k s) P)) : CallD (d + 3) 134 [.ref 248, .int (iI k), .int (iI s)] (hO S Tw M P) Q := by
  refine g_enter (loc := [some _, some _, some _, _]) e_X12_damp i_X12_damp (Nat.le_of_ble_eq_true rfl) rfl ?_
  refine g_l dX12_damp_0 rfl rfl ?_
  refine g_iconst dX12_damp_1 rfl ?_
  refine g_putf dX12_damp_2 h248 f_12_108 (Nat.le_of_ble_eq_true rfl) rfl rfl p248_0 rfl ?_
  have h1 := thP_w (M := M)
  generalize wS M 0 0 0 = M1 at h1 ⊢
  obtain ⟨o1, z1⟩ := id h1
  have z4 : M1 0 4 = M 0 4 := z1 4 (by decide)
  refine g_l dX12_damp_5 rfl rfl ?_
  refine g_l dX12_damp_6 rfl rfl ?_
  refine g_callV dX12_damp_7 m_12_172 (n := 1) rfl h248 rfl (Nat.le_of_ble_eq_true rfl) (Nat.le_of_ble_eq_true rfl) rfl rfl ?_
  refine s_X12_noKiln hk (by omega) (fun z => ?_) (fun z => ?_)
  · simp only [Option.toList_some, Option.toList_none, List.cons_append, List.nil_append]
    refine g_if_eq (t := 15) dX12_damp_10 (by decide) rfl (by omega) (fun c_10 => False.elim (by omega)) (fun c_10 => ?_)
    refine g_iconst dX12_damp_13 rfl ?_
    refine g_retI dX12_damp_14 rfl rfl ?_
    exact q1 (by omega) M1 h1
  · rw [z4] at z
    have rk := hr k z.1 (by omega)
    simp only [Option.toList_some, Option.toList_none, List.cons_append, List.nil_append]
    refine g_if_eq (t := 15) dX12_damp_10 (by decide) rfl (by omega) (fun c_10 => ?_) (fun c_10 => False.elim (by omega))
    refine g_l dX12_damp_15 rfl rfl ?_
    refine g_i2l dX12_damp_16 hs rfl ?_
    refine g_lconst0 dX12_damp_17 rfl rfl ?_
    refine g_bipush dX12_damp_18 (by decide) rfl ?_
    refine g_l dX12_damp_20 rfl rfl ?_
    refine g_getf dX12_damp_21 h248 f_12_17 rfl rfl ?_
    refine g_l dX12_damp_24 rfl rfl ?_
    refine g_iald dX12_damp_25 h250 (by omega) (by decide) rfl ?_
    rw [o1 2 (by decide)]
    refine g_isub dX12_damp_26 rfl ?_
    refine g_i2l dX12_damp_27 (by omega) rfl ?_
    refine g_callS dX12_damp_28 m_12_111 (n := 3) rfl (by exact Nat.le_of_ble_eq_true rfl) (by exact Nat.le_of_ble_eq_true rfl) (by rfl) (by rfl) (by rfl) ?_
    refine s_X12_in (by omega) (by decide) (by omega) (fun y => ?_) (fun y => ?_)
    · simp only [Option.toList_some, Option.toList_none, List.cons_append, List.nil_append]
      refine g_if_ne (t := 37) dX12_damp_31 (by decide) rfl (by omega) (fun c_31 => ?_) (fun c_31 => False.elim (by omega))
      refine g_l dX12_damp_37 rfl rfl ?_
      refine g_getf dX12_damp_38 h248 f_12_20 rfl rfl ?_
      refine g_l dX12_damp_41 rfl rfl ?_
      refine g_iald dX12_damp_42 h251 (by omega) (by decide) rfl ?_
      rw [o1 3 (by decide)]
      refine g_l (loc' := [some _, some _, some _, some _]) dX12_damp_43 rfl rfl ?_
      refine g_l dX12_damp_44 rfl rfl ?_
      refine g_getf dX12_damp_45 h248 f_12_20 rfl rfl ?_
      refine g_l dX12_damp_48 rfl rfl ?_
      refine g_l dX12_damp_49 rfl rfl ?_
      refine g_iast dX12_damp_50 h251 (by omega) (by decide) p251 rfl ?_
      refine g_l dX12_damp_51 rfl rfl ?_
      refine g_retI dX12_damp_52 rfl rfl ?_
      exact q3 z y M1 h1
    · simp only [Option.toList_some, Option.toList_none, List.cons_append, List.nil_append]
      refine g_if_ne (t := 37) dX12_damp_31 (by decide) rfl (by omega) (fun c_31 => False.elim (by omega)) (fun c_31 => ?_)
      refine g_bipush dX12_damp_34 (by decide) rfl ?_
      refine g_retI dX12_damp_36 rfl rfl ?_
      exact q2 z y M1 h1
theorem s_X12_put {p k : Int} (hp0 : R32 p) (hk : R32 k) (hp : 0 ≤ M 0 5 ∧ M 0 5 ≤ 5) (ht : 2 ≤ M 0 4 ∧ M 0 4 ≤ 5) (hr : ∀ i, 0 ≤ i → i < M 0 5 → R32 (M 12 i)) (q1 : ¬ ((0 ≤ p ∧ p < M 0 5) ∧ 0 ≤ k ∧ k < M 0 4) → ∀ M1, thP M M1 → Q (some (.int (iI (-1)))) (hO S Tw M1 P)) (q2 : 0 ≤ p ∧ p < M 0 5 → 0 ≤ k ∧ k < M 0 4 → ¬ M 12 p = 0 → ∀ M1, thP M M1 → Q (some (.int (iI (-3)))) (hO S Tw M1 P))
    (q3 : 0 ≤ p ∧ p < M 0 5 → 0 ≤ k ∧ k < M 0 4 → M 12 p = 0 → ∀ M1, thP M M1 → Q (some (.int (iI (M 5 p)))) (hO S Tw (wS M1 5 p k) P)) : CallD (d + 3) 135 [.ref 248, .int (iI p), .int (iI k)] (hO S Tw M P) Q := by
  refine g_enter (loc := [some _, some _, some _, _]) e_X12_put i_X12_put (Nat.le_of_ble_eq_true rfl) rfl ?_
  refine g_l dX12_put_0 rfl rfl ?_
  refine g_iconst dX12_put_1 rfl ?_
  refine g_putf dX12_put_2 h248 f_12_108 (Nat.le_of_ble_eq_true rfl) rfl rfl p248_0 rfl ?_
  have h1 := thP_w (M := M)
  generalize wS M 0 0 0 = M1 at h1 ⊢
  obtain ⟨o1, z1⟩ := id h1
  have z4 : M1 0 4 = M 0 4 := z1 4 (by decide)
  have z5 : M1 0 5 = M 0 5 := z1 5 (by decide)
  refine g_l dX12_put_5 rfl rfl ?_
  refine g_l dX12_put_6 rfl rfl ?_
  refine g_callV dX12_put_7 m_12_176 (n := 1) rfl h248 rfl (Nat.le_of_ble_eq_true rfl) (Nat.le_of_ble_eq_true rfl) rfl rfl ?_
  refine s_X12_noPot hp0 (by omega) (fun z => ?_) (fun z => ?_)
  · simp only [Option.toList_some, Option.toList_none, List.cons_append, List.nil_append]
    refine g_if_ne (t := 21) dX12_put_10 (by decide) rfl (by omega) (fun c_10 => ?_) (fun c_10 => False.elim (by omega))
    refine g_iconst dX12_put_21 rfl ?_
    refine g_retI dX12_put_22 rfl rfl ?_
    exact q1 (by omega) M1 h1
  · rw [z5] at z
    have rp := hr p z.1 z.2
    simp only [Option.toList_some, Option.toList_none, List.cons_append, List.nil_append]
    refine g_if_ne (t := 21) dX12_put_10 (by decide) rfl (by omega) (fun c_10 => False.elim (by omega)) (fun c_10 => ?_)
    refine g_l dX12_put_13 rfl rfl ?_
    refine g_l dX12_put_14 rfl rfl ?_
    refine g_callV dX12_put_15 m_12_172 (n := 1) rfl h248 rfl (Nat.le_of_ble_eq_true rfl) (Nat.le_of_ble_eq_true rfl) rfl rfl ?_
    refine s_X12_noKiln hk (by omega) (fun y => ?_) (fun y => ?_)
    · simp only [Option.toList_some, Option.toList_none, List.cons_append, List.nil_append]
      refine g_if_eq (t := 23) dX12_put_18 (by decide) rfl (by omega) (fun c_18 => False.elim (by omega)) (fun c_18 => ?_)
      refine g_iconst dX12_put_21 rfl ?_
      refine g_retI dX12_put_22 rfl rfl ?_
      exact q1 (by omega) M1 h1
    · rw [z4] at y
      simp only [Option.toList_some, Option.toList_none, List.cons_append, List.nil_append]
      refine g_if_eq (t := 23) dX12_put_18 (by decide) rfl (by omega) (fun c_18 => ?_) (fun c_18 => False.elim (by omega))
      refine g_l dX12_put_23 rfl rfl ?_
      refine g_getf dX12_put_24 h248 f_12_47 rfl rfl ?_
      refine g_l dX12_put_27 rfl rfl ?_
      refine g_iald dX12_put_28 h260 (by omega) (by decide) rfl ?_
      rw [o1 12 (by decide)]
      refine g_if_eq (t := 35) dX12_put_29 (by decide) rfl (by omega) (fun c_29 => ?_) (fun c_29 => ?_)
      · refine g_l dX12_put_35 rfl rfl ?_
        refine g_getf dX12_put_36 h248 f_12_26 rfl rfl ?_
        refine g_l dX12_put_39 rfl rfl ?_
        refine g_iald dX12_put_40 h253 (by omega) (by decide) rfl ?_
        rw [o1 5 (by decide)]
        refine g_l (loc' := [some _, some _, some _, some _]) dX12_put_41 rfl rfl ?_
        refine g_l dX12_put_42 rfl rfl ?_
        refine g_getf dX12_put_43 h248 f_12_26 rfl rfl ?_
        refine g_l dX12_put_46 rfl rfl ?_
        refine g_l dX12_put_47 rfl rfl ?_
        refine g_iast dX12_put_48 h253 (by omega) (by decide) p253 rfl ?_
        refine g_l dX12_put_49 rfl rfl ?_
        refine g_retI dX12_put_50 rfl rfl ?_
        exact q3 z y (by omega) M1 h1
      · refine g_bipush dX12_put_32 (by decide) rfl ?_
        refine g_retI dX12_put_34 rfl rfl ?_
        exact q2 z y (by omega) M1 h1
theorem s_X12_uncone (hq : ∀ M1, thP M M1 → Q (some (.int (iI (M 0 35)))) (hO S Tw (wS M1 0 35 0) P)) : CallD (d + 1) 158 [.ref 248] (hO S Tw M P) Q := by
  refine g_enter (loc := [some _, _]) e_X12_uncone i_X12_uncone (Nat.le_of_ble_eq_true rfl) rfl ?_
  refine g_l dX12_uncone_0 rfl rfl ?_
  refine g_iconst dX12_uncone_1 rfl ?_
  refine g_putf dX12_uncone_2 h248 f_12_108 (Nat.le_of_ble_eq_true rfl) rfl rfl p248_0 rfl ?_
  have h1 := thP_w (M := M)
  generalize wS M 0 0 0 = M1 at h1 ⊢
  refine g_l dX12_uncone_5 rfl rfl ?_
  refine g_getf dX12_uncone_6 h248 f_12_169 rfl rfl ?_
  rw [h1.2 35 (by decide)]
  refine g_l (loc' := [some _, some _]) dX12_uncone_9 rfl rfl ?_
  refine g_l dX12_uncone_10 rfl rfl ?_
  refine g_iconst dX12_uncone_11 rfl ?_
  refine g_putf dX12_uncone_12 h248 f_12_169 (Nat.le_of_ble_eq_true rfl) rfl rfl p248_35 rfl ?_
  refine g_l dX12_uncone_15 rfl rfl ?_
  refine g_retI dX12_uncone_16 rfl rfl ?_
  exact hq M1 h1
set_option maxHeartbeats 1000000 in
theorem s_X12_cone {k n w c b : Int} (hk : R32 k) (hn : R32 n) (hw : R32 w) (hc : R32 c) (hb : b = 0 ∨ b = 1) (ht : 2 ≤ M 0 4 ∧ M 0 4 ≤ 5) (hx : 0 ≤ M 0 35 ∧ M 0 35 ≤ 8) (q1 : ¬ (0 ≤ k ∧ k < M 0 4) → ∀ M1, thP M M1 → Q (some (.int (iI (-1)))) (hO S Tw M1 P)) (q2 : 0 ≤ k ∧ k < M 0 4 → ¬ (((1 ≤ n ∧ n ≤ 9) ∧ 0 ≤ w ∧ w ≤ 9) ∧ 0 ≤ c ∧ c ≤ 99) → ∀ M1, thP M M1 → Q (some (.int (iI (-2)))) (hO S Tw M1 P))
    (q3 : 0 ≤ k ∧ k < M 0 4 → ((1 ≤ n ∧ n ≤ 9) ∧ 0 ≤ w ∧ w ≤ 9) ∧ 0 ≤ c ∧ c ≤ 99 → M 0 35 = 8 → ∀ M1, thP M M1 → Q (some (.int (iI (-4)))) (hO S Tw M1 P))
    (q4 : 0 ≤ k ∧ k < M 0 4 → ((1 ≤ n ∧ n ≤ 9) ∧ 0 ≤ w ∧ w ≤ 9) ∧ 0 ≤ c ∧ c ≤ 99 → M 0 35 < 8 → ∀ M1, thP M M1 → Q (some (.int (iI (M 0 35 + 1)))) (hO S Tw (wS (wS (wS (wS (wS (wS M1 25 (M 0 35) k) 26 (M 0 35) n) 27 (M 0 35) w) 28 (M 0 35) (10 * c)) 29 (M 0 35) b) 0 35 (M 0 35 + 1)) P)) : CallD (d + 3) 157 [.ref 248, .int (iI k), .int (iI n), .int (iI w), .int (iI c), .int (iI b)] (hO S Tw M P) Q := by
  have e99 : (99 : Int64) = lI 99 := rfl
  refine g_enter (loc := [some _, some _, some _, some _, some _, some _]) e_X12_cone i_X12_cone (Nat.le_of_ble_eq_true rfl) rfl ?_
  refine g_l dX12_cone_0 rfl rfl ?_
  refine g_iconst dX12_cone_1 rfl ?_
  refine g_putf dX12_cone_2 h248 f_12_108 (Nat.le_of_ble_eq_true rfl) rfl rfl p248_0 rfl ?_
  have h1 := thP_w (M := M)
  generalize wS M 0 0 0 = M1 at h1 ⊢
  obtain ⟨o1, z1⟩ := id h1
  have z4 : M1 0 4 = M 0 4 := z1 4 (by decide)
  have z35 : M1 0 35 = M 0 35 := z1 35 (by decide)
  refine g_l dX12_cone_5 rfl rfl ?_
  refine g_l dX12_cone_6 rfl rfl ?_
  refine g_callV dX12_cone_7 m_12_172 (n := 1) rfl h248 rfl (Nat.le_of_ble_eq_true rfl) (Nat.le_of_ble_eq_true rfl) rfl rfl ?_
  refine s_X12_noKiln hk (by omega) (fun z => ?_) (fun z => ?_)
  · simp only [Option.toList_some, Option.toList_none, List.cons_append, List.nil_append]
    refine g_if_eq (t := 15) dX12_cone_10 (by decide) rfl (by omega) (fun c_10 => False.elim (by omega)) (fun c_10 => ?_)
    refine g_iconst dX12_cone_13 rfl ?_
    refine g_retI dX12_cone_14 rfl rfl ?_
    exact q1 (by omega) M1 h1
  · rw [z4] at z
    simp only [Option.toList_some, Option.toList_none, List.cons_append, List.nil_append]
    refine g_if_eq (t := 15) dX12_cone_10 (by decide) rfl (by omega) (fun c_10 => ?_) (fun c_10 => False.elim (by omega))
    refine g_l dX12_cone_15 rfl rfl ?_
    refine g_l dX12_cone_16 rfl rfl ?_
    refine g_callS dX12_cone_17 m_12_202 (n := 2) rfl (by exact Nat.le_of_ble_eq_true rfl) (by exact Nat.le_of_ble_eq_true rfl) (by rfl) (by rfl) (by rfl) ?_
    refine s_X12_noFire hn hw (fun y => ?_) (fun y => ?_)
    · simp only [Option.toList_some, Option.toList_none, List.cons_append, List.nil_append]
      refine g_if_ne (t := 36) dX12_cone_20 (by decide) rfl (by omega) (fun c_20 => ?_) (fun c_20 => False.elim (by omega))
      refine g_bipush dX12_cone_36 (by decide) rfl ?_
      refine g_retI dX12_cone_38 rfl rfl ?_
      exact q2 z (fun v => y v.1) M1 h1
    · simp only [Option.toList_some, Option.toList_none, List.cons_append, List.nil_append]
      refine g_if_ne (t := 36) dX12_cone_20 (by decide) rfl (by omega) (fun c_20 => False.elim (by omega)) (fun c_20 => ?_)
      refine g_l dX12_cone_23 rfl rfl ?_
      refine g_i2l dX12_cone_25 hc rfl ?_
      refine g_lconst0 dX12_cone_26 rfl rfl ?_
      refine g_ldc2_w dX12_cone_27 k_12_230 rfl ?_
      rw [e99]
      refine g_callS dX12_cone_30 m_12_111 (n := 3) rfl (by exact Nat.le_of_ble_eq_true rfl) (by exact Nat.le_of_ble_eq_true rfl) (by rfl) (by rfl) (by rfl) ?_
      refine s_X12_in (by omega) (by decide) (by decide) (fun x => ?_) (fun x => ?_)
      · simp only [Option.toList_some, Option.toList_none, List.cons_append, List.nil_append]
        refine g_if_ne (t := 39) dX12_cone_33 (by decide) rfl (by omega) (fun c_33 => ?_) (fun c_33 => False.elim (by omega))
        refine g_l dX12_cone_39 rfl rfl ?_
        refine g_getf dX12_cone_40 h248 f_12_169 rfl rfl ?_
        refine g_bipush dX12_cone_43 (by decide) rfl ?_
        rw [z35]
        refine g_icmp_ne (t := 51) dX12_cone_45 (by decide) rfl (by omega) (by omega) (fun c_45 => ?_) (fun c_45 => ?_)
        · have e1 : ∀ {S' : Nat → Int → Int} {c : Nat} {j v : Int}, c ≠ 0 → wS S' c j v 0 = S' 0 := fun h => by rw [wS_o (Ne.symm h)]
          refine g_l dX12_cone_51 rfl rfl ?_
          refine g_getf dX12_cone_52 h248 f_12_87 rfl rfl ?_
          refine g_l dX12_cone_55 rfl rfl ?_
          refine g_getf dX12_cone_56 h248 f_12_169 rfl rfl ?_
          rw [z35]
          refine g_l dX12_cone_59 rfl rfl ?_
          refine g_iast dX12_cone_60 h273 (by omega) (by decide) p273 rfl ?_
          refine g_l dX12_cone_61 rfl rfl ?_
          refine g_getf dX12_cone_62 h248 f_12_90 rfl rfl ?_
          refine g_l dX12_cone_65 rfl rfl ?_
          refine g_getf dX12_cone_66 h248 f_12_169 rfl rfl ?_
          rw [e1 (by decide), z35]
          refine g_l dX12_cone_69 rfl rfl ?_
          refine g_iast dX12_cone_70 h274 (by omega) (by decide) p274 rfl ?_
          refine g_l dX12_cone_71 rfl rfl ?_
          refine g_getf dX12_cone_72 h248 f_12_93 rfl rfl ?_
          refine g_l dX12_cone_75 rfl rfl ?_
          refine g_getf dX12_cone_76 h248 f_12_169 rfl rfl ?_
          rw [e1 (by decide), e1 (by decide), z35]
          refine g_l dX12_cone_79 rfl rfl ?_
          refine g_iast dX12_cone_80 h275 (by omega) (by decide) p275 rfl ?_
          refine g_l dX12_cone_81 rfl rfl ?_
          refine g_getf dX12_cone_82 h248 f_12_96 rfl rfl ?_
          refine g_l dX12_cone_85 rfl rfl ?_
          refine g_getf dX12_cone_86 h248 f_12_169 rfl rfl ?_
          rw [e1 (by decide), e1 (by decide), e1 (by decide), z35]
          refine g_bipush dX12_cone_89 (by decide) rfl ?_
          refine g_l dX12_cone_91 rfl rfl ?_
          refine g_imul dX12_cone_93 rfl ?_
          refine g_iast dX12_cone_94 h276 (by omega) (by decide) p276 rfl ?_
          refine g_l dX12_cone_95 rfl rfl ?_
          refine g_getf dX12_cone_96 h248 f_12_99 rfl rfl ?_
          refine g_l dX12_cone_99 rfl rfl ?_
          refine g_getf dX12_cone_100 h248 f_12_169 rfl rfl ?_
          rw [e1 (by decide), e1 (by decide), e1 (by decide), e1 (by decide), z35]
          refine g_l dX12_cone_103 rfl rfl ?_
          refine g_bast dX12_cone_105 h277 (by omega) (by omega) (by decide) p277 rfl ?_
          refine g_l dX12_cone_106 rfl rfl ?_
          refine g_s dX12_cone_107 rfl rfl rfl ?_
          refine g_getf dX12_cone_108 h248 f_12_169 rfl rfl ?_
          rw [e1 (by decide), e1 (by decide), e1 (by decide), e1 (by decide), e1 (by decide), z35]
          refine g_iconst dX12_cone_111 rfl ?_
          refine g_iadd dX12_cone_112 rfl ?_
          refine g_putf dX12_cone_113 h248 f_12_169 (Nat.le_of_ble_eq_true rfl) rfl rfl p248_35 rfl ?_
          refine g_l dX12_cone_116 rfl rfl ?_
          refine g_getf dX12_cone_117 h248 f_12_169 rfl rfl ?_
          rw [wS_e]
          refine g_retI dX12_cone_120 rfl rfl ?_
          exact q4 z ⟨y, x⟩ (by omega) M1 h1
        · refine g_bipush dX12_cone_48 (by decide) rfl ?_
          refine g_retI dX12_cone_50 rfl rfl ?_
          exact q3 z ⟨y, x⟩ (by omega) M1 h1
      · simp only [Option.toList_some, Option.toList_none, List.cons_append, List.nil_append]
        refine g_if_ne (t := 39) dX12_cone_33 (by decide) rfl (by omega) (fun c_33 => False.elim (by omega)) (fun c_33 => ?_)
        refine g_bipush dX12_cone_36 (by decide) rfl ?_
        refine g_retI dX12_cone_38 rfl rfl ?_
        exact q2 z (fun v => x v.2) M1 h1
end RD
