/-! OvensAbove's own methods: what is read; the least wood -/
section OD
variable {S : Nat → Int → Int} {Tw : Nat → Nat → Int → Int} {M : Nat → Int → Int} {P : Nat → Nat} {d : Nat} {Q : Option Value → GH → Prop}
theorem s_X11_about {x : Int} (hx : R32 x) (hp : pOk S) (hqk : qOk S (Tw 0)) (ht : 2 ≤ Tw 0 1 5 ∧ Tw 0 1 5 ≤ 5) (a0 : x = 0 → Q (some (.int (iI (Tw 0 1 5)))) (hO S Tw M P)) (a1 : x = 1 → Q (some (.int (iI (S 13 5)))) (hO S Tw M P)) (a2 : x = 2 → Q (some (.int (iI (S 30 1)))) (hO S Tw M P)) (a3 : x = 3 → Q (some (.int (iI (sumF (Tw 0 2) (Tw 0 1 5).toNat)))) (hO S Tw M P)) (a4 : x = 4 → Q (some (.int (iI (Tw 0 1 6)))) (hO S Tw M P)) (a5 : x = 5 → Q (some (.int (iI (cntF (fun i => Tw 0 10 i = 1) (S 13 5).toNat)))) (hO S Tw M P)) (a6 : x = 6 → Q (some (.int (iI (cntF (fun i => Tw 0 10 i = 2) (S 13 5).toNat)))) (hO S Tw M P)) (a7 : x = 7 → Q (some (.int (iI (cntF (fun i => Tw 0 10 i = 3) (S 13 5).toNat)))) (hO S Tw M P)) (a8 : x = 8 → Q (some (.int (iI (S 199 7)))) (hO S Tw M P)) (a9 : x = 9 → Q (some (.int (iI (S 1 1)))) (hO S Tw M P)) (az : ¬ (0 ≤ x ∧ x ≤ 9) → Q (some (.int (iI (-2)))) (hO S Tw M P)) : CallD (d + 2) 87 [.ref 0, .int (iI x)] (hO S Tw M P) Q := by
  refine g_enter (loc := [some _, some _]) e_X11_about i_X11_about (Nat.le_of_ble_eq_true rfl) rfl ?_
  rcases (show x = 0 ∨ x = 1 ∨ x = 2 ∨ x = 3 ∨ x = 4 ∨ x = 5 ∨ x = 6 ∨ x = 7 ∨ x = 8 ∨ x = 9 ∨ ¬ (0 ≤ x ∧ x ≤ 9) by omega) with c | c | c | c | c | c | c | c | c | c | c
  · refine g_l dX11_about_0 rfl rfl ?_
    refine g_tsw (t := 56) (off := 55) dX11_about_1 (by decide) (by omega) (sw_c (v := 0) (by omega) (by decide)) ?_
    refine g_l dX11_about_56 rfl rfl ?_
    refine g_getf dX11_about_57 h0 f_11_35 rfl rfl ?_
    refine g_getf dX11_about_60 (hT0 (by omega)) f_11_56 rfl rfl ?_
    refine g_getf dX11_about_63 (hT1 (by omega)) f_11_118 rfl rfl ?_
    refine g_retI dX11_about_66 rfl rfl ?_
    exact a0 c
  · refine g_l dX11_about_0 rfl rfl ?_
    refine g_tsw (t := 67) (off := 66) dX11_about_1 (by decide) (by omega) (sw_c (v := 1) (by omega) (by decide)) ?_
    refine g_l dX11_about_67 rfl rfl ?_
    refine g_getf dX11_about_68 h0 f_11_26 rfl rfl ?_
    refine g_getf dX11_about_71 h13 f_11_124 rfl rfl ?_
    refine g_retI dX11_about_74 rfl rfl ?_
    exact a1 c
  · refine g_l dX11_about_0 rfl rfl ?_
    refine g_tsw (t := 75) (off := 74) dX11_about_1 (by decide) (by omega) (sw_c (v := 2) (by omega) (by decide)) ?_
    refine g_l dX11_about_75 rfl rfl ?_
    refine g_getf dX11_about_76 h0 f_11_42 rfl rfl ?_
    refine g_callV dX11_about_79 m_11_125 (n := 0) rfl h30 rfl (Nat.le_of_ble_eq_true rfl) (Nat.le_of_ble_eq_true rfl) rfl rfl ?_
    refine s_X6_length ?_
    simp only [Option.toList_some, Option.toList_none, List.cons_append, List.nil_append]
    refine g_retI dX11_about_82 rfl rfl ?_
    exact a2 c
  · refine g_l dX11_about_0 rfl rfl ?_
    refine g_tsw (t := 83) (off := 82) dX11_about_1 (by decide) (by omega) (sw_c (v := 3) (by omega) (by decide)) ?_
    refine g_l dX11_about_83 rfl rfl ?_
    refine g_getf dX11_about_84 h0 f_11_35 rfl rfl ?_
    refine g_getf dX11_about_87 (hT0 (by omega)) f_11_56 rfl rfl ?_
    refine g_callV dX11_about_90 m_11_128 (n := 0) rfl (hT1 (by omega)) rfl (Nat.le_of_ble_eq_true rfl) (Nat.le_of_ble_eq_true rfl) rfl rfl ?_
    refine s_X2_allHeat (t := 0) (by decide) (by omega) ?_
    simp only [Option.toList_some, Option.toList_none, List.cons_append, List.nil_append]
    refine g_retI dX11_about_93 rfl rfl ?_
    exact a3 c
  · refine g_l dX11_about_0 rfl rfl ?_
    refine g_tsw (t := 94) (off := 93) dX11_about_1 (by decide) (by omega) (sw_c (v := 4) (by omega) (by decide)) ?_
    refine g_l dX11_about_94 rfl rfl ?_
    refine g_getf dX11_about_95 h0 f_11_35 rfl rfl ?_
    refine g_getf dX11_about_98 (hT0 (by omega)) f_11_56 rfl rfl ?_
    refine g_getf dX11_about_101 (hT1 (by omega)) f_11_131 rfl rfl ?_
    refine g_retI dX11_about_104 rfl rfl ?_
    exact a4 c
  · refine g_l dX11_about_0 rfl rfl ?_
    refine g_tsw (t := 105) (off := 104) dX11_about_1 (by decide) (by omega) (sw_c (v := 5) (by omega) (by decide)) ?_
    refine g_l dX11_about_105 rfl rfl ?_
    refine g_getf dX11_about_106 h0 f_11_35 rfl rfl ?_
    refine g_getf dX11_about_109 (hT0 (by omega)) f_11_134 rfl rfl ?_
    refine g_iconst dX11_about_112 rfl ?_
    refine g_callV dX11_about_113 m_11_138 (n := 1) rfl (hT7 (by omega)) rfl (Nat.le_of_ble_eq_true rfl) (Nat.le_of_ble_eq_true rfl) rfl rfl ?_
    refine s_X4_howMany (t := 0) (by decide) hp hqk (by decide) ?_
    simp only [Option.toList_some, Option.toList_none, List.cons_append, List.nil_append]
    refine g_retI dX11_about_116 rfl rfl ?_
    exact a5 c
  · refine g_l dX11_about_0 rfl rfl ?_
    refine g_tsw (t := 117) (off := 116) dX11_about_1 (by decide) (by omega) (sw_c (v := 6) (by omega) (by decide)) ?_
    refine g_l dX11_about_117 rfl rfl ?_
    refine g_getf dX11_about_118 h0 f_11_35 rfl rfl ?_
    refine g_getf dX11_about_121 (hT0 (by omega)) f_11_134 rfl rfl ?_
    refine g_iconst dX11_about_124 rfl ?_
    refine g_callV dX11_about_125 m_11_138 (n := 1) rfl (hT7 (by omega)) rfl (Nat.le_of_ble_eq_true rfl) (Nat.le_of_ble_eq_true rfl) rfl rfl ?_
    refine s_X4_howMany (t := 0) (by decide) hp hqk (by decide) ?_
    simp only [Option.toList_some, Option.toList_none, List.cons_append, List.nil_append]
    refine g_retI dX11_about_128 rfl rfl ?_
    exact a6 c
  · refine g_l dX11_about_0 rfl rfl ?_
    refine g_tsw (t := 129) (off := 128) dX11_about_1 (by decide) (by omega) (sw_c (v := 7) (by omega) (by decide)) ?_
    refine g_l dX11_about_129 rfl rfl ?_
    refine g_getf dX11_about_130 h0 f_11_35 rfl rfl ?_
    refine g_getf dX11_about_133 (hT0 (by omega)) f_11_134 rfl rfl ?_
    refine g_iconst dX11_about_136 rfl ?_
    refine g_callV dX11_about_137 m_11_138 (n := 1) rfl (hT7 (by omega)) rfl (Nat.le_of_ble_eq_true rfl) (Nat.le_of_ble_eq_true rfl) rfl rfl ?_
    refine s_X4_howMany (t := 0) (by decide) hp hqk (by decide) ?_
    simp only [Option.toList_some, Option.toList_none, List.cons_append, List.nil_append]
    refine g_retI dX11_about_140 rfl rfl ?_
    exact a7 c
  · refine g_l dX11_about_0 rfl rfl ?_
    refine g_tsw (t := 141) (off := 140) dX11_about_1 (by decide) (by omega) (sw_c (v := 8) (by omega) (by decide)) ?_
    refine g_l dX11_about_141 rfl rfl ?_
    refine g_getf dX11_about_142 h0 f_11_63 rfl rfl ?_
    refine g_callV dX11_about_145 m_11_144 (n := 0) rfl h199 rfl (Nat.le_of_ble_eq_true rfl) (Nat.le_of_ble_eq_true rfl) rfl rfl ?_
    refine s_X0_count ?_
    simp only [Option.toList_some, Option.toList_none, List.cons_append, List.nil_append]
    refine g_retI dX11_about_148 rfl rfl ?_
    exact a8 c
  · refine g_l dX11_about_0 rfl rfl ?_
    refine g_tsw (t := 149) (off := 148) dX11_about_1 (by decide) (by omega) (sw_c (v := 9) (by omega) (by decide)) ?_
    refine g_l dX11_about_149 rfl rfl ?_
    refine g_getf dX11_about_150 h0 f_11_10 rfl rfl ?_
    refine g_callV dX11_about_153 m_11_146 (n := 0) rfl h1 rfl (Nat.le_of_ble_eq_true rfl) (Nat.le_of_ble_eq_true rfl) rfl rfl ?_
    refine s_X7_length ?_
    simp only [Option.toList_some, Option.toList_none, List.cons_append, List.nil_append]
    refine g_retI dX11_about_156 rfl rfl ?_
    exact a9 c
  · refine g_l dX11_about_0 rfl rfl ?_
    refine g_tsw (t := 157) (off := 156) dX11_about_1 (by decide) (by omega) (if_pos (by omega)) ?_
    refine g_bipush dX11_about_157 (by decide) rfl ?_
    refine g_retI dX11_about_159 rfl rfl ?_
    exact az c
theorem s_X11_kiln {k x : Int} (hk : R32 k) (hx : R32 x) (hp : pOk S) (hqk : qOk S (Tw 0)) (ht : 2 ≤ Tw 0 1 5 ∧ Tw 0 1 5 ≤ 5) (q1 : ¬ (0 ≤ k ∧ k < Tw 0 1 5) → Q (some (.int (iI (-1)))) (hO S Tw M P)) (a0 : 0 ≤ k ∧ k < Tw 0 1 5 → x = 0 → Q (some (.int (iI (Tw 0 2 k)))) (hO S Tw M P)) (a1 : 0 ≤ k ∧ k < Tw 0 1 5 → x = 1 → Q (some (.int (iI (Tw 0 3 k)))) (hO S Tw M P)) (a2 : 0 ≤ k ∧ k < Tw 0 1 5 → x = 2 → Q (some (.int (iI (Tw 0 4 k)))) (hO S Tw M P)) (a3 : 0 ≤ k ∧ k < Tw 0 1 5 → x = 3 → Q (some (.int (iI (setF (fun i => Tw 0 8 i = k) (S 13 5).toNat)))) (hO S Tw M P)) (az : 0 ≤ k ∧ k < Tw 0 1 5 → ¬ (0 ≤ x ∧ x ≤ 3) → Q (some (.int (iI (-2)))) (hO S Tw M P)) : CallD (d + 2) 88 [.ref 0, .int (iI k), .int (iI x)] (hO S Tw M P) Q := by
  refine g_enter (loc := [some _, some _, some _]) e_X11_kiln i_X11_kiln (Nat.le_of_ble_eq_true rfl) rfl ?_
  refine g_l dX11_kiln_0 rfl rfl ?_
  refine g_getf dX11_kiln_1 h0 f_11_35 rfl rfl ?_
  refine g_getf dX11_kiln_4 (hT0 (by omega)) f_11_56 rfl rfl ?_
  refine g_l dX11_kiln_7 rfl rfl ?_
  refine g_callV dX11_kiln_8 m_11_147 (n := 1) rfl (hT1 (by omega)) rfl (Nat.le_of_ble_eq_true rfl) (Nat.le_of_ble_eq_true rfl) rfl rfl ?_
  refine s_X2_isThere (t := 0) (by decide) hk (by omega) (fun z => ?_) (fun z => ?_)
  · simp only [Option.toList_some, Option.toList_none, List.cons_append, List.nil_append]
    rcases (show x = 0 ∨ x = 1 ∨ x = 2 ∨ x = 3 ∨ ¬ (0 ≤ x ∧ x ≤ 3) by omega) with c | c | c | c | c
    · refine g_if_ne (t := 16) dX11_kiln_11 (by decide) rfl (by omega) (fun c_11 => ?_) (fun c_11 => False.elim (by omega))
      refine g_l dX11_kiln_16 rfl rfl ?_
      refine g_tsw (t := 48) (off := 31) dX11_kiln_17 (by decide) (by omega) (sw_c (v := 0) (by omega) (by decide)) ?_
      refine g_l dX11_kiln_48 rfl rfl ?_
      refine g_getf dX11_kiln_49 h0 f_11_35 rfl rfl ?_
      refine g_getf dX11_kiln_52 (hT0 (by omega)) f_11_56 rfl rfl ?_
      refine g_getf dX11_kiln_55 (hT1 (by omega)) f_11_150 rfl rfl ?_
      refine g_l dX11_kiln_58 rfl rfl ?_
      refine g_iald dX11_kiln_59 (hTa2 (by omega)) (by omega) (by decide) rfl ?_
      refine g_retI dX11_kiln_60 rfl rfl ?_
      exact a0 z c
    · refine g_if_ne (t := 16) dX11_kiln_11 (by decide) rfl (by omega) (fun c_11 => ?_) (fun c_11 => False.elim (by omega))
      refine g_l dX11_kiln_16 rfl rfl ?_
      refine g_tsw (t := 61) (off := 44) dX11_kiln_17 (by decide) (by omega) (sw_c (v := 1) (by omega) (by decide)) ?_
      refine g_l dX11_kiln_61 rfl rfl ?_
      refine g_getf dX11_kiln_62 h0 f_11_35 rfl rfl ?_
      refine g_getf dX11_kiln_65 (hT0 (by omega)) f_11_56 rfl rfl ?_
      refine g_getf dX11_kiln_68 (hT1 (by omega)) f_11_154 rfl rfl ?_
      refine g_l dX11_kiln_71 rfl rfl ?_
      refine g_iald dX11_kiln_72 (hTa3 (by omega)) (by omega) (by decide) rfl ?_
      refine g_retI dX11_kiln_73 rfl rfl ?_
      exact a1 z c
    · refine g_if_ne (t := 16) dX11_kiln_11 (by decide) rfl (by omega) (fun c_11 => ?_) (fun c_11 => False.elim (by omega))
      refine g_l dX11_kiln_16 rfl rfl ?_
      refine g_tsw (t := 74) (off := 57) dX11_kiln_17 (by decide) (by omega) (sw_c (v := 2) (by omega) (by decide)) ?_
      refine g_l dX11_kiln_74 rfl rfl ?_
      refine g_getf dX11_kiln_75 h0 f_11_35 rfl rfl ?_
      refine g_getf dX11_kiln_78 (hT0 (by omega)) f_11_56 rfl rfl ?_
      refine g_getf dX11_kiln_81 (hT1 (by omega)) f_11_157 rfl rfl ?_
      refine g_l dX11_kiln_84 rfl rfl ?_
      refine g_iald dX11_kiln_85 (hTa4 (by omega)) (by omega) (by decide) rfl ?_
      refine g_retI dX11_kiln_86 rfl rfl ?_
      exact a2 z c
    · refine g_if_ne (t := 16) dX11_kiln_11 (by decide) rfl (by omega) (fun c_11 => ?_) (fun c_11 => False.elim (by omega))
      refine g_l dX11_kiln_16 rfl rfl ?_
      refine g_tsw (t := 87) (off := 70) dX11_kiln_17 (by decide) (by omega) (sw_c (v := 3) (by omega) (by decide)) ?_
      refine g_l dX11_kiln_87 rfl rfl ?_
      refine g_getf dX11_kiln_88 h0 f_11_35 rfl rfl ?_
      refine g_getf dX11_kiln_91 (hT0 (by omega)) f_11_134 rfl rfl ?_
      refine g_l dX11_kiln_94 rfl rfl ?_
      refine g_callV dX11_kiln_95 m_11_160 (n := 1) rfl (hT7 (by omega)) rfl (Nat.le_of_ble_eq_true rfl) (Nat.le_of_ble_eq_true rfl) rfl rfl ?_
      refine s_X4_potsIn (t := 0) (by decide) hp hqk (by omega) ?_
      simp only [Option.toList_some, Option.toList_none, List.cons_append, List.nil_append]
      refine g_retI dX11_kiln_98 rfl rfl ?_
      exact a3 z c
    · refine g_if_ne (t := 16) dX11_kiln_11 (by decide) rfl (by omega) (fun c_11 => ?_) (fun c_11 => False.elim (by omega))
      refine g_l dX11_kiln_16 rfl rfl ?_
      refine g_tsw (t := 99) (off := 82) dX11_kiln_17 (by decide) (by omega) (if_pos (by omega)) ?_
      refine g_bipush dX11_kiln_99 (by decide) rfl ?_
      refine g_retI dX11_kiln_101 rfl rfl ?_
      exact az z c
  · simp only [Option.toList_some, Option.toList_none, List.cons_append, List.nil_append]
    refine g_if_ne (t := 16) dX11_kiln_11 (by decide) rfl (by omega) (fun c_11 => False.elim (by omega)) (fun c_11 => ?_)
    refine g_iconst dX11_kiln_14 rfl ?_
    refine g_retI dX11_kiln_15 rfl rfl ?_
    exact q1 (by omega)
theorem s_X11_pot {p x : Int} (hp0 : R32 p) (hx : R32 x) (hp : 0 ≤ S 13 5 ∧ S 13 5 ≤ 5) (q1 : ¬ (0 ≤ p ∧ p < S 13 5) → Q (some (.int (iI (-1)))) (hO S Tw M P)) (a0 : 0 ≤ p ∧ p < S 13 5 → x = 0 → Q (some (.int (iI (Tw 0 8 p)))) (hO S Tw M P)) (a1 : 0 ≤ p ∧ p < S 13 5 → x = 1 → Q (some (.int (iI (S 14 p)))) (hO S Tw M P)) (a2 : 0 ≤ p ∧ p < S 13 5 → x = 2 → Q (some (.int (iI (S 15 p)))) (hO S Tw M P)) (a3 : 0 ≤ p ∧ p < S 13 5 → x = 3 → Q (some (.int (iI (S 16 p)))) (hO S Tw M P)) (a4 : 0 ≤ p ∧ p < S 13 5 → x = 4 → Q (some (.int (iI (S 17 p)))) (hO S Tw M P)) (a5 : 0 ≤ p ∧ p < S 13 5 → x = 5 → Q (some (.int (iI (S 18 p)))) (hO S Tw M P)) (a6 : 0 ≤ p ∧ p < S 13 5 → x = 6 → Q (some (.int (iI (Tw 0 9 p)))) (hO S Tw M P)) (a7 : 0 ≤ p ∧ p < S 13 5 → x = 7 → Q (some (.int (iI (Tw 0 10 p)))) (hO S Tw M P)) (az : 0 ≤ p ∧ p < S 13 5 → ¬ (0 ≤ x ∧ x ≤ 7) → Q (some (.int (iI (-2)))) (hO S Tw M P)) : CallD (d + 2) 89 [.ref 0, .int (iI p), .int (iI x)] (hO S Tw M P) Q := by
  refine g_enter (loc := [some _, some _, some _]) e_X11_pot i_X11_pot (Nat.le_of_ble_eq_true rfl) rfl ?_
  refine g_l dX11_pot_0 rfl rfl ?_
  refine g_getf dX11_pot_1 h0 f_11_26 rfl rfl ?_
  refine g_l dX11_pot_4 rfl rfl ?_
  refine g_callV dX11_pot_5 m_11_163 (n := 1) rfl h13 rfl (Nat.le_of_ble_eq_true rfl) (Nat.le_of_ble_eq_true rfl) rfl rfl ?_
  refine s_X8_isThere hp0 (by omega) (fun z => ?_) (fun z => ?_)
  · simp only [Option.toList_some, Option.toList_none, List.cons_append, List.nil_append]
    rcases (show x = 0 ∨ x = 1 ∨ x = 2 ∨ x = 3 ∨ x = 4 ∨ x = 5 ∨ x = 6 ∨ x = 7 ∨ ¬ (0 ≤ x ∧ x ≤ 7) by omega) with c | c | c | c | c | c | c | c | c
    · refine g_if_ne (t := 13) dX11_pot_8 (by decide) rfl (by omega) (fun c_8 => ?_) (fun c_8 => False.elim (by omega))
      refine g_l dX11_pot_13 rfl rfl ?_
      refine g_tsw (t := 60) (off := 46) dX11_pot_14 (by decide) (by omega) (sw_c (v := 0) (by omega) (by decide)) ?_
      refine g_l dX11_pot_60 rfl rfl ?_
      refine g_getf dX11_pot_61 h0 f_11_35 rfl rfl ?_
      refine g_getf dX11_pot_64 (hT0 (by omega)) f_11_134 rfl rfl ?_
      refine g_getf dX11_pot_67 (hT7 (by omega)) f_11_164 rfl rfl ?_
      refine g_l dX11_pot_70 rfl rfl ?_
      refine g_iald dX11_pot_71 (hTa8 (by omega)) (by omega) (by decide) rfl ?_
      refine g_retI dX11_pot_72 rfl rfl ?_
      exact a0 z c
    · refine g_if_ne (t := 13) dX11_pot_8 (by decide) rfl (by omega) (fun c_8 => ?_) (fun c_8 => False.elim (by omega))
      refine g_l dX11_pot_13 rfl rfl ?_
      refine g_tsw (t := 73) (off := 59) dX11_pot_14 (by decide) (by omega) (sw_c (v := 1) (by omega) (by decide)) ?_
      refine g_l dX11_pot_73 rfl rfl ?_
      refine g_getf dX11_pot_74 h0 f_11_26 rfl rfl ?_
      refine g_getf dX11_pot_77 h13 f_11_167 rfl rfl ?_
      refine g_l dX11_pot_80 rfl rfl ?_
      refine g_iald dX11_pot_81 h14 (by omega) (by decide) rfl ?_
      refine g_retI dX11_pot_82 rfl rfl ?_
      exact a1 z c
    · refine g_if_ne (t := 13) dX11_pot_8 (by decide) rfl (by omega) (fun c_8 => ?_) (fun c_8 => False.elim (by omega))
      refine g_l dX11_pot_13 rfl rfl ?_
      refine g_tsw (t := 83) (off := 69) dX11_pot_14 (by decide) (by omega) (sw_c (v := 2) (by omega) (by decide)) ?_
      refine g_l dX11_pot_83 rfl rfl ?_
      refine g_getf dX11_pot_84 h0 f_11_26 rfl rfl ?_
      refine g_getf dX11_pot_87 h13 f_11_170 rfl rfl ?_
      refine g_l dX11_pot_90 rfl rfl ?_
      refine g_iald dX11_pot_91 h15 (by omega) (by decide) rfl ?_
      refine g_retI dX11_pot_92 rfl rfl ?_
      exact a2 z c
    · refine g_if_ne (t := 13) dX11_pot_8 (by decide) rfl (by omega) (fun c_8 => ?_) (fun c_8 => False.elim (by omega))
      refine g_l dX11_pot_13 rfl rfl ?_
      refine g_tsw (t := 93) (off := 79) dX11_pot_14 (by decide) (by omega) (sw_c (v := 3) (by omega) (by decide)) ?_
      refine g_l dX11_pot_93 rfl rfl ?_
      refine g_getf dX11_pot_94 h0 f_11_26 rfl rfl ?_
      refine g_getf dX11_pot_97 h13 f_11_173 rfl rfl ?_
      refine g_l dX11_pot_100 rfl rfl ?_
      refine g_iald dX11_pot_101 h16 (by omega) (by decide) rfl ?_
      refine g_retI dX11_pot_102 rfl rfl ?_
      exact a3 z c
    · refine g_if_ne (t := 13) dX11_pot_8 (by decide) rfl (by omega) (fun c_8 => ?_) (fun c_8 => False.elim (by omega))
      refine g_l dX11_pot_13 rfl rfl ?_
      refine g_tsw (t := 103) (off := 89) dX11_pot_14 (by decide) (by omega) (sw_c (v := 4) (by omega) (by decide)) ?_
      refine g_l dX11_pot_103 rfl rfl ?_
      refine g_getf dX11_pot_104 h0 f_11_26 rfl rfl ?_
      refine g_getf dX11_pot_107 h13 f_11_176 rfl rfl ?_
      refine g_l dX11_pot_110 rfl rfl ?_
      refine g_iald dX11_pot_111 h17 (by omega) (by decide) rfl ?_
      refine g_retI dX11_pot_112 rfl rfl ?_
      exact a4 z c
    · refine g_if_ne (t := 13) dX11_pot_8 (by decide) rfl (by omega) (fun c_8 => ?_) (fun c_8 => False.elim (by omega))
      refine g_l dX11_pot_13 rfl rfl ?_
      refine g_tsw (t := 113) (off := 99) dX11_pot_14 (by decide) (by omega) (sw_c (v := 5) (by omega) (by decide)) ?_
      refine g_l dX11_pot_113 rfl rfl ?_
      refine g_getf dX11_pot_114 h0 f_11_26 rfl rfl ?_
      refine g_getf dX11_pot_117 h13 f_11_179 rfl rfl ?_
      refine g_l dX11_pot_120 rfl rfl ?_
      refine g_iald dX11_pot_121 h18 (by omega) (by decide) rfl ?_
      refine g_retI dX11_pot_122 rfl rfl ?_
      exact a5 z c
    · refine g_if_ne (t := 13) dX11_pot_8 (by decide) rfl (by omega) (fun c_8 => ?_) (fun c_8 => False.elim (by omega))
      refine g_l dX11_pot_13 rfl rfl ?_
      refine g_tsw (t := 123) (off := 109) dX11_pot_14 (by decide) (by omega) (sw_c (v := 6) (by omega) (by decide)) ?_
      refine g_l dX11_pot_123 rfl rfl ?_
      refine g_getf dX11_pot_124 h0 f_11_35 rfl rfl ?_
      refine g_getf dX11_pot_127 (hT0 (by omega)) f_11_134 rfl rfl ?_
      refine g_getf dX11_pot_130 (hT7 (by omega)) f_11_182 rfl rfl ?_
      refine g_l dX11_pot_133 rfl rfl ?_
      refine g_iald dX11_pot_134 (hTa9 (by omega)) (by omega) (by decide) rfl ?_
      refine g_retI dX11_pot_135 rfl rfl ?_
      exact a6 z c
    · refine g_if_ne (t := 13) dX11_pot_8 (by decide) rfl (by omega) (fun c_8 => ?_) (fun c_8 => False.elim (by omega))
      refine g_l dX11_pot_13 rfl rfl ?_
      refine g_tsw (t := 136) (off := 122) dX11_pot_14 (by decide) (by omega) (sw_c (v := 7) (by omega) (by decide)) ?_
      refine g_l dX11_pot_136 rfl rfl ?_
      refine g_getf dX11_pot_137 h0 f_11_35 rfl rfl ?_
      refine g_getf dX11_pot_140 (hT0 (by omega)) f_11_134 rfl rfl ?_
      refine g_getf dX11_pot_143 (hT7 (by omega)) f_11_185 rfl rfl ?_
      refine g_l dX11_pot_146 rfl rfl ?_
      refine g_iald dX11_pot_147 (hTa10 (by omega)) (by omega) (by decide) rfl ?_
      refine g_retI dX11_pot_148 rfl rfl ?_
      exact a7 z c
    · refine g_if_ne (t := 13) dX11_pot_8 (by decide) rfl (by omega) (fun c_8 => ?_) (fun c_8 => False.elim (by omega))
      refine g_l dX11_pot_13 rfl rfl ?_
      refine g_tsw (t := 149) (off := 135) dX11_pot_14 (by decide) (by omega) (if_pos (by omega)) ?_
      refine g_bipush dX11_pot_149 (by decide) rfl ?_
      refine g_retI dX11_pot_151 rfl rfl ?_
      exact az z c
  · simp only [Option.toList_some, Option.toList_none, List.cons_append, List.nil_append]
    refine g_if_ne (t := 13) dX11_pot_8 (by decide) rfl (by omega) (fun c_8 => False.elim (by omega)) (fun c_8 => ?_)
    refine g_iconst dX11_pot_11 rfl ?_
    refine g_retI dX11_pot_12 rfl rfl ?_
    exact q1 (by omega)
theorem s_X11_least {x n B : Int} (hx : R32 x) (hn : R32 n) (hp : pOk S) (ht : twOk S (Tw 0) B) (hB : B ≤ 800000) (q1 : ¬ ((0 ≤ x ∧ x < bShl 1 (S 13 5)) ∧ 1 ≤ n ∧ n ≤ 3) → Q (some (.int (iI (-2)))) (hO S Tw M P))
    (q2 : (0 ≤ x ∧ x < bShl 1 (S 13 5)) ∧ 1 ≤ n ∧ n ≤ 3 → ∀ S' Tw', frW S S' → (∀ v, v < 16 → Tw' v = Tw v) → Q (some (.int (iI (lwF S x n.toNat (Tw 0) (S 207))))) (hO S' Tw' M P)) : CallD (d + 11) 97 [.ref 0, .int (iI x), .int (iI n)] (hO S Tw M P) Q := by
  refine g_enter (loc := [some _, some _, some _]) e_X11_least i_X11_least (Nat.le_of_ble_eq_true rfl) rfl ?_
  refine g_l dX11_least_0 rfl rfl ?_
  refine g_getf dX11_least_1 h0 f_11_26 rfl rfl ?_
  refine g_l dX11_least_4 rfl rfl ?_
  refine g_callV dX11_least_5 m_11_212 (n := 1) rfl h13 rfl (Nat.le_of_ble_eq_true rfl) (Nat.le_of_ble_eq_true rfl) rfl rfl ?_
  refine s_X8_isSet hx (fun z => ?_) (fun z => ?_)
  · simp only [Option.toList_some, Option.toList_none, List.cons_append, List.nil_append]
    refine g_if_eq (t := 19) dX11_least_8 (by decide) rfl (by omega) (fun c_8 => False.elim (by omega)) (fun c_8 => ?_)
    refine g_l dX11_least_11 rfl rfl ?_
    refine g_iconst dX11_least_12 rfl ?_
    refine g_callS dX11_least_13 m_11_201 (n := 2) rfl (by exact Nat.le_of_ble_eq_true rfl) (by exact Nat.le_of_ble_eq_true rfl) (by rfl) (by rfl) (by rfl) ?_
    refine s_X11_isSpan hn (by decide) (fun y => ?_) (fun y => ?_)
    · simp only [Option.toList_some, Option.toList_none, List.cons_append, List.nil_append]
      refine g_if_ne (t := 22) dX11_least_16 (by decide) rfl (by omega) (fun c_16 => ?_) (fun c_16 => False.elim (by omega))
      refine g_l dX11_least_22 rfl rfl ?_
      refine g_getf dX11_least_23 h0 f_11_81 rfl rfl ?_
      refine g_l dX11_least_26 rfl rfl ?_
      refine g_l dX11_least_27 rfl rfl ?_
      refine g_callV dX11_least_28 m_11_215 (n := 2) rfl h206 rfl (Nat.le_of_ble_eq_true rfl) (Nat.le_of_ble_eq_true rfl) rfl rfl ?_
      refine s_X10_search hp ht hB y (fun S' Tw' a1 a2 a3 => ?_)
      simp only [Option.toList_some, Option.toList_none, List.cons_append, List.nil_append]
      have h := q2 ⟨z, y⟩ S' Tw' a1 a2
      generalize lwF S x n.toNat (Tw 0) (S 207) = r at h ⊢
      refine g_retI dX11_least_31 rfl rfl ?_
      exact h
    · simp only [Option.toList_some, Option.toList_none, List.cons_append, List.nil_append]
      refine g_if_ne (t := 22) dX11_least_16 (by decide) rfl (by omega) (fun c_16 => False.elim (by omega)) (fun c_16 => ?_)
      refine g_bipush dX11_least_19 (by decide) rfl ?_
      refine g_retI dX11_least_21 rfl rfl ?_
      exact q1 (fun v => y v.2)
  · simp only [Option.toList_some, Option.toList_none, List.cons_append, List.nil_append]
    refine g_if_eq (t := 19) dX11_least_8 (by decide) rfl (by omega) (fun c_8 => ?_) (fun c_8 => False.elim (by omega))
    refine g_bipush dX11_least_19 (by decide) rfl ?_
    refine g_retI dX11_least_21 rfl rfl ?_
    exact q1 (fun v => by have := v.1; omega)
end OD
