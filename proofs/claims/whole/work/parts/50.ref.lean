/-! the reference: small questions -/
section RA
variable {S : Nat → Int → Int} {Tw : Nat → Nat → Int → Int} {M : Nat → Int → Int} {P : Nat → Nat} {d : Nat} {Q : Option Value → GH → Prop}
theorem cmp3_s (a b : Int) : R32 (cmp3 a b) ∧ (cmp3 a b < 0 ↔ a < b) ∧ (0 < cmp3 a b ↔ b < a) := by
  unfold cmp3
  split
  · omega
  · split <;> omega
theorem s_X12_in {v a b : Int} (hv : R64 v) (ha : R64 a) (hb : R64 b) (hy : a ≤ v ∧ v ≤ b → Q (some (.int (iI 1))) (hO S Tw M P)) (hn : ¬ (a ≤ v ∧ v ≤ b) → Q (some (.int (iI 0))) (hO S Tw M P)) : CallD (d + 1) 114 [.long (lI v), .long (lI a), .long (lI b)] (hO S Tw M P) Q := by
  obtain ⟨c1, c2, c3⟩ := cmp3_s v a
  obtain ⟨e1, e2, e3⟩ := cmp3_s v b
  refine g_enter (loc := [some _, _, some _, _, some _, _]) e_X12_in i_X12_in (Nat.le_of_ble_eq_true rfl) rfl ?_
  refine g_l dX12_in_0 rfl rfl ?_
  refine g_l dX12_in_1 rfl rfl ?_
  refine g_lcmp dX12_in_2 hv ha rfl ?_
  refine g_if_lt (t := 17) dX12_in_3 (by decide) rfl (by omega) (fun c_3 => ?_) (fun c_3 => ?_)
  · refine g_iconst dX12_in_17 rfl ?_
    refine g_retZ dX12_in_18 rfl rfl (by omega) ?_
    exact hn (by omega)
  · refine g_l dX12_in_6 rfl rfl ?_
    refine g_l dX12_in_7 rfl rfl ?_
    refine g_lcmp dX12_in_9 hv hb rfl ?_
    refine g_if_gt (t := 17) dX12_in_10 (by decide) rfl (by omega) (fun c_10 => ?_) (fun c_10 => ?_)
    · refine g_iconst dX12_in_17 rfl ?_
      refine g_retZ dX12_in_18 rfl rfl (by omega) ?_
      exact hn (by omega)
    · refine g_iconst dX12_in_13 rfl ?_
      refine g_goto (t := 18) dX12_in_14 (by decide) ?_
      refine g_retZ dX12_in_18 rfl rfl (by omega) ?_
      exact hy (by omega)
theorem s_X12_has {x k : Int} (hy : hasB x k → Q (some (.int (iI 1))) (hO S Tw M P)) (hn : ¬ hasB x k → Q (some (.int (iI 0))) (hO S Tw M P)) : CallD (d + 1) 115 [.int (iI x), .int (iI k)] (hO S Tw M P) Q := by
  have rb : R32 (bAnd (bShr x k) 1) := R_bAnd
  unfold hasB at hy hn
  refine g_enter (loc := [some _, some _]) e_X12_has i_X12_has (Nat.le_of_ble_eq_true rfl) rfl ?_
  refine g_l dX12_has_0 rfl rfl ?_
  refine g_l dX12_has_1 rfl rfl ?_
  refine g_ishr dX12_has_2 rfl ?_
  refine g_iconst dX12_has_3 rfl ?_
  refine g_iand dX12_has_4 rfl ?_
  refine g_iconst dX12_has_5 rfl ?_
  refine g_icmp_ne (t := 13) dX12_has_6 (by decide) rfl (by omega) (by omega) (fun c_6 => ?_) (fun c_6 => ?_)
  · refine g_iconst dX12_has_13 rfl ?_
    refine g_retZ dX12_has_14 rfl rfl (by omega) ?_
    exact hn c_6
  · refine g_iconst dX12_has_9 rfl ?_
    refine g_goto (t := 14) dX12_has_10 (by decide) ?_
    refine g_retZ dX12_has_14 rfl rfl (by omega) ?_
    exact hy (by omega)
theorem s_X12_noKiln {k : Int} (hk : R32 k) (hm : 2 ≤ M 0 4 ∧ M 0 4 ≤ 5) (hy : ¬ (0 ≤ k ∧ k < M 0 4) → Q (some (.int (iI 1))) (hO S Tw M P)) (hn : 0 ≤ k ∧ k < M 0 4 → Q (some (.int (iI 0))) (hO S Tw M P)) : CallD (d + 2) 116 [.ref 248, .int (iI k)] (hO S Tw M P) Q := by
  refine g_enter (loc := [some _, some _]) e_X12_noKiln i_X12_noKiln (Nat.le_of_ble_eq_true rfl) rfl ?_
  refine g_l dX12_noKiln_0 rfl rfl ?_
  refine g_i2l dX12_noKiln_1 hk rfl ?_
  refine g_lconst0 dX12_noKiln_2 rfl rfl ?_
  refine g_l dX12_noKiln_3 rfl rfl ?_
  refine g_getf dX12_noKiln_4 h248 f_12_13 rfl rfl ?_
  refine g_iconst dX12_noKiln_7 rfl ?_
  refine g_isub dX12_noKiln_8 rfl ?_
  refine g_i2l dX12_noKiln_9 (by omega) rfl ?_
  refine g_callS dX12_noKiln_10 m_12_111 (n := 3) rfl (by exact Nat.le_of_ble_eq_true rfl) (by exact Nat.le_of_ble_eq_true rfl) (by rfl) (by rfl) (by rfl) ?_
  refine s_X12_in (by omega) (by omega) (by omega) (fun z => ?_) (fun z => ?_)
  · simp only [Option.toList_some, Option.toList_none, List.cons_append, List.nil_append]
    refine g_if_ne (t := 20) dX12_noKiln_13 (by decide) rfl (by omega) (fun c_13 => ?_) (fun c_13 => False.elim (by omega))
    refine g_iconst dX12_noKiln_20 rfl ?_
    refine g_retZ dX12_noKiln_21 rfl rfl (by omega) ?_
    exact hn (by omega)
  · simp only [Option.toList_some, Option.toList_none, List.cons_append, List.nil_append]
    refine g_if_ne (t := 20) dX12_noKiln_13 (by decide) rfl (by omega) (fun c_13 => False.elim (by omega)) (fun c_13 => ?_)
    refine g_iconst dX12_noKiln_16 rfl ?_
    refine g_goto (t := 21) dX12_noKiln_17 (by decide) ?_
    refine g_retZ dX12_noKiln_21 rfl rfl (by omega) ?_
    exact hy (by omega)
theorem s_X12_noPot {k : Int} (hk : R32 k) (hm : 0 ≤ M 0 5 ∧ M 0 5 ≤ 5) (hy : ¬ (0 ≤ k ∧ k < M 0 5) → Q (some (.int (iI 1))) (hO S Tw M P)) (hn : 0 ≤ k ∧ k < M 0 5 → Q (some (.int (iI 0))) (hO S Tw M P)) : CallD (d + 2) 117 [.ref 248, .int (iI k)] (hO S Tw M P) Q := by
  refine g_enter (loc := [some _, some _]) e_X12_noPot i_X12_noPot (Nat.le_of_ble_eq_true rfl) rfl ?_
  refine g_l dX12_noPot_0 rfl rfl ?_
  refine g_i2l dX12_noPot_1 hk rfl ?_
  refine g_lconst0 dX12_noPot_2 rfl rfl ?_
  refine g_l dX12_noPot_3 rfl rfl ?_
  refine g_getf dX12_noPot_4 h248 f_12_115 rfl rfl ?_
  refine g_iconst dX12_noPot_7 rfl ?_
  refine g_isub dX12_noPot_8 rfl ?_
  refine g_i2l dX12_noPot_9 (by omega) rfl ?_
  refine g_callS dX12_noPot_10 m_12_111 (n := 3) rfl (by exact Nat.le_of_ble_eq_true rfl) (by exact Nat.le_of_ble_eq_true rfl) (by rfl) (by rfl) (by rfl) ?_
  refine s_X12_in (by omega) (by omega) (by omega) (fun z => ?_) (fun z => ?_)
  · simp only [Option.toList_some, Option.toList_none, List.cons_append, List.nil_append]
    refine g_if_ne (t := 20) dX12_noPot_13 (by decide) rfl (by omega) (fun c_13 => ?_) (fun c_13 => False.elim (by omega))
    refine g_iconst dX12_noPot_20 rfl ?_
    refine g_retZ dX12_noPot_21 rfl rfl (by omega) ?_
    exact hn (by omega)
  · simp only [Option.toList_some, Option.toList_none, List.cons_append, List.nil_append]
    refine g_if_ne (t := 20) dX12_noPot_13 (by decide) rfl (by omega) (fun c_13 => False.elim (by omega)) (fun c_13 => ?_)
    refine g_iconst dX12_noPot_16 rfl ?_
    refine g_goto (t := 21) dX12_noPot_17 (by decide) ?_
    refine g_retZ dX12_noPot_21 rfl rfl (by omega) ?_
    exact hy (by omega)
end RA
