/-! Kilns: the spec of each method, by the ghost machine -/
section KI
variable {S : Nat → Int → Int} {Tw : Nat → Nat → Int → Int} {M : Nat → Int → Int} {P : Nat → Nat} {d : Nat} {Q : Option Value → GH → Prop}
theorem s_X2_isThere {t : Nat} {k : Int} (ht : t < 19) (hk : R32 k) (hn : R32 (Tw t 1 5)) (h1 : 0 ≤ k ∧ k < Tw t 1 5 → Q (some (.int (iI 1))) (hO S Tw M P)) (h0 : k < 0 ∨ Tw t 1 5 ≤ k → Q (some (.int (iI 0))) (hO S Tw M P)) : CallD (d + 1) 16 [.ref (tR t 1), .int (iI k)] (hO S Tw M P) Q := by
  refine g_enter (loc := [some _, some _]) e_X2_isThere i_X2_isThere (Nat.le_of_ble_eq_true rfl) rfl ?_
  refine g_l dX2_isThere_0 rfl rfl ?_
  refine g_if_lt (t := 16) dX2_isThere_1 (by decide) rfl (by omega) (fun c_1 => ?_) (fun c_1 => ?_)
  · refine g_iconst dX2_isThere_16 rfl ?_
    refine g_retZ dX2_isThere_17 rfl rfl (by omega) ?_
    exact h0 (by omega)
  · refine g_l dX2_isThere_4 rfl rfl ?_
    refine g_l dX2_isThere_5 rfl rfl ?_
    refine g_getf dX2_isThere_6 (hT1 (by omega)) f_2_27 rfl rfl ?_
    refine g_icmp_ge (t := 16) dX2_isThere_9 (by decide) rfl (by omega) (by omega) (fun c_9 => ?_) (fun c_9 => ?_)
    · refine g_iconst dX2_isThere_16 rfl ?_
      refine g_retZ dX2_isThere_17 rfl rfl (by omega) ?_
      exact h0 (by omega)
    · refine g_iconst dX2_isThere_12 rfl ?_
      refine g_goto (t := 17) dX2_isThere_13 (by decide) ?_
      refine g_retZ dX2_isThere_17 rfl rfl (by omega) ?_
      exact h1 (by omega)
end KI
