/-! owed, gales -/
theorem l2i_e (z : Int) : iI (lI z).toInt32.toInt = iI z := by
  rw [iI_of]
  exact Int64.toInt32_ofInt
theorem pwF_add (b : Int) (i : Nat) : ∀ j : Nat, pwF b (i + j) = pwF b i * pwF b j
  | 0 => by show pwF b i = pwF b i * 1; rw [Int.mul_one]
  | j + 1 => by
    show pwF b (i + j) * b = pwF b i * (pwF b j * b)
    rw [pwF_add b i j, Int.mul_assoc]
theorem wtF_in {n x j : Int} (hn : 0 ≤ n ∧ n ≤ 9) (hx : 0 ≤ x ∧ x ≤ 10) (h0 : 0 ≤ bcF j) (h1 : bcF j ≤ n) : 0 ≤ wtF n x j ∧ wtF n x j ≤ 1000000000 := by
  have g1 := pwF_in hx (bcF j).toNat
  have g2 := pwF_in (b := 10 - x) (by omega) (n - bcF j).toNat
  have g3 := (pw_mono ⟨n.toNat, by omega⟩).1
  have g4 := (pw_mono ⟨(bcF j).toNat, by omega⟩).2
  have e : (bcF j).toNat + (n - bcF j).toNat = n.toNat := by omega
  have g5 := pwF_add 10 (bcF j).toNat (n - bcF j).toNat
  rw [e] at g5
  refine ⟨Int.mul_nonneg g1.1 g2.1, ?_⟩
  have g6 : wtF n x j ≤ pwF 10 (bcF j).toNat * pwF 10 (n - bcF j).toNat := Int.mul_le_mul g1.2 g2.2 g2.1 (by show 0 ≤ pwF 10 (bcF j).toNat; have : (1 : Int) ≤ pwF 10 (bcF j).toNat := g4; omega)
  rw [← g5] at g6
  exact Int.le_trans g6 g3
theorem cwL_in {S : Nat → Int → Int} {X : Nat → Int → Int} {p sb n w x : Int} (hn : 0 ≤ n ∧ n ≤ 9) (hx : 0 ≤ x ∧ x ≤ 10) : ∀ m : Nat, m ≤ 2 ^ n.toNat → 0 ≤ cwL S X p sb n w x m ∧ cwL S X p sb n w x m ≤ 1000000000 * m
  | 0, _ => ⟨by rw [cwL]; omega, by rw [cwL]; omega⟩
  | m + 1, hm => by
    have ih := cwL_in (S := S) (X := X) (p := p) (sb := sb) (w := w) hn hx m (by omega)
    have h5 := (sh_1 ⟨n.toNat, by omega⟩).2
    have h6 : 2 ^ n.toNat ≤ 512 := h5
    have b1 := bc_le ⟨n.toNat, by omega⟩ ⟨m, by omega⟩ (by show m < 2 ^ n.toNat; omega)
    have b2 := bc_0 ⟨m, by omega⟩
    simp only [Int.toNat_of_nonneg hn.1] at b1
    have := wtF_in (j := (m : Int)) hn hx b2 b1
    rw [cwL]
    split <;> omega
section GA
variable {S : Nat → Int → Int} {Tw : Nat → Nat → Int → Int} {M : Nat → Int → Int} {P : Nat → Nat} {d : Nat} {Q : Option Value → GH → Prop}
theorem s_X11_owed {k up B : Int} (hk : R32 k) (hu : up = 0 ∨ up = 1) (ht : tOk (Tw 0) B) (hB : B ≤ 900000) (hs : 0 ≤ sumF (Tw 0 2) (Tw 0 1 5).toNat ∧ sumF (Tw 0 2) (Tw 0 1 5).toNat ≤ 900000) (q1 : ¬ (0 ≤ k ∧ k < Tw 0 1 5) → Q (some (.int (iI (-1)))) (hO S Tw M P)) (q2 : 0 ≤ k ∧ k < Tw 0 1 5 → Q (some (.int (iI (ptF (Tw 0 2 k) (sumF (Tw 0 2) (Tw 0 1 5).toNat) up)))) (hO S Tw M P)) : CallD (d + 3) 106 [.ref 0, .int (iI k), .int (iI up)] (hO S Tw M P) Q := by
  have t1 := ht.1
  have t2 := ht.2.1
  refine g_enter (loc := [some _, some _, some _]) e_X11_owed i_X11_owed (Nat.le_of_ble_eq_true rfl) rfl ?_
  refine g_l dX11_owed_0 rfl rfl ?_
  refine g_getf dX11_owed_1 h0 f_11_35 rfl rfl ?_
  refine g_getf dX11_owed_4 (hT0 (by omega)) f_11_56 rfl rfl ?_
  refine g_l dX11_owed_7 rfl rfl ?_
  refine g_callV dX11_owed_8 m_11_147 (n := 1) rfl (hT1 (by omega)) rfl (Nat.le_of_ble_eq_true rfl) (Nat.le_of_ble_eq_true rfl) rfl rfl ?_
  refine s_X2_isThere (t := 0) (by decide) hk (by omega) (fun z => ?_) (fun z => ?_)
  · have kk := ((ht.k (by omega)).2.2 k z.1 (by omega)).1
    simp only [Option.toList_some, Option.toList_none, List.cons_append, List.nil_append]
    refine g_if_ne (t := 16) dX11_owed_11 (by decide) rfl (by omega) (fun c_11 => ?_) (fun c_11 => False.elim (by omega))
    refine g_l dX11_owed_16 rfl rfl ?_
    refine g_getf dX11_owed_17 h0 f_11_35 rfl rfl ?_
    refine g_getf dX11_owed_20 (hT0 (by omega)) f_11_56 rfl rfl ?_
    refine g_getf dX11_owed_23 (hT1 (by omega)) f_11_150 rfl rfl ?_
    refine g_l dX11_owed_26 rfl rfl ?_
    refine g_iald dX11_owed_27 (hTa2 (by omega)) (by omega) (by decide) rfl ?_
    refine g_i2l dX11_owed_28 (by omega) rfl ?_
    refine g_l dX11_owed_29 rfl rfl ?_
    refine g_getf dX11_owed_30 h0 f_11_35 rfl rfl ?_
    refine g_getf dX11_owed_33 (hT0 (by omega)) f_11_56 rfl rfl ?_
    refine g_callV dX11_owed_36 m_11_128 (n := 0) rfl (hT1 (by omega)) rfl (Nat.le_of_ble_eq_true rfl) (Nat.le_of_ble_eq_true rfl) rfl rfl ?_
    refine s_X2_allHeat (t := 0) (by decide) (by omega) ?_
    simp only [Option.toList_some, Option.toList_none, List.cons_append, List.nil_append]
    refine g_i2l dX11_owed_39 (by omega) rfl ?_
    refine g_l dX11_owed_40 rfl rfl ?_
    refine g_callS dX11_owed_41 m_11_240 (n := 3) rfl (by exact Nat.le_of_ble_eq_true rfl) (by exact Nat.le_of_ble_eq_true rfl) (by rfl) (by rfl) (by rfl) ?_
    refine s_X11_part (by omega) (by omega) hu ?_
    simp only [Option.toList_some, Option.toList_none, List.cons_append, List.nil_append]
    have h := q2 z
    generalize ptF (Tw 0 2 k) (sumF (Tw 0 2) (Tw 0 1 5).toNat) up = r at h ⊢
    refine g_l2i dX11_owed_44 rfl ?_
    rw [l2i_e]
    refine g_retI dX11_owed_45 rfl rfl ?_
    exact h
  · simp only [Option.toList_some, Option.toList_none, List.cons_append, List.nil_append]
    refine g_if_ne (t := 16) dX11_owed_11 (by decide) rfl (by omega) (fun c_11 => False.elim (by omega)) (fun c_11 => ?_)
    refine g_iconst dX11_owed_14 rfl ?_
    refine g_retI dX11_owed_15 rfl rfl ?_
    exact q1 (by omega)
theorem s_X11_gales {p n w x up B : Int} (hp0 : R32 p) (hn : R32 n) (hw : R32 w) (hx : R32 x) (hu : up = 0 ∨ up = 1) (hp : pOk S) (ht : twOk S (Tw 0) B) (hB : B ≤ 900000) (q1 : ¬ (0 ≤ p ∧ p < S 13 5) → Q (some (.long (-1))) (hO S Tw M P)) (q2 : 0 ≤ p ∧ p < S 13 5 → ¬ (((1 ≤ n ∧ n ≤ 8) ∧ 0 ≤ w ∧ w ≤ 9) ∧ 0 ≤ x ∧ x ≤ 10) → Q (some (.long (-2))) (hO S Tw M P))
    (q3 : 0 ≤ p ∧ p < S 13 5 → ((1 ≤ n ∧ n ≤ 8) ∧ 0 ≤ w ∧ w ≤ 9) ∧ 0 ≤ x ∧ x ≤ 10 → ∀ Tw', frT 15 Tw Tw' → Q (some (.long (lI (ptF (cwL S (Tw 0) p (sbF S (Tw 0) (Tw 0 8 p)) n w x (2 ^ n.toNat)) (pwF 10 n.toNat) up)))) (hO S Tw' M P)) : CallD (d + 6) 102 [.ref 0, .int (iI p), .int (iI n), .int (iI w), .int (iI x), .int (iI up)] (hO S Tw M P) Q := by
  have t1 := hp.1
  have t2 := hp.2.1
  refine g_enter (loc := [some _, some _, some _, some _, some _, some _]) e_X11_gales i_X11_gales (Nat.le_of_ble_eq_true rfl) rfl ?_
  refine g_l dX11_gales_0 rfl rfl ?_
  refine g_getf dX11_gales_1 h0 f_11_26 rfl rfl ?_
  refine g_l dX11_gales_4 rfl rfl ?_
  refine g_callV dX11_gales_5 m_11_163 (n := 1) rfl h13 rfl (Nat.le_of_ble_eq_true rfl) (Nat.le_of_ble_eq_true rfl) rfl rfl ?_
  refine s_X8_isThere hp0 (by omega) (fun z => ?_) (fun z => ?_)
  · simp only [Option.toList_some, Option.toList_none, List.cons_append, List.nil_append]
    refine g_if_ne (t := 15) dX11_gales_8 (by decide) rfl (by omega) (fun c_8 => ?_) (fun c_8 => False.elim (by omega))
    refine g_l dX11_gales_15 rfl rfl ?_
    refine g_bipush dX11_gales_16 (by decide) rfl ?_
    refine g_callS dX11_gales_18 m_11_201 (n := 2) rfl (by exact Nat.le_of_ble_eq_true rfl) (by exact Nat.le_of_ble_eq_true rfl) (by rfl) (by rfl) (by rfl) ?_
    refine s_X11_isSpan hn (by decide) (fun y => ?_) (fun y => ?_)
    · simp only [Option.toList_some, Option.toList_none, List.cons_append, List.nil_append]
      refine g_if_eq (t := 43) dX11_gales_21 (by decide) rfl (by omega) (fun c_21 => False.elim (by omega)) (fun c_21 => ?_)
      refine g_l dX11_gales_24 rfl rfl ?_
      refine g_callS dX11_gales_25 m_11_188 (n := 1) rfl (by exact Nat.le_of_ble_eq_true rfl) (by exact Nat.le_of_ble_eq_true rfl) (by rfl) (by rfl) (by rfl) ?_
      refine s_X11_isWood hw (fun v => ?_) (fun v => ?_)
      · simp only [Option.toList_some, Option.toList_none, List.cons_append, List.nil_append]
        refine g_if_eq (t := 43) dX11_gales_28 (by decide) rfl (by omega) (fun c_28 => False.elim (by omega)) (fun c_28 => ?_)
        refine g_l dX11_gales_31 rfl rfl ?_
        refine g_if_lt (t := 43) dX11_gales_33 (by decide) rfl (by omega) (fun c_33 => ?_) (fun c_33 => ?_)
        · refine g_ldc2_w dX11_gales_43 k_11_230 rfl ?_
          refine g_retL dX11_gales_46 rfl rfl ?_
          exact q2 z (by omega)
        · refine g_l dX11_gales_36 rfl rfl ?_
          refine g_bipush dX11_gales_38 (by decide) rfl ?_
          refine g_icmp_le (t := 47) dX11_gales_40 (by decide) rfl (by omega) (by omega) (fun c_40 => ?_) (fun c_40 => ?_)
          · refine g_l dX11_gales_47 rfl rfl ?_
            refine g_getf dX11_gales_48 h0 f_11_72 rfl rfl ?_
            refine g_l dX11_gales_51 rfl rfl ?_
            refine g_l dX11_gales_52 rfl rfl ?_
            refine g_l dX11_gales_53 rfl rfl ?_
            refine g_l dX11_gales_54 rfl rfl ?_
            refine g_callV dX11_gales_56 m_11_232 (n := 4) rfl h205 rfl (Nat.le_of_ble_eq_true rfl) (Nat.le_of_ble_eq_true rfl) rfl rfl ?_
            refine s_X3_crackingWays hp ht hB z (by omega) v (by omega) (fun Tw' a => ?_)
            simp only [Option.toList_some, Option.toList_none, List.cons_append, List.nil_append]
            refine g_bipush dX11_gales_59 (by decide) rfl ?_
            refine g_l dX11_gales_61 rfl rfl ?_
            refine g_callS dX11_gales_62 m_11_236 (n := 2) rfl (by exact Nat.le_of_ble_eq_true rfl) (by exact Nat.le_of_ble_eq_true rfl) (by rfl) (by rfl) (by rfl) ?_
            refine s_X3_power (by decide) (by omega) ?_
            simp only [Option.toList_some, Option.toList_none, List.cons_append, List.nil_append]
            have c1 := cwL_in (S := S) (X := Tw 0) (p := p) (sb := sbF S (Tw 0) (Tw 0 8 p)) (n := n) (w := w) (x := x) (by omega) (by omega) (2 ^ n.toNat) (Nat.le_refl _)
            have c2 : 2 ^ n.toNat ≤ 512 := (sh_1 ⟨n.toNat, by omega⟩).2
            have c3 := pw_mono ⟨n.toNat, by omega⟩
            have h := q3 z ⟨⟨y, v⟩, by omega⟩ Tw' a
            simp only [] at c3
            generalize hN : 2 ^ n.toNat = N at c1 c2 h ⊢
            generalize cwL S (Tw 0) p (sbF S (Tw 0) (Tw 0 8 p)) n w x N = cw at c1 h ⊢
            generalize pwF 10 n.toNat = pw at c3 h ⊢
            refine g_l dX11_gales_65 rfl rfl ?_
            refine g_callS dX11_gales_67 m_11_240 (n := 3) rfl (by exact Nat.le_of_ble_eq_true rfl) (by exact Nat.le_of_ble_eq_true rfl) (by rfl) (by rfl) (by rfl) ?_
            refine s_X11_part (by omega) (by omega) hu ?_
            simp only [Option.toList_some, Option.toList_none, List.cons_append, List.nil_append]
            generalize ptF cw pw up = r at h ⊢
            refine g_retL dX11_gales_70 rfl rfl ?_
            exact h
          · refine g_ldc2_w dX11_gales_43 k_11_230 rfl ?_
            refine g_retL dX11_gales_46 rfl rfl ?_
            exact q2 z (by omega)
      · simp only [Option.toList_some, Option.toList_none, List.cons_append, List.nil_append]
        refine g_if_eq (t := 43) dX11_gales_28 (by decide) rfl (by omega) (fun c_28 => ?_) (fun c_28 => False.elim (by omega))
        refine g_ldc2_w dX11_gales_43 k_11_230 rfl ?_
        refine g_retL dX11_gales_46 rfl rfl ?_
        exact q2 z (fun u => v u.1.2)
    · simp only [Option.toList_some, Option.toList_none, List.cons_append, List.nil_append]
      refine g_if_eq (t := 43) dX11_gales_21 (by decide) rfl (by omega) (fun c_21 => ?_) (fun c_21 => False.elim (by omega))
      refine g_ldc2_w dX11_gales_43 k_11_230 rfl ?_
      refine g_retL dX11_gales_46 rfl rfl ?_
      exact q2 z (fun u => y u.1.1)
  · simp only [Option.toList_some, Option.toList_none, List.cons_append, List.nil_append]
    refine g_if_ne (t := 15) dX11_gales_8 (by decide) rfl (by omega) (fun c_8 => False.elim (by omega)) (fun c_8 => ?_)
    refine g_ldc2_w dX11_gales_11 k_11_228 rfl ?_
    refine g_retL dX11_gales_14 rfl rfl ?_
    exact q1 (by omega)
end GA
