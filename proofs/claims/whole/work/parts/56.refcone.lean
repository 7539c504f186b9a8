/-! the reference: cones, shares, slots -/
theorem hIt_in {n w : Int} {s dm : Int → Int} (hn : 2 ≤ n ∧ n ≤ 5) (hw : 0 ≤ w ∧ w ≤ 9) (hk : ∀ k, 0 ≤ k → k < 5 → 0 ≤ s k ∧ 0 ≤ dm k ∧ s k + dm k ≤ 10) : ∀ m : Nat, (∀ k, 0 ≤ k → k < 5 → 0 ≤ hIt n s dm w (fun _ => 0) m k) ∧ hIt n s dm w (fun _ => 0) m 0 + hIt n s dm w (fun _ => 0) m 1 + hIt n s dm w (fun _ => 0) m 2 + hIt n s dm w (fun _ => 0) m 3 + hIt n s dm w (fun _ => 0) m 4 ≤ 180 * (m : Int)
  | 0 => ⟨fun _ _ _ => Int.le_refl 0, by show (0 : Int) + 0 + 0 + 0 + 0 ≤ _; omega⟩
  | m + 1 => by
    obtain ⟨h1, h2⟩ := hIt_in hn hw hk m
    have := nhF_sum (B := 180 * (m : Int)) hn hw (fun k a b => ⟨(hk k a b).1, (hk k a b).2.1, (hk k a b).2.2, h1 k a b⟩) h2
    rw [show 180 * ((m + 1 : Nat) : Int) = 180 * (m : Int) + 180 by omega]
    exact this
theorem hIt_up {n w : Int} {s dm : Int → Int} (hn : 2 ≤ n ∧ n ≤ 5) (hw : 0 ≤ w ∧ w ≤ 9) (hk : ∀ k, 0 ≤ k → k < 5 → 0 ≤ s k ∧ 0 ≤ dm k ∧ s k + dm k ≤ 10) (m : Nat) {k : Int} (a : 0 ≤ k) (b : k < 5) : 0 ≤ hIt n s dm w (fun _ => 0) m k ∧ hIt n s dm w (fun _ => 0) m k ≤ 180 * (m : Int) := by
  obtain ⟨h1, h2⟩ := hIt_in hn hw hk m
  have z0 := h1 0 (by omega) (by omega)
  have z1 := h1 1 (by omega) (by omega)
  have z2 := h1 2 (by omega) (by omega)
  have z3 := h1 3 (by omega) (by omega)
  have z4 := h1 4 (by omega) (by omega)
  rcases (show k = 0 ∨ k = 1 ∨ k = 2 ∨ k = 3 ∨ k = 4 by omega) with rfl | rfl | rfl | rfl | rfl <;> omega
/-- cone i is true, as the reference has it -/
def tqB (M : Nat → Int → Int) (i : Int) : Prop := (0 ≤ M 25 i ∧ M 25 i < M 0 4) ∧ (M 28 i ≤ hIt (M 0 4) (M 2) (M 3) (M 27 i) (fun _ => 0) (M 26 i).toNat (M 25 i) ↔ M 29 i = 1)
/-- shutters and dampers are in their bounds -/
def sdOk (M : Nat → Int → Int) : Prop := (2 ≤ M 0 4 ∧ M 0 4 ≤ 5) ∧ ∀ k, 0 ≤ k → k < 5 → 0 ≤ M 2 k ∧ 0 ≤ M 3 k ∧ M 2 k + M 3 k ≤ 10
/-- cones as S has them -/
def cnP (S M : Nat → Int → Int) : Prop := M 0 35 = S 199 7 ∧ ∀ i, 0 ≤ i → i < S 199 7 → M 25 i = S 200 i ∧ M 26 i = S 201 i ∧ M 27 i = S 202 i ∧ M 28 i = S 203 i ∧ M 29 i = S 204 i
theorem sumF_lo {f g : Int → Int} : ∀ {n : Nat}, (∀ k : Int, 0 ≤ k → k < n → f k = g k) → sumF f n = sumF g n
  | 0, _ => rfl
  | n + 1, h => by
    show sumF f n + f n = sumF g n + g n
    rw [sumF_lo (fun k a b => h k a (by omega)), h n (by omega) (by omega)]
theorem sumF_ge {f : Int → Int} : ∀ {n : Nat}, (∀ k : Int, 0 ≤ k → k < n → 0 ≤ f k) → 0 ≤ sumF f n ∧ ∀ k : Int, 0 ≤ k → k < n → f k ≤ sumF f n
  | 0, _ => ⟨Int.le_refl 0, fun k a b => by omega⟩
  | n + 1, h => by
    obtain ⟨h1, h2⟩ := sumF_ge (f := f) (n := n) (fun k a b => h k a (by omega))
    have h3 := h n (by omega) (by omega)
    refine ⟨by show 0 ≤ sumF f n + f n; omega, fun k a b => ?_⟩
    show f k ≤ sumF f n + f n
    by_cases c : k = n
    · subst c; omega
    · have := h2 k a (by omega)
      omega
theorem gcF_pos : ∀ (m : Nat) {a b : Int}, 0 < a → 0 ≤ b → 0 < gcF m a b
  | 0, a, b, h, g => h
  | m + 1, a, b, h, g => by
    rw [gcF]
    split
    · exact h
    · exact gcF_pos m (by omega) (Int.emod_nonneg a (by omega))
theorem emod_2 {q r : Int} (hr : 0 < r) (hq : r ≤ q) : 0 ≤ q % r ∧ q % r < r ∧ q % r + r ≤ q := by
  have h1 := Int.emod_nonneg q (show r ≠ 0 by omega)
  have h2 := Int.emod_lt_of_pos q hr
  have h3 : 1 ≤ q / r := Int.le_ediv_of_mul_le hr (by omega)
  have h4 : r * 1 ≤ r * (q / r) := Int.mul_le_mul_of_nonneg_left h3 (by omega)
  have h5 := Int.emod_def q r
  omega
section RG
variable {S : Nat → Int → Int} {Tw : Nat → Nat → Int → Int} {M : Nat → Int → Int} {P : Nat → Nat} {d : Nat} {Q : Option Value → GH → Prop}
theorem s_X12_divisor {a b : Int} (ha : 0 ≤ a ∧ a ≤ 4000000000000000000) (hb : 0 ≤ b ∧ b ≤ 4000000000000000000) (hq : Q (some (.long (lI (gcF 200 a b)))) (hO S Tw M P)) : CallD (d + 1) 155 [.long (lI a), .long (lI b)] (hO S Tw M P) Q := by
  refine g_enter (loc := [some _, _, some _, _, _, _, _, _, _, _]) e_X12_divisor i_X12_divisor (Nat.le_of_ble_eq_true rfl) rfl ?_
  refine g_l dX12_divisor_0 rfl rfl ?_
  refine g_l (loc' := [some _, _, some _, _, some _, _, _, _, _, _]) dX12_divisor_1 rfl rfl ?_
  refine g_l dX12_divisor_3 rfl rfl ?_
  refine g_l (loc' := [some _, _, some _, _, some _, _, some _, _, _, _]) dX12_divisor_4 rfl rfl ?_
  have rc : ∀ q : Int, R32 (cmp3 q 0) := fun q => by
    unfold cmp3
    split
    · omega
    · split <;> omega
  have ec : ∀ q : Int, cmp3 q 0 = 0 ↔ q = 0 := fun q => by
    unfold cmp3
    split
    · omega
    · split <;> omega
  have stop : ∀ (p : Int) (z8 z9 : Option Value), p = gcF 200 a b → G none d 12 false (some .long) 0 0 (hO S Tw M P).length cX12_divisor Q 0 6 [some (.long (lI a)), none, some (.long (lI b)), none, some (.long (lI p)), none, some (.long (lI 0)), none, z8, z9] [] (hO S Tw M P) := by
    intro p z8 z9 hp
    have c0 := (ec 0).mpr rfl
    have r0 := rc 0
    refine g_l dX12_divisor_6 rfl rfl ?_
    refine g_lconst0 dX12_divisor_8 rfl rfl ?_
    refine g_lcmp dX12_divisor_9 (by omega) (by decide) rfl ?_
    refine g_if_eq (t := 31) dX12_divisor_10 (by decide) rfl (by omega) (fun c_10 => ?_) (fun c_10 => False.elim (by omega))
    refine g_l dX12_divisor_31 rfl rfl ?_
    refine g_retL dX12_divisor_33 rfl rfl ?_
    rw [hp]
    exact hq
  have one : ∀ (p q : Int) (z8 z9 : Option Value), 0 ≤ p ∧ p ≤ 4000000000000000000 → 0 < q ∧ q ≤ 4000000000000000000 → (∀ z8 z9 : Option Value, G none d 12 false (some .long) 0 0 (hO S Tw M P).length cX12_divisor Q 0 6 [some (.long (lI a)), none, some (.long (lI b)), none, some (.long (lI q)), none, some (.long (lI (p % q))), none, z8, z9] [] (hO S Tw M P)) →
      G none d 12 false (some .long) 0 0 (hO S Tw M P).length cX12_divisor Q 0 6 [some (.long (lI a)), none, some (.long (lI b)), none, some (.long (lI p)), none, some (.long (lI q)), none, z8, z9] [] (hO S Tw M P) := by
    intro p q z8 z9 hp hq2 h
    have c0 := ec q
    have r0 := rc q
    refine g_l dX12_divisor_6 rfl rfl ?_
    refine g_lconst0 dX12_divisor_8 rfl rfl ?_
    refine g_lcmp dX12_divisor_9 (by omega) (by decide) rfl ?_
    refine g_if_eq (t := 31) dX12_divisor_10 (by decide) rfl (by omega) (fun c_10 => False.elim (by omega)) (fun c_10 => ?_)
    refine g_l dX12_divisor_13 rfl rfl ?_
    refine g_l dX12_divisor_15 rfl rfl ?_
    refine g_lrem dX12_divisor_17 (by omega) hp.1 (by omega) hq2.1 rfl ?_
    refine g_l (loc' := [some _, _, some _, _, some _, _, some _, _, some _, _]) dX12_divisor_18 rfl rfl ?_
    refine g_l dX12_divisor_20 rfl rfl ?_
    refine g_l (loc' := [some _, _, some _, _, some _, _, some _, _, some _, _]) dX12_divisor_22 rfl rfl ?_
    refine g_l dX12_divisor_24 rfl rfl ?_
    refine g_l (loc' := [some _, _, some _, _, some _, _, some _, _, some _, _]) dX12_divisor_26 rfl rfl ?_
    refine g_goto (t := 6) dX12_divisor_28 (by decide) ?_
    exact h _ _
  have loop : ∀ (j m : Nat) (p q : Int) (z8 z9 : Option Value), 2 * j + 1 ≤ m → 0 ≤ p ∧ p ≤ 4000000000000000000 → 0 ≤ q ∧ q ≤ 4000000000000000000 → q < pwF 2 j → gcF m p q = gcF 200 a b →
      G none d 12 false (some .long) 0 0 (hO S Tw M P).length cX12_divisor Q 0 6 [some (.long (lI a)), none, some (.long (lI b)), none, some (.long (lI p)), none, some (.long (lI q)), none, z8, z9] [] (hO S Tw M P) := by
    intro j
    induction j with
    | zero =>
      intro m p q z8 z9 hm hp hq2 hj hz
      change q < 1 at hj
      obtain rfl : q = 0 := by omega
      obtain ⟨m, rfl⟩ : ∃ z, m = z + 1 := ⟨m - 1, by omega⟩
      rw [gcF, if_pos rfl] at hz
      exact stop p _ _ hz
    | succ j ih =>
      intro m p q z8 z9 hm hp hq2 hj hz
      change q < pwF 2 j * 2 at hj
      obtain ⟨m, rfl⟩ : ∃ z, m = z + 3 := ⟨m - 3, by omega⟩
      by_cases c : q = 0
      · subst c
        rw [gcF, if_pos rfl] at hz
        exact stop p _ _ hz
      · rw [gcF, if_neg c] at hz
        have y1 := Int.emod_nonneg p (show q ≠ 0 by omega)
        have y2 := Int.emod_lt_of_pos p (show 0 < q by omega)
        refine one p q _ _ hp (by omega) (fun z8 z9 => ?_)
        by_cases c2 : p % q = 0
        · rw [c2] at hz ⊢
          rw [gcF, if_pos rfl] at hz
          exact stop q _ _ hz
        · rw [gcF, if_neg c2] at hz
          obtain ⟨x1, x2, x3⟩ := emod_2 (q := q) (r := p % q) (by omega) (by omega)
          exact one q (p % q) _ _ (by omega) (by omega) (fun z8 z9 => ih (m + 1) (p % q) (q % (p % q)) _ _ (by omega) (by omega) (by omega) (by omega) hz)
  exact loop 62 200 a b _ _ (by decide) ha hb (by have : pwF 2 62 = 4611686018427387904 := by decide +kernel
                                                  omega) rfl
theorem s_X12_owed {S0 X : Nat → Int → Int} {k up B : Int} (hk : R32 k) (hu : up = 0 ∨ up = 1) (ha : agr S0 (nX M) X) (hX : tOk X B) (hB : B ≤ 900000) (hs : sumF (X 2) (X 1 5).toNat ≤ 900000) (q1 : ¬ (0 ≤ k ∧ k < X 1 5) → ∀ M1, thP M M1 → Q (some (.int (iI (-1)))) (hO S Tw M1 P)) (q2 : 0 ≤ k ∧ k < X 1 5 → ∀ M1, thP M M1 → Q (some (.int (iI (ptF (X 2 k) (sumF (X 2) (X 1 5).toNat) up)))) (hO S Tw M1 P)) : CallD (d + 3) 161 [.ref 248, .int (iI k), .int (iI up)] (hO S Tw M P) Q := by
  have n4 : M 0 4 = X 1 5 := ha.1
  have x1 := hX.1
  have x2 := hX.2.1
  refine g_enter (loc := [some _, some _, some _, _, _]) e_X12_owed i_X12_owed (Nat.le_of_ble_eq_true rfl) rfl ?_
  refine g_l dX12_owed_0 rfl rfl ?_
  refine g_iconst dX12_owed_1 rfl ?_
  refine g_putf dX12_owed_2 h248 f_12_108 (Nat.le_of_ble_eq_true rfl) rfl rfl p248_0 rfl ?_
  have h1 := thP_w (M := M)
  generalize wS M 0 0 0 = M1 at h1 ⊢
  have z4 : M1 0 4 = M 0 4 := h1.2 4 (by decide)
  refine g_l dX12_owed_5 rfl rfl ?_
  refine g_l dX12_owed_6 rfl rfl ?_
  refine g_callV dX12_owed_7 m_12_172 (n := 1) rfl h248 rfl (Nat.le_of_ble_eq_true rfl) (Nat.le_of_ble_eq_true rfl) rfl rfl ?_
  refine s_X12_noKiln hk (by omega) (fun z => ?_) (fun z => ?_)
  · simp only [Option.toList_some, Option.toList_none, List.cons_append, List.nil_append]
    refine g_if_eq (t := 15) dX12_owed_10 (by decide) rfl (by omega) (fun c_10 => False.elim (by omega)) (fun c_10 => ?_)
    refine g_iconst dX12_owed_13 rfl ?_
    refine g_retI dX12_owed_14 rfl rfl ?_
    exact q1 (by omega) M1 h1
  · rw [z4, n4] at z
    have h4 : ∀ j, 0 ≤ j → j < 5 → M1 4 j = X 2 j := fun j y1 y2 => by rw [h1.1 4 (by decide)]; exact (ha.2.2.1 j y1 y2).1
    have es : sumF (M1 4) (M1 0 4).toNat = sumF (X 2) (X 1 5).toNat := by
      rw [z4, n4]
      exact sumF_lo (fun j y1 y2 => h4 j y1 (by omega))
    have hge := sumF_ge (f := X 2) (n := (X 1 5).toNat) (fun j y1 y2 => (hX.2.2.1 j y1 (by omega)).2.2.2)
    have hh := hge.2 k z.1 (by omega)
    have hh0 := (hX.2.2.1 k z.1 (by omega)).2.2.2
    have e4 := h4 k z.1 (by omega)
    have h2 := q2 z M1 h1
    unfold ptF at h2
    simp only [Option.toList_some, Option.toList_none, List.cons_append, List.nil_append]
    refine g_if_eq (t := 15) dX12_owed_10 (by decide) rfl (by omega) (fun c_10 => ?_) (fun c_10 => False.elim (by omega))
    refine g_l dX12_owed_15 rfl rfl ?_
    refine g_callV dX12_owed_16 m_12_162 (n := 0) rfl h248 rfl (Nat.le_of_ble_eq_true rfl) (Nat.le_of_ble_eq_true rfl) rfl rfl ?_
    refine s_X12_allHeat (by omega) ?_
    simp only [Option.toList_some, Option.toList_none, List.cons_append, List.nil_append]
    rw [es]
    generalize sumF (X 2) (X 1 5).toNat = all at hge hh hs h2 ⊢
    refine g_l (loc' := [some _, some _, some _, some _, _]) dX12_owed_19 rfl rfl ?_
    refine g_l dX12_owed_20 rfl rfl ?_
    refine g_if_ne (t := 34) dX12_owed_21 (by decide) rfl (by omega) (fun c_21 => ?_) (fun c_21 => ?_)
    · have hg := gcF_in 200 hh0 hge.1
      have hg1 : 0 < gcF 200 (X 2 k) all := by
        rw [gcF, if_neg c_21]
        exact gcF_pos _ (by omega) (Int.emod_nonneg _ c_21)
      rw [if_neg (by omega)] at h2
      refine g_l dX12_owed_34 rfl rfl ?_
      refine g_getf dX12_owed_35 h248 f_12_23 rfl rfl ?_
      refine g_l dX12_owed_38 rfl rfl ?_
      refine g_iald dX12_owed_39 h252 (by omega) (by decide) rfl ?_
      rw [e4]
      refine g_i2l dX12_owed_40 (by omega) rfl ?_
      refine g_l dX12_owed_41 rfl rfl ?_
      refine g_i2l dX12_owed_42 (by omega) rfl ?_
      refine g_callS dX12_owed_43 m_12_226 (n := 2) rfl (by exact Nat.le_of_ble_eq_true rfl) (by exact Nat.le_of_ble_eq_true rfl) (by rfl) (by rfl) (by rfl) ?_
      refine s_X12_divisor (by omega) (by omega) ?_
      simp only [Option.toList_some, Option.toList_none, List.cons_append, List.nil_append]
      refine g_l2i dX12_owed_46 rfl ?_
      rw [l2i_e]
      generalize gcF 200 (X 2 k) all = g at hg hg1 h2 ⊢
      refine g_l (loc' := [some _, some _, some _, some _, some _]) dX12_owed_47 rfl rfl ?_
      refine g_l dX12_owed_49 rfl rfl ?_
      refine g_if_eq (t := 65) dX12_owed_50 (by decide) rfl (by omega) (fun c_50 => ?_) (fun c_50 => ?_)
      · rw [if_pos c_50] at h2
        refine g_l dX12_owed_65 rfl rfl ?_
        refine g_l dX12_owed_66 rfl rfl ?_
        refine g_idiv dX12_owed_68 (by omega) (by omega) rfl ?_
        refine g_retI dX12_owed_69 rfl rfl ?_
        exact h2
      · rw [if_neg c_50] at h2
        refine g_l dX12_owed_53 rfl rfl ?_
        refine g_getf dX12_owed_54 h248 f_12_23 rfl rfl ?_
        refine g_l dX12_owed_57 rfl rfl ?_
        refine g_iald dX12_owed_58 h252 (by omega) (by decide) rfl ?_
        rw [e4]
        refine g_l dX12_owed_59 rfl rfl ?_
        refine g_idiv dX12_owed_61 (by omega) (by omega) rfl ?_
        refine g_goto (t := 69) dX12_owed_62 (by decide) ?_
        refine g_retI dX12_owed_69 rfl rfl ?_
        exact h2
    · have e0 : X 2 k = 0 := by omega
      rw [e0, c_21, show gcF 200 0 0 = 0 from rfl, if_pos rfl] at h2
      refine g_l dX12_owed_24 rfl rfl ?_
      refine g_if_eq (t := 32) dX12_owed_25 (by decide) rfl (by omega) (fun c_25 => ?_) (fun c_25 => ?_)
      · rw [if_pos c_25] at h2
        refine g_iconst dX12_owed_32 rfl ?_
        refine g_retI dX12_owed_33 rfl rfl ?_
        exact h2
      · rw [if_neg c_25] at h2
        refine g_iconst dX12_owed_28 rfl ?_
        refine g_goto (t := 33) dX12_owed_29 (by decide) ?_
        refine g_retI dX12_owed_33 rfl rfl ?_
        exact h2
set_option maxHeartbeats 1000000 in
theorem s_X12_isTrue {i : Int} (hi : 0 ≤ i ∧ i < 8) (hk : sdOk M) (hx : (0 ≤ M 25 i ∧ M 25 i < 5) ∧ (1 ≤ M 26 i ∧ M 26 i ≤ 9) ∧ (0 ≤ M 27 i ∧ M 27 i ≤ 9) ∧ (0 ≤ M 28 i ∧ M 28 i ≤ 990) ∧ (M 29 i = 0 ∨ M 29 i = 1)) (hy : tqB M i → ∀ M', goFr M M' → Q (some (.int (iI 1))) (hO S Tw M' P)) (hn : ¬ tqB M i → ∀ M', goFr M M' → Q (some (.int (iI 0))) (hO S Tw M' P)) : CallD (d + 3) 159 [.ref 248, .int (iI i)] (hO S Tw M P) Q := by
  obtain ⟨⟨n1, n2⟩, hk⟩ := hk
  obtain ⟨x1, x2, x3, x4, x5⟩ := hx
  refine g_enter (loc := [some _, some _, _]) e_X12_isTrue i_X12_isTrue (Nat.le_of_ble_eq_true rfl) rfl ?_
  refine g_l dX12_isTrue_0 rfl rfl ?_
  refine g_l dX12_isTrue_1 rfl rfl ?_
  refine g_getf dX12_isTrue_2 h248 f_12_87 rfl rfl ?_
  refine g_l dX12_isTrue_5 rfl rfl ?_
  refine g_iald dX12_isTrue_6 h273 (by omega) (by decide) rfl ?_
  refine g_callV dX12_isTrue_7 m_12_172 (n := 1) rfl h248 rfl (Nat.le_of_ble_eq_true rfl) (Nat.le_of_ble_eq_true rfl) rfl rfl ?_
  refine s_X12_noKiln (by omega) (by omega) (fun z => ?_) (fun z => ?_)
  · simp only [Option.toList_some, Option.toList_none, List.cons_append, List.nil_append]
    refine g_if_eq (t := 15) dX12_isTrue_10 (by decide) rfl (by omega) (fun c_10 => False.elim (by omega)) (fun c_10 => ?_)
    refine g_iconst dX12_isTrue_13 rfl ?_
    refine g_retZ dX12_isTrue_14 rfl rfl (by omega) ?_
    exact hn (fun u => z u.1) M goFr.rf
  · simp only [Option.toList_some, Option.toList_none, List.cons_append, List.nil_append]
    refine g_if_eq (t := 15) dX12_isTrue_10 (by decide) rfl (by omega) (fun c_10 => ?_) (fun c_10 => False.elim (by omega))
    refine g_iconst dX12_isTrue_15 rfl ?_
    refine g_l (loc' := [some _, some _, some _]) dX12_isTrue_16 rfl rfl ?_
    have fin : ∀ (M1 : Nat → Int → Int), goFr M M1 → M1 19 (M 25 i) = hIt (M 0 4) (M 2) (M 3) (M 27 i) (fun _ => 0) (M 26 i).toNat (M 25 i) →
        G none (d + 2) 12 false (some .boolean) 0 0 (hO S Tw M P).length cX12_isTrue Q 0 67 [some (.ref 248), some (.int (iI i)), some (.int (iI (M 26 i)))] [] (hO S Tw M1 P) := by
      intro M1 f1 f2
      have e25 : M1 25 = M 25 := f1.1 25 (by decide) (by decide) (by decide) (by decide) (by decide) (by decide)
      have e28 : M1 28 = M 28 := f1.1 28 (by decide) (by decide) (by decide) (by decide) (by decide) (by decide)
      have e29 : M1 29 = M 29 := f1.1 29 (by decide) (by decide) (by decide) (by decide) (by decide) (by decide)
      have hb := hIt_up (n := M 0 4) (s := M 2) (dm := M 3) ⟨n1, n2⟩ x3 hk (M 26 i).toNat x1.1 x1.2
      unfold tqB at hy hn
      have hy' := fun u => hy ⟨z, u⟩ M1 f1
      have hn' := fun (u : ¬ (M 28 i ≤ hIt (M 0 4) (M 2) (M 3) (M 27 i) (fun _ => 0) (M 26 i).toNat (M 25 i) ↔ M 29 i = 1)) => hn (fun q => u q.2) M1 f1
      rw [← f2] at hb hy' hn'
      refine g_l dX12_isTrue_67 rfl rfl ?_
      refine g_getf dX12_isTrue_68 h248 f_12_69 rfl rfl ?_
      refine g_l dX12_isTrue_71 rfl rfl ?_
      refine g_getf dX12_isTrue_72 h248 f_12_87 rfl rfl ?_
      refine g_l dX12_isTrue_75 rfl rfl ?_
      refine g_iald dX12_isTrue_76 h273 (by omega) (by decide) rfl ?_
      rw [e25]
      refine g_iald dX12_isTrue_77 h267 (by omega) (by decide) rfl ?_
      refine g_l dX12_isTrue_78 rfl rfl ?_
      refine g_getf dX12_isTrue_79 h248 f_12_96 rfl rfl ?_
      refine g_l dX12_isTrue_82 rfl rfl ?_
      refine g_iald dX12_isTrue_83 h276 (by omega) (by decide) rfl ?_
      rw [e28]
      refine g_icmp_lt (t := 91) dX12_isTrue_84 (by decide) rfl (by omega) (by omega) (fun c_84 => ?_) (fun c_84 => ?_)
      · refine g_iconst dX12_isTrue_91 rfl ?_
        refine g_l dX12_isTrue_92 rfl rfl ?_
        refine g_getf dX12_isTrue_93 h248 f_12_99 rfl rfl ?_
        refine g_l dX12_isTrue_96 rfl rfl ?_
        refine g_bald dX12_isTrue_97 h277 (by omega) (by decide) rfl ?_
        rw [e29]
        rcases x5 with x5 | x5
        · rw [x5] at hy' hn' ⊢
          refine g_icmp_ne (t := 105) dX12_isTrue_98 (by decide) rfl (by omega) (by omega) (fun c_98 => False.elim (by omega)) (fun c_98 => ?_)
          refine g_iconst dX12_isTrue_101 rfl ?_
          refine g_goto (t := 106) dX12_isTrue_102 (by decide) ?_
          refine g_retZ dX12_isTrue_106 rfl rfl (by omega) ?_
          exact hy' ⟨fun h => by omega, fun h => by omega⟩
        · rw [x5] at hy' hn' ⊢
          refine g_icmp_ne (t := 105) dX12_isTrue_98 (by decide) rfl (by omega) (by omega) (fun c_98 => ?_) (fun c_98 => False.elim (by omega))
          refine g_iconst dX12_isTrue_105 rfl ?_
          refine g_retZ dX12_isTrue_106 rfl rfl (by omega) ?_
          exact hn' (fun h => by have := h.2 rfl; omega)
      · refine g_iconst dX12_isTrue_87 rfl ?_
        refine g_goto (t := 92) dX12_isTrue_88 (by decide) ?_
        refine g_l dX12_isTrue_92 rfl rfl ?_
        refine g_getf dX12_isTrue_93 h248 f_12_99 rfl rfl ?_
        refine g_l dX12_isTrue_96 rfl rfl ?_
        refine g_bald dX12_isTrue_97 h277 (by omega) (by decide) rfl ?_
        rw [e29]
        rcases x5 with x5 | x5
        · rw [x5] at hy' hn' ⊢
          refine g_icmp_ne (t := 105) dX12_isTrue_98 (by decide) rfl (by omega) (by omega) (fun c_98 => ?_) (fun c_98 => False.elim (by omega))
          refine g_iconst dX12_isTrue_105 rfl ?_
          refine g_retZ dX12_isTrue_106 rfl rfl (by omega) ?_
          exact hn' (fun h => by have := h.1 (by omega); omega)
        · rw [x5] at hy' hn' ⊢
          refine g_icmp_ne (t := 105) dX12_isTrue_98 (by decide) rfl (by omega) (by omega) (fun c_98 => False.elim (by omega)) (fun c_98 => ?_)
          refine g_iconst dX12_isTrue_101 rfl ?_
          refine g_goto (t := 106) dX12_isTrue_102 (by decide) ?_
          refine g_retZ dX12_isTrue_106 rfl rfl (by omega) ?_
          exact hy' ⟨fun h => rfl, fun h => by omega⟩
    have loop2 : ∀ (m : Nat) (t : Int) (M1 : Nat → Int → Int), 0 ≤ t → t ≤ M 26 i → (M 26 i - t).toNat = m → goFr M M1 → (∀ k, 0 ≤ k → k < M 0 4 → M1 19 k = hIt (M 0 4) (M 2) (M 3) (M 27 i) (fun _ => 0) t.toNat k) →
        G none (d + 2) 12 false (some .boolean) 0 0 (hO S Tw M P).length cX12_isTrue Q 0 40 [some (.ref 248), some (.int (iI i)), some (.int (iI t))] [] (hO S Tw M1 P) := by
      intro m
      induction m with
      | zero =>
        intro t M1 b1 b2 hm f1 f2
        have e26 : M1 26 = M 26 := f1.1 26 (by decide) (by decide) (by decide) (by decide) (by decide) (by decide)
        refine g_l dX12_isTrue_40 rfl rfl ?_
        refine g_l dX12_isTrue_41 rfl rfl ?_
        refine g_getf dX12_isTrue_42 h248 f_12_90 rfl rfl ?_
        refine g_l dX12_isTrue_45 rfl rfl ?_
        refine g_iald dX12_isTrue_46 h274 (by omega) (by decide) rfl ?_
        rw [e26]
        refine g_icmp_ge (t := 67) dX12_isTrue_47 (by decide) rfl (by omega) (by omega) (fun c_47 => ?_) (fun c_47 => False.elim (by omega))
        have et : t = M 26 i := by omega
        rw [et] at f2 ⊢
        exact fin M1 f1 (f2 _ z.1 z.2)
      | succ m ih =>
        intro t M1 b1 b2 hm f1 f2
        have e26 : M1 26 = M 26 := f1.1 26 (by decide) (by decide) (by decide) (by decide) (by decide) (by decide)
        have e27 : M1 27 = M 27 := f1.1 27 (by decide) (by decide) (by decide) (by decide) (by decide) (by decide)
        have e2 : M1 2 = M 2 := f1.1 2 (by decide) (by decide) (by decide) (by decide) (by decide) (by decide)
        have e3 : M1 3 = M 3 := f1.1 3 (by decide) (by decide) (by decide) (by decide) (by decide) (by decide)
        have e4 : M1 0 4 = M 0 4 := f1.2 4 (by decide)
        refine g_l dX12_isTrue_40 rfl rfl ?_
        refine g_l dX12_isTrue_41 rfl rfl ?_
        refine g_getf dX12_isTrue_42 h248 f_12_90 rfl rfl ?_
        refine g_l dX12_isTrue_45 rfl rfl ?_
        refine g_iald dX12_isTrue_46 h274 (by omega) (by decide) rfl ?_
        rw [e26]
        refine g_icmp_ge (t := 67) dX12_isTrue_47 (by decide) rfl (by omega) (by omega) (fun c_47 => False.elim (by omega)) (fun c_47 => ?_)
        refine g_l dX12_isTrue_50 rfl rfl ?_
        refine g_l dX12_isTrue_51 rfl rfl ?_
        refine g_getf dX12_isTrue_52 h248 f_12_93 rfl rfl ?_
        refine g_l dX12_isTrue_55 rfl rfl ?_
        refine g_iald dX12_isTrue_56 h275 (by omega) (by decide) rfl ?_
        rw [e27]
        refine g_iconst dX12_isTrue_57 rfl ?_
        refine g_callV dX12_isTrue_58 m_12_185 (n := 2) rfl h248 rfl (Nat.le_of_ble_eq_true rfl) (Nat.le_of_ble_eq_true rfl) rfl rfl ?_
        refine s_X12_goHeat (b := 0) (Or.inl rfl) x3 ⟨by omega, fun k y1 y2 => ?_⟩ (fun M2 g => ?_)
        · rw [e4] at y2
          rw [f2 k y1 y2, e2, e3]
          have := hIt_up (n := M 0 4) (s := M 2) (dm := M 3) ⟨n1, n2⟩ x3 hk t.toNat y1 (by omega)
          have y := hk k y1 (by omega)
          exact ⟨by omega, y⟩
        · obtain ⟨g1, g2, g3, g4⟩ := g
          rw [e4, e2, e3] at g4
          simp only [Option.toList_some, Option.toList_none, List.cons_append, List.nil_append]
          refine g_iinc (loc' := [some _, some _, some _]) dX12_isTrue_61 rfl rfl rfl ?_
          refine g_goto (t := 40) dX12_isTrue_64 (by decide) ?_
          refine ih (t + 1) M2 (by omega) (by omega) (by omega) (f1.tr ⟨fun c y1 y2 y3 y4 _ _ => g1 c y1 y2 y3 y4, g2⟩) (fun k y1 y2 => ?_)
          rw [(g4 k y1 y2).2.2, if_neg (by decide), show (t + 1).toNat = t.toNat + 1 by omega]
          exact nhF_lo f2 k y1 y2
    have loop : ∀ (m : Nat) (t : Int) (M1 : Nat → Int → Int), 0 ≤ t → t ≤ M 0 4 → (M 0 4 - t).toNat = m → (∀ c, c ≠ 19 → M1 c = M c) → (∀ k, 0 ≤ k → k < t → M1 19 k = 0) →
        G none (d + 2) 12 false (some .boolean) 0 0 (hO S Tw M P).length cX12_isTrue Q 0 17 [some (.ref 248), some (.int (iI i)), some (.int (iI t))] [] (hO S Tw M1 P) := by
      intro m
      induction m with
      | zero =>
        intro t M1 b1 b2 hm f1 f2
        have e0 : M1 0 = M 0 := f1 0 (by decide)
        refine g_l dX12_isTrue_17 rfl rfl ?_
        refine g_l dX12_isTrue_18 rfl rfl ?_
        refine g_getf dX12_isTrue_19 h248 f_12_13 rfl rfl ?_
        rw [e0]
        refine g_icmp_ge (t := 38) dX12_isTrue_22 (by decide) rfl (by omega) (by omega) (fun c_22 => ?_) (fun c_22 => False.elim (by omega))
        refine g_iconst dX12_isTrue_38 rfl ?_
        refine g_l (loc' := [some _, some _, some _]) dX12_isTrue_39 rfl rfl ?_
        exact loop2 (M 26 i).toNat 0 M1 (by omega) (by omega) (by rw [Int.sub_zero]) ⟨fun c _ y2 _ _ _ _ => f1 c y2, fun j _ => by rw [e0]⟩ (fun k y1 y2 => f2 k y1 (by omega))
      | succ m ih =>
        intro t M1 b1 b2 hm f1 f2
        have e0 : M1 0 = M 0 := f1 0 (by decide)
        refine g_l dX12_isTrue_17 rfl rfl ?_
        refine g_l dX12_isTrue_18 rfl rfl ?_
        refine g_getf dX12_isTrue_19 h248 f_12_13 rfl rfl ?_
        rw [e0]
        refine g_icmp_ge (t := 38) dX12_isTrue_22 (by decide) rfl (by omega) (by omega) (fun c_22 => False.elim (by omega)) (fun c_22 => ?_)
        refine g_l dX12_isTrue_25 rfl rfl ?_
        refine g_getf dX12_isTrue_26 h248 f_12_69 rfl rfl ?_
        refine g_l dX12_isTrue_29 rfl rfl ?_
        refine g_iconst dX12_isTrue_30 rfl ?_
        refine g_iast dX12_isTrue_31 h267 (by omega) (by decide) p267 rfl ?_
        refine g_iinc (loc' := [some _, some _, some _]) dX12_isTrue_32 rfl rfl rfl ?_
        refine g_goto (t := 17) dX12_isTrue_35 (by decide) ?_
        refine ih (t + 1) _ (by omega) (by omega) (by omega) (fun c y1 => by rw [wS_o y1]; exact f1 c y1) (fun k y1 y2 => ?_)
        rw [wS_s]
        by_cases e : k = t
        · rw [if_pos e]
        · rw [if_neg e]; exact f2 k y1 (by omega)
    exact loop (M 0 4).toNat 0 M (by omega) (by omega) (by rw [Int.sub_zero]) (fun _ _ => rfl) (fun k y1 y2 => by omega)
end RG
