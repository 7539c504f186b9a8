/-! the reference: least, leastAt, gales -/
/-- quarters with gales, as the bits tell -/
noncomputable def gItL (S : Nat → Int → Int) (w bits : Int) : Nat → Int → (Nat → Int → Int) → Nat → Int → Int
  | 0, _, X => X
  | m + 1, i, X => gItL S w bits m (i + 1) (gX S w (bAnd (bShr bits i) 1) X)
theorem gItL_done {S : Nat → Int → Int} {w bits p : Int} : ∀ (m : Nat) (i : Int) (X : Nat → Int → Int), X 10 p ≠ 0 → gItL S w bits m i X 10 p = X 10 p
  | 0, _, _, _ => rfl
  | m + 1, i, X, h => by
    have e : gX S w (bAnd (bShr bits i) 1) X 10 p = X 10 p := by
      obtain ⟨-, e8, e9, e10, -⟩ := gZ_e (w := w) (b := bAnd (bShr bits i) 1) (X := X)
      show nHow S (gZ w (bAnd (bShr bits i) 1) X) p _ = _
      unfold nHow
      rw [e10, if_neg h]
    rw [gItL, gItL_done m (i + 1) _ (by rw [e]; exact h), e]
/-- alike as pot p sees it -/
def prel (p : Int) (X Y : Nat → Int → Int) : Prop := X 1 5 = Y 1 5 ∧ X 2 = Y 2 ∧ X 3 = Y 3 ∧ X 4 = Y 4 ∧ X 8 = Y 8 ∧ X 9 p = Y 9 p ∧ X 10 p = Y 10 p
theorem gI_cr {S : Nat → Int → Int} {w bits p sb : Int} : ∀ (m : Nat) (i : Int) (Z Y : Nat → Int → Int), prel p Z Y → sb = sbF S Z (Z 8 p) → gItL S w bits m i Z 10 p = crL S p sb w bits m i Y 10 p
  | 0, _, Z, Y, h, _ => h.2.2.2.2.2.2
  | m + 1, i, Z, Y, h, hs => by
    obtain ⟨h1, h2, h3, h4, h8, h9, h10⟩ := id h
    rw [crL]
    by_cases c : Y 10 p = 0
    · rw [if_pos c, gItL]
      generalize bAnd (bShr bits i) 1 = b
      obtain ⟨a1, a8, a9, a10, a5, a6, a3, a4, -, a2⟩ := gZ_e (w := w) (b := b) (X := Z)
      obtain ⟨b1, b8, b9, b10, b5, b6, b3, b4, -, b2⟩ := gZ_e (w := w) (b := b) (X := Y)
      have e2 : gZ w b Z 2 = gZ w b Y 2 := by
        funext k
        rw [a2, b2, h1, h2, h3, h4]
      have es : sbF S (gZ w b Z) (gZ w b Z 8 p) = sb := by
        rw [hs, a8, sbF_congr a8]
      refine gI_cr m (i + 1) _ _ ⟨?_, ?_, ?_, ?_, ?_, ?_, ?_⟩ ?_
      · show gZ w b Z 1 5 = gZ w b Y 1 5
        rw [a1, b1, h1]
      · show gZ w b Z 2 = gZ w b Y 2
        exact e2
      · show gZ w b Z 3 = gZ w b Y 3
        rw [a3, b3, h3]
      · show gZ w b Z 4 = gZ w b Y 4
        rw [a4, b4, h4]
      · show gZ w b Z 8 = gZ w b Y 8
        rw [a8, b8, h8]
      · show nHas S (gZ w b Z) p (sbF S (gZ w b Z) (gZ w b Z 8 p)) = (if (9 : Nat) = 9 ∧ p = p then nHas S (gZ w b Y) p sb else _)
        rw [if_pos ⟨rfl, rfl⟩, es]
        unfold nHas
        rw [e2, a5, a6, a8, a9, a10, b5, b6, b8, b9, b10, h2, h3, h8, h9, h10]
      · show nHow S (gZ w b Z) p (sbF S (gZ w b Z) (gZ w b Z 8 p)) = (if (10 : Nat) = 9 ∧ p = p then nHas S (gZ w b Y) p sb else if (10 : Nat) = 10 ∧ p = p then nHow S (gZ w b Y) p sb else _)
        rw [if_neg (show ¬ ((10 : Nat) = 9 ∧ p = p) from fun q => absurd q.1 (by decide)), if_pos ⟨rfl, rfl⟩, es]
        unfold nHow
        rw [e2, a5, a6, a8, a9, a10, b5, b6, b8, b9, b10, h2, h3, h8, h9, h10]
      · show sb = sbF S (lX S (gZ w b Z)) (gZ w b Z 8 p)
        rw [sbF_congr (X := gZ w b Z) (X' := lX S (gZ w b Z)) rfl]
        exact es.symm
    · rw [if_neg c, gItL_done _ _ _ (by rw [h10]; exact c), h10]
/-- how many of the first k bits are set -/
def cbF (row : Int) : Nat → Nat
  | 0 => 0
  | k + 1 => cbF row k + (bAnd (bShr row (k : Int)) 1).toNat
theorem cb_bc : ∀ (n : Fin 9) (j : Fin 256), j.val < 2 ^ n.val → bcF ((j.val : Nat) : Int) = ((cbF ((j.val : Nat) : Int) n.val : Nat) : Int) := by decide +kernel
theorem cbF_le (row : Int) : ∀ k : Nat, cbF row k ≤ k
  | 0 => Nat.le_refl 0
  | k + 1 => by
    have := cbF_le row k
    have := bAnd_1 (bShr row (k : Int))
    rw [cbF]
    omega
/-- the weight of the first k bits -/
def wbF (x row : Int) (k : Nat) : Int := pwF x (cbF row k) * pwF (10 - x) (k - cbF row k)
theorem wbF_s {x row : Int} {k : Nat} : wbF x row (k + 1) = wbF x row k * (if bAnd (bShr row (k : Int)) 1 = 1 then x else 10 - x) := by
  have h := cbF_le row k
  unfold wbF
  rw [cbF]
  rcases bAnd_1 (bShr row (k : Int)) with e | e
  · rw [e, if_neg (by decide), show (0 : Int).toNat = 0 from rfl, Nat.add_zero, show k + 1 - cbF row k = (k - cbF row k) + 1 by omega, show pwF (10 - x) (k - cbF row k + 1) = pwF (10 - x) (k - cbF row k) * (10 - x) from rfl, Int.mul_assoc]
  · rw [e, if_pos rfl, show (1 : Int).toNat = 1 from rfl, show k + 1 - (cbF row k + 1) = k - cbF row k by omega, show pwF x (cbF row k + 1) = pwF x (cbF row k) * x from rfl, Int.mul_assoc, Int.mul_assoc, Int.mul_comm x]
theorem wbF_n {n x : Int} {j : Int} (hn : 0 ≤ n ∧ n ≤ 8) (hj : 0 ≤ j ∧ j < ((2 ^ n.toNat : Nat) : Int)) : wbF x j n.toNat = wtF n x j := by
  have h1 : 2 ^ n.toNat ≤ 256 := Nat.pow_le_pow_right (by decide) (by omega : n.toNat ≤ 8)
  have h2 := hj.2
  have h := cb_bc ⟨n.toNat, by omega⟩ ⟨j.toNat, by omega⟩ (by show j.toNat < 2 ^ n.toNat; omega)
  simp only [Int.toNat_of_nonneg hj.1] at h
  have hl := cbF_le j n.toNat
  unfold wbF wtF
  rw [h]
  rw [show ((cbF j n.toNat : Nat) : Int).toNat = cbF j n.toNat by omega, show (n - ((cbF j n.toNat : Nat) : Int)).toNat = n.toNat - cbF j n.toNat by omega]
section RN
variable {S : Nat → Int → Int} {Tw : Nat → Nat → Int → Int} {M : Nat → Int → Int} {P : Nat → Nat} {d : Nat} {Q : Option Value → GH → Prop}
theorem s_X12_least {S0 X : Nat → Int → Int} {x n B : Int} (b : Int → Int) (hx : R32 x) (hn : R32 n) (ht : tdP S0 M) (hp : pOk S0) (ha : agr S0 (nX M) X) (hX : twOk S0 X B) (hB : B ≤ 900000) (q1 : ¬ ((0 ≤ x ∧ x < bShl 1 (S0 13 5)) ∧ 1 ≤ n ∧ n ≤ 3) → ∀ M', quFr M M' → Q (some (.int (iI (-2)))) (hO S Tw M' P))
    (q2 : (0 ≤ x ∧ x < bShl 1 (S0 13 5)) ∧ 1 ≤ n ∧ n ≤ 3 → ∀ M', quFr M M' → Q (some (.int (iI (lwF S0 x n.toNat X b)))) (hO S Tw M' P)) : CallD (d + 5) 149 [.ref 248, .int (iI x), .int (iI n)] (hO S Tw M P) Q := by
  have n5 : S0 13 5 = M 0 5 := ht.1
  have p1 := hp.1
  have p2 := hp.2.1
  refine g_enter (loc := [some _, some _, some _]) e_X12_least i_X12_least (Nat.le_of_ble_eq_true rfl) rfl ?_
  refine g_l dX12_least_0 rfl rfl ?_
  refine g_iconst dX12_least_1 rfl ?_
  refine g_putf dX12_least_2 h248 f_12_108 (Nat.le_of_ble_eq_true rfl) rfl rfl p248_0 rfl ?_
  have h1 := thP_w (M := M)
  generalize wS M 0 0 0 = M1 at h1 ⊢
  have z5 : M1 0 5 = M 0 5 := h1.2 5 (by decide)
  refine g_l dX12_least_5 rfl rfl ?_
  refine g_l dX12_least_6 rfl rfl ?_
  refine g_l dX12_least_7 rfl rfl ?_
  refine g_callV dX12_least_8 m_12_211 (n := 2) rfl h248 rfl (Nat.le_of_ble_eq_true rfl) (Nat.le_of_ble_eq_true rfl) rfl rfl ?_
  refine s_X12_noLeast hx hn (by omega) (fun z => ?_) (fun z => ?_)
  · rw [z5, ← n5] at z
    simp only [Option.toList_some, Option.toList_none, List.cons_append, List.nil_append]
    refine g_if_eq (t := 19) dX12_least_11 (by decide) rfl (by omega) (fun c_11 => False.elim (by omega)) (fun c_11 => ?_)
    refine g_bipush dX12_least_14 (by decide) rfl ?_
    refine g_goto (t := 25) dX12_least_16 (by decide) ?_
    refine g_retI dX12_least_25 rfl rfl ?_
    exact q1 z M1 h1.q
  · rw [z5, ← n5] at z
    simp only [Option.toList_some, Option.toList_none, List.cons_append, List.nil_append]
    refine g_if_eq (t := 19) dX12_least_11 (by decide) rfl (by omega) (fun c_11 => ?_) (fun c_11 => False.elim (by omega))
    refine g_l dX12_least_19 rfl rfl ?_
    refine g_l dX12_least_20 rfl rfl ?_
    refine g_l dX12_least_21 rfl rfl ?_
    refine g_callV dX12_least_22 m_12_214 (n := 2) rfl h248 rfl (Nat.le_of_ble_eq_true rfl) (Nat.le_of_ble_eq_true rfl) rfl rfl ?_
    refine s_X12_findLeast (S0 := S0) (X := X) z.2 (h1.q.d ht) hp (by rw [h1.q.n]; exact ha) hX hB (fun M2 a1 a2 => ?_)
    have h := q2 z M2 (h1.q.tr a1)
    rw [lwF_b (b' := M1 30) |>.1] at h
    simp only [Option.toList_some, Option.toList_none, List.cons_append, List.nil_append]
    generalize lwF S0 x n.toNat X (M1 30) = r at h ⊢
    refine g_retI dX12_least_25 rfl rfl ?_
    exact h
theorem s_X12_leastAt {S0 X : Nat → Int → Int} {x n i B : Int} (b : Int → Int) (hx : R32 x) (hn : R32 n) (hi : R32 i) (ht : tdP S0 M) (hp : pOk S0) (ha : agr S0 (nX M) X) (hX : twOk S0 X B) (hB : B ≤ 900000) (q1 : ¬ ((0 ≤ x ∧ x < bShl 1 (S0 13 5)) ∧ 1 ≤ n ∧ n ≤ 3) → ∀ M', quFr M M' → Q (some (.int (iI (-2)))) (hO S Tw M' P))
    (q0 : (0 ≤ x ∧ x < bShl 1 (S0 13 5)) ∧ 1 ≤ n ∧ n ≤ 3 → ¬ (0 ≤ i ∧ i < n) → ∀ M', quFr M M' → Q (some (.int (iI (-9)))) (hO S Tw M' P))
    (q2 : (0 ≤ x ∧ x < bShl 1 (S0 13 5)) ∧ 1 ≤ n ∧ n ≤ 3 → 0 ≤ i ∧ i < n → ∀ M', quFr M M' → Q (some (.int (iI (if lwF S0 x n.toNat X b = -9 then -9 else (wdS S0 x n.toNat X 0 (fun _ => 0) 0 (28, b)).2 i)))) (hO S Tw M' P)) : CallD (d + 5) 150 [.ref 248, .int (iI x), .int (iI n), .int (iI i)] (hO S Tw M P) Q := by
  have n5 : S0 13 5 = M 0 5 := ht.1
  have p1 := hp.1
  have p2 := hp.2.1
  refine g_enter (loc := [some _, some _, some _, some _]) e_X12_leastAt i_X12_leastAt (Nat.le_of_ble_eq_true rfl) rfl ?_
  refine g_l dX12_leastAt_0 rfl rfl ?_
  refine g_iconst dX12_leastAt_1 rfl ?_
  refine g_putf dX12_leastAt_2 h248 f_12_108 (Nat.le_of_ble_eq_true rfl) rfl rfl p248_0 rfl ?_
  have h1 := thP_w (M := M)
  generalize wS M 0 0 0 = M1 at h1 ⊢
  have z5 : M1 0 5 = M 0 5 := h1.2 5 (by decide)
  refine g_l dX12_leastAt_5 rfl rfl ?_
  refine g_l dX12_leastAt_6 rfl rfl ?_
  refine g_l dX12_leastAt_7 rfl rfl ?_
  refine g_callV dX12_leastAt_8 m_12_211 (n := 2) rfl h248 rfl (Nat.le_of_ble_eq_true rfl) (Nat.le_of_ble_eq_true rfl) rfl rfl ?_
  refine s_X12_noLeast hx hn (by omega) (fun z => ?_) (fun z => ?_)
  · rw [z5, ← n5] at z
    simp only [Option.toList_some, Option.toList_none, List.cons_append, List.nil_append]
    refine g_if_eq (t := 17) dX12_leastAt_11 (by decide) rfl (by omega) (fun c_11 => False.elim (by omega)) (fun c_11 => ?_)
    refine g_bipush dX12_leastAt_14 (by decide) rfl ?_
    refine g_retI dX12_leastAt_16 rfl rfl ?_
    exact q1 z M1 h1.q
  · rw [z5, ← n5] at z
    simp only [Option.toList_some, Option.toList_none, List.cons_append, List.nil_append]
    refine g_if_eq (t := 17) dX12_leastAt_11 (by decide) rfl (by omega) (fun c_11 => ?_) (fun c_11 => False.elim (by omega))
    refine g_l dX12_leastAt_17 rfl rfl ?_
    refine g_l dX12_leastAt_18 rfl rfl ?_
    refine g_l dX12_leastAt_19 rfl rfl ?_
    refine g_callV dX12_leastAt_20 m_12_214 (n := 2) rfl h248 rfl (Nat.le_of_ble_eq_true rfl) (Nat.le_of_ble_eq_true rfl) rfl rfl ?_
    refine s_X12_findLeast (S0 := S0) (X := X) z.2 (h1.q.d ht) hp (by rw [h1.q.n]; exact ha) hX hB (fun M2 a1 a2 => ?_)
    have a3 := h1.q.tr a1
    have h0 := fun y => q0 z y M2 a3
    have h2 := fun y => q2 z y M2 a3
    have hb := lwF_b (S := S0) (x := x) (n := n.toNat) (X := X) (b := b) (b' := M1 30)
    have hl := lwF_in (S := S0) (x := x) (n := n.toNat) (X := X) (b := M1 30)
    rw [hb.1] at h2 hb
    have hb2 := hb.2
    generalize lwF S0 x n.toNat X (M1 30) = r at h2 hb2 hl ⊢
    simp only [Option.toList_some, Option.toList_none, List.cons_append, List.nil_append]
    refine g_bipush dX12_leastAt_23 (by decide) rfl ?_
    refine g_icmp_eq (t := 41) dX12_leastAt_25 (by decide) rfl (by omega) (by omega) (fun c_25 => ?_) (fun c_25 => ?_)
    · have e : r = -9 := by omega
      refine g_bipush dX12_leastAt_41 (by decide) rfl ?_
      refine g_goto (t := 52) dX12_leastAt_43 (by decide) ?_
      refine g_retI dX12_leastAt_52 rfl rfl ?_
      by_cases c : 0 ≤ i ∧ i < n
      · have h3 := h2 c
        rw [if_pos e] at h3
        exact h3
      · exact h0 c
    · refine g_l dX12_leastAt_28 rfl rfl ?_
      refine g_i2l dX12_leastAt_29 hi rfl ?_
      refine g_lconst0 dX12_leastAt_30 rfl rfl ?_
      refine g_l dX12_leastAt_31 rfl rfl ?_
      refine g_iconst dX12_leastAt_32 rfl ?_
      refine g_isub dX12_leastAt_33 rfl ?_
      refine g_i2l dX12_leastAt_34 (by omega) rfl ?_
      refine g_callS dX12_leastAt_35 m_12_111 (n := 3) rfl (by exact Nat.le_of_ble_eq_true rfl) (by exact Nat.le_of_ble_eq_true rfl) (by rfl) (by rfl) (by rfl) ?_
      refine s_X12_in (by omega) (by decide) (by omega) (fun y => ?_) (fun y => ?_)
      · have h3 := h2 (by omega)
        rw [if_neg c_25, hb2 c_25, ← a2 i y.1 (by omega)] at h3
        simp only [Option.toList_some, Option.toList_none, List.cons_append, List.nil_append]
        refine g_if_ne (t := 46) dX12_leastAt_38 (by decide) rfl (by omega) (fun c_38 => ?_) (fun c_38 => False.elim (by omega))
        refine g_l dX12_leastAt_46 rfl rfl ?_
        refine g_getf dX12_leastAt_47 h248 f_12_102 rfl rfl ?_
        refine g_l dX12_leastAt_50 rfl rfl ?_
        refine g_iald dX12_leastAt_51 h278 (by omega) (by decide) rfl ?_
        refine g_retI dX12_leastAt_52 rfl rfl ?_
        exact h3
      · simp only [Option.toList_some, Option.toList_none, List.cons_append, List.nil_append]
        refine g_if_ne (t := 46) dX12_leastAt_38 (by decide) rfl (by omega) (fun c_38 => False.elim (by omega)) (fun c_38 => ?_)
        refine g_bipush dX12_leastAt_41 (by decide) rfl ?_
        refine g_goto (t := 52) dX12_leastAt_43 (by decide) ?_
        refine g_retI dX12_leastAt_52 rfl rfl ?_
        exact h0 (fun q => y ⟨q.1, by omega⟩)
set_option maxHeartbeats 4000000 in
theorem s_X12_gales {S0 X : Nat → Int → Int} {p n w x up B : Int} (hp0 : R32 p) (hn : R32 n) (hw : R32 w) (hx : R32 x) (hu : up = 0 ∨ up = 1) (ht : tdP S0 M) (hp : pOk S0) (ha : agr S0 (nX M) X) (hX : twOk S0 X B) (hB : B ≤ 900000) (q1 : ¬ (0 ≤ p ∧ p < S0 13 5) → ∀ M', quFr M M' → Q (some (.long (-1))) (hO S Tw M' P)) (q2 : 0 ≤ p ∧ p < S0 13 5 → ¬ (((1 ≤ n ∧ n ≤ 8) ∧ 0 ≤ w ∧ w ≤ 9) ∧ 0 ≤ x ∧ x ≤ 10) → ∀ M', quFr M M' → Q (some (.long (-2))) (hO S Tw M' P))
    (q3 : 0 ≤ p ∧ p < S0 13 5 → ((1 ≤ n ∧ n ≤ 8) ∧ 0 ≤ w ∧ w ≤ 9) ∧ 0 ≤ x ∧ x ≤ 10 → ∀ M', quFr M M' → Q (some (.long (lI (ptF (cwL S0 X p (sbF S0 X (X 8 p)) n w x (2 ^ n.toNat)) (pwF 10 n.toNat) up)))) (hO S Tw M' P)) : CallD (d + 5) 156 [.ref 248, .int (iI p), .int (iI n), .int (iI w), .int (iI x), .int (iI up)] (hO S Tw M P) Q := by
  have n4 : M 0 4 = X 1 5 := ha.1
  have n5 : S0 13 5 = M 0 5 := ht.1
  have p1 := hp.1
  have p2 := hp.2.1
  have x1 := hX.1.1
  have x2 := hX.1.2.1
  have e8 : (8 : Int64) = lI 8 := rfl
  have e9 : (9 : Int64) = lI 9 := rfl
  have e10 : (10 : Int64) = lI 10 := rfl
  refine g_enter (loc := [some _, some _, some _, some _, some _, some _, _, _, _, _, _, _, _, _]) e_X12_gales i_X12_gales (Nat.le_of_ble_eq_true rfl) rfl ?_
  refine g_l dX12_gales_0 rfl rfl ?_
  refine g_iconst dX12_gales_1 rfl ?_
  refine g_putf dX12_gales_2 h248 f_12_108 (Nat.le_of_ble_eq_true rfl) rfl rfl p248_0 rfl ?_
  have h1 := thP_w (M := M)
  generalize wS M 0 0 0 = M1 at h1 ⊢
  have z5 : M1 0 5 = M 0 5 := h1.2 5 (by decide)
  refine g_l dX12_gales_5 rfl rfl ?_
  refine g_l dX12_gales_6 rfl rfl ?_
  refine g_callV dX12_gales_7 m_12_176 (n := 1) rfl h248 rfl (Nat.le_of_ble_eq_true rfl) (Nat.le_of_ble_eq_true rfl) rfl rfl ?_
  refine s_X12_noPot hp0 (by omega) (fun z => ?_) (fun z => ?_)
  · rw [z5, ← n5] at z
    simp only [Option.toList_some, Option.toList_none, List.cons_append, List.nil_append]
    refine g_if_eq (t := 17) dX12_gales_10 (by decide) rfl (by omega) (fun c_10 => False.elim (by omega)) (fun c_10 => ?_)
    refine g_ldc2_w dX12_gales_13 k_12_220 rfl ?_
    refine g_retL dX12_gales_16 rfl rfl ?_
    exact q1 z M1 h1.q
  · rw [z5, ← n5] at z
    have bad : ¬ (((1 ≤ n ∧ n ≤ 8) ∧ 0 ≤ w ∧ w ≤ 9) ∧ 0 ≤ x ∧ x ≤ 10) → G none (d + 4) 12 false (some .long) 0 0 (hO S Tw M P).length cX12_gales Q 0 54 [some (.ref 248), some (.int (iI p)), some (.int (iI n)), some (.int (iI w)), some (.int (iI x)), some (.int (iI up)), none, none, none, none, none, none, none, none] [] (hO S Tw M1 P) := fun y => by
      refine g_ldc2_w dX12_gales_54 k_12_224 rfl ?_
      refine g_retL dX12_gales_57 rfl rfl ?_
      exact q2 z y M1 h1.q
    simp only [Option.toList_some, Option.toList_none, List.cons_append, List.nil_append]
    refine g_if_eq (t := 17) dX12_gales_10 (by decide) rfl (by omega) (fun c_10 => ?_) (fun c_10 => False.elim (by omega))
    refine g_l dX12_gales_17 rfl rfl ?_
    refine g_i2l dX12_gales_18 hn rfl ?_
    refine g_lconst1 dX12_gales_19 rfl rfl ?_
    refine g_ldc2_w dX12_gales_20 k_12_120 rfl ?_
    rw [e8]
    refine g_callS dX12_gales_23 m_12_111 (n := 3) rfl (by exact Nat.le_of_ble_eq_true rfl) (by exact Nat.le_of_ble_eq_true rfl) (by rfl) (by rfl) (by rfl) ?_
    refine s_X12_in (by omega) (by decide) (by decide) (fun y => ?_) (fun y => ?_)
    · simp only [Option.toList_some, Option.toList_none, List.cons_append, List.nil_append]
      refine g_if_eq (t := 54) dX12_gales_26 (by decide) rfl (by omega) (fun c_26 => False.elim (by omega)) (fun c_26 => ?_)
      refine g_l dX12_gales_29 rfl rfl ?_
      refine g_i2l dX12_gales_30 hw rfl ?_
      refine g_lconst0 dX12_gales_31 rfl rfl ?_
      refine g_ldc2_w dX12_gales_32 k_12_118 rfl ?_
      rw [e9]
      refine g_callS dX12_gales_35 m_12_111 (n := 3) rfl (by exact Nat.le_of_ble_eq_true rfl) (by exact Nat.le_of_ble_eq_true rfl) (by rfl) (by rfl) (by rfl) ?_
      refine s_X12_in (by omega) (by decide) (by decide) (fun u => ?_) (fun u => ?_)
      · simp only [Option.toList_some, Option.toList_none, List.cons_append, List.nil_append]
        refine g_if_eq (t := 54) dX12_gales_38 (by decide) rfl (by omega) (fun c_38 => False.elim (by omega)) (fun c_38 => ?_)
        refine g_l dX12_gales_41 rfl rfl ?_
        refine g_i2l dX12_gales_43 hx rfl ?_
        refine g_lconst0 dX12_gales_44 rfl rfl ?_
        refine g_ldc2_w dX12_gales_45 k_12_222 rfl ?_
        rw [e10]
        refine g_callS dX12_gales_48 m_12_111 (n := 3) rfl (by exact Nat.le_of_ble_eq_true rfl) (by exact Nat.le_of_ble_eq_true rfl) (by rfl) (by rfl) (by rfl) ?_
        refine s_X12_in (by omega) (by decide) (by decide) (fun v => ?_) (fun v => ?_)
        · have h3 := q3 z ⟨⟨y, u⟩, v⟩
          have hcw := cwL_in (S := S0) (X := X) (p := p) (sb := sbF S0 X (X 8 p)) (n := n) (w := w) (x := x) (by omega) v (2 ^ n.toNat) (Nat.le_refl _)
          have hsh := sh_1 ⟨n.toNat, by omega⟩
          simp only [Int.toNat_of_nonneg (show 0 ≤ n by omega)] at hsh
          have hpw := pw_mono ⟨n.toNat, by omega⟩
          simp only [] at hpw
          simp only [Option.toList_some, Option.toList_none, List.cons_append, List.nil_append]
          refine g_if_ne (t := 58) dX12_gales_51 (by decide) rfl (by omega) (fun c_51 => ?_) (fun c_51 => False.elim (by omega))
          refine g_lconst0 dX12_gales_58 rfl rfl ?_
          refine g_l (loc' := [some _, some _, some _, some _, some _, some _, some _, _, _, _, _, _, _, _]) dX12_gales_59 rfl rfl ?_
          refine g_lconst1 dX12_gales_61 rfl rfl ?_
          refine g_l (loc' := [some _, some _, some _, some _, some _, some _, some _, _, some _, _, _, _, _, _]) dX12_gales_62 rfl rfl ?_
          refine g_iconst dX12_gales_64 rfl ?_
          refine g_l (loc' := [some _, some _, some _, some _, some _, some _, some _, _, some _, _, some _, _, _, _]) dX12_gales_65 rfl rfl ?_
          have fin : ∀ (M2 : Nat → Int → Int) (z11 z12 z13 : Option Value) (j : Int), quFr M M2 → G none (d + 4) 12 false (some .long) 0 0 (hO S Tw M P).length cX12_gales Q 0 187 [some (.ref 248), some (.int (iI p)), some (.int (iI n)), some (.int (iI w)), some (.int (iI x)), some (.int (iI up)), some (.long (lI (cwL S0 X p (sbF S0 X (X 8 p)) n w x (2 ^ n.toNat)))), none, some (.long (lI (pwF 10 n.toNat))), none, some (.int (iI j)), z11, z12, z13] [] (hO S Tw M2 P) := by
            intro M2 z11 z12 z13 j f1
            have h4 := h3 M2 f1
            have c2 : 2 ^ n.toNat ≤ 512 := hsh.2
            generalize 2 ^ n.toNat = NN at hcw h4 c2 ⊢
            generalize cwL S0 X p (sbF S0 X (X 8 p)) n w x NN = cw at hcw h4 ⊢
            generalize pwF 10 n.toNat = pw at hpw h4 ⊢
            have hg1 : 0 < gcF 200 cw pw := by
              rw [gcF, if_neg (by omega)]
              exact gcF_pos _ (by omega) (Int.emod_nonneg _ (by omega))
            have hg := gcF_in 200 (a := cw) (b := pw) (by omega) (by omega)
            unfold ptF at h4
            rw [if_neg (by omega)] at h4
            refine g_l dX12_gales_187 rfl rfl ?_
            refine g_l dX12_gales_189 rfl rfl ?_
            refine g_callS dX12_gales_191 m_12_226 (n := 2) rfl (by exact Nat.le_of_ble_eq_true rfl) (by exact Nat.le_of_ble_eq_true rfl) (by rfl) (by rfl) (by rfl) ?_
            refine s_X12_divisor (by omega) (by omega) ?_
            generalize gcF 200 cw pw = g at hg hg1 h4 ⊢
            simp only [Option.toList_some, Option.toList_none, List.cons_append, List.nil_append]
            refine g_l (loc' := [some _, some _, some _, some _, some _, some _, some _, _, some _, _, some _, _, _, _]) dX12_gales_194 rfl rfl ?_
            refine g_l dX12_gales_196 rfl rfl ?_
            refine g_if_eq (t := 209) dX12_gales_198 (by decide) rfl (by omega) (fun c_198 => ?_) (fun c_198 => ?_)
            · rw [if_pos c_198] at h4
              refine g_l dX12_gales_209 rfl rfl ?_
              refine g_l dX12_gales_211 rfl rfl ?_
              refine g_ldiv dX12_gales_213 (by omega) (by omega) (by omega) hg1 rfl ?_
              refine g_retL dX12_gales_214 rfl rfl ?_
              exact h4
            · rw [if_neg c_198] at h4
              refine g_l dX12_gales_201 rfl rfl ?_
              refine g_l dX12_gales_203 rfl rfl ?_
              refine g_ldiv dX12_gales_205 (by omega) (by omega) (by omega) hg1 rfl ?_
              refine g_goto (t := 214) dX12_gales_206 (by decide) ?_
              refine g_retL dX12_gales_214 rfl rfl ?_
              exact h4
          have rows : ∀ (m : Nat) (row : Int) (M2 : Nat → Int → Int) (z11 z12 z13 : Option Value), 0 ≤ row → row ≤ ((2 ^ n.toNat : Nat) : Int) → (((2 ^ n.toNat : Nat) : Int) - row).toNat = m → quFr M M2 →
              G none (d + 4) 12 false (some .long) 0 0 (hO S Tw M P).length cX12_gales Q 0 90 [some (.ref 248), some (.int (iI p)), some (.int (iI n)), some (.int (iI w)), some (.int (iI x)), some (.int (iI up)), some (.long (lI (cwL S0 X p (sbF S0 X (X 8 p)) n w x row.toNat))), none, some (.long (lI (pwF 10 n.toNat))), none, some (.int (iI row)), z11, z12, z13] [] (hO S Tw M2 P) := by
            intro m
            induction m with
            | zero =>
              intro row M2 z11 z12 z13 b1 b2 hm f1
              have c2 : 2 ^ n.toNat ≤ 512 := hsh.2
              have er : row.toNat = 2 ^ n.toNat := by omega
              rw [er]
              refine g_l dX12_gales_90 rfl rfl ?_
              refine g_iconst dX12_gales_92 rfl ?_
              refine g_l dX12_gales_93 rfl rfl ?_
              refine g_ishl dX12_gales_94 rfl ?_
              rw [hsh.1]
              refine g_icmp_ge (t := 187) dX12_gales_95 (by decide) rfl (by omega) (by omega) (fun c_95 => ?_) (fun c_95 => False.elim (by omega))
              exact fin M2 z11 z12 z13 row f1
            | succ m ih =>
              intro row M2 z11 z12 z13 b1 b2 hm f1
              have c2 : 2 ^ n.toNat ≤ 512 := hsh.2
              have hstep : cwL S0 X p (sbF S0 X (X 8 p)) n w x (row + 1).toNat = cwL S0 X p (sbF S0 X (X 8 p)) n w x row.toNat + (if crL S0 p (sbF S0 X (X 8 p)) w row n.toNat 0 X 10 p = 2 then wtF n x row else 0) := by
                rw [show (row + 1).toNat = row.toNat + 1 by omega, cwL, Int.toNat_of_nonneg b1]
              have hcr := gI_cr (S := S0) (w := w) (bits := row) (p := p) (sb := sbF S0 X (X 8 p)) n.toNat 0 X X ⟨rfl, rfl, rfl, rfl, rfl, rfl, rfl⟩ rfl
              rw [← hcr, ← wbF_n (by omega) ⟨b1, by omega⟩] at hstep
              have m4 : M2 0 4 = M 0 4 := f1.2 4 (by decide)
              have m5 : M2 0 5 = M 0 5 := f1.2 5 (by decide)
              have next := fun M3 z11 z12 z13 => ih (row + 1) M3 z11 z12 z13 (by omega) (by omega) (by omega)
              rw [hstep] at next
              generalize cwL S0 X p (sbF S0 X (X 8 p)) n w x row.toNat = acc at next ⊢
              refine g_l dX12_gales_90 rfl rfl ?_
              refine g_iconst dX12_gales_92 rfl ?_
              refine g_l dX12_gales_93 rfl rfl ?_
              refine g_ishl dX12_gales_94 rfl ?_
              rw [hsh.1]
              refine g_icmp_ge (t := 187) dX12_gales_95 (by decide) rfl (by omega) (by omega) (fun c_95 => False.elim (by omega)) (fun c_95 => ?_)
              refine g_lconst1 dX12_gales_98 rfl rfl ?_
              refine g_l (loc' := [some _, some _, some _, some _, some _, some _, some _, _, some _, _, some _, some _, _, _]) dX12_gales_99 rfl rfl ?_
              refine g_l dX12_gales_101 rfl rfl ?_
              refine g_callV dX12_gales_102 m_12_199 (n := 0) rfl h248 rfl (Nat.le_of_ble_eq_true rfl) (Nat.le_of_ble_eq_true rfl) rfl rfl ?_
              refine s_X12_begin (by omega) (by omega) (fun M3 b => ?_)
              obtain ⟨-, -, c3⟩ := ah1 b (f1.d ht) (by rw [f1.n]; exact ha) hX
              generalize he : -(X 1 6) = e at c3
              have g1 := f1.tr b.q
              simp only [Option.toList_some, Option.toList_none, List.cons_append, List.nil_append]
              refine g_iconst dX12_gales_105 rfl ?_
              refine g_l (loc' := [some _, some _, some _, some _, some _, some _, some _, _, some _, _, some _, some _, _, some _]) dX12_gales_106 rfl rfl ?_
              have inner : ∀ (r : Nat) (k : Int) (Y M4 : Nat → Int → Int), 0 ≤ k → k ≤ n → (n - k).toNat = r → quFr M M4 → agr S0 (mX M4) (sh6 e Y) → twOk S0 Y (B + 180 * k) → gItL S0 w row r k Y = gItL S0 w row n.toNat 0 X →
                  G none (d + 4) 12 false (some .long) 0 0 (hO S Tw M P).length cX12_gales Q 0 108 [some (.ref 248), some (.int (iI p)), some (.int (iI n)), some (.int (iI w)), some (.int (iI x)), some (.int (iI up)), some (.long (lI acc)), none, some (.long (lI (pwF 10 n.toNat))), none, some (.int (iI row)), some (.long (lI (wbF x row k.toNat))), none, some (.int (iI k))] [] (hO S Tw M4 P) := by
                intro r
                induction r with
                | zero =>
                  intro k Y M4 w1 w2 hr k1 k3 k4 k5
                  have ek : k = n := by omega
                  subst ek
                  rw [gItL] at k5
                  rw [← k5] at next
                  have e23 : M4 23 p = Y 10 p := (k3.2.2.2 p z.1 z.2).2.2
                  have r23 := (k4.2.1 p z.1 z.2).2.2.1
                  have nx := next M4
                  generalize wbF x row k.toNat = wb at nx ⊢
                  refine g_l dX12_gales_108 rfl rfl ?_
                  refine g_l dX12_gales_110 rfl rfl ?_
                  refine g_icmp_ge (t := 160) dX12_gales_111 (by decide) rfl (by omega) (by omega) (fun c_111 => ?_) (fun c_111 => False.elim (by omega))
                  refine g_l dX12_gales_160 rfl rfl ?_
                  refine g_l dX12_gales_162 rfl rfl ?_
                  refine g_getf dX12_gales_163 h248 f_12_81 rfl rfl ?_
                  refine g_l dX12_gales_166 rfl rfl ?_
                  refine g_iald dX12_gales_167 h271 (by omega) (by decide) rfl ?_
                  rw [e23]
                  refine g_iconst dX12_gales_168 rfl ?_
                  refine g_icmp_ne (t := 177) dX12_gales_169 (by decide) rfl (by omega) (by omega) (fun c_169 => ?_) (fun c_169 => ?_)
                  · rw [if_neg c_169] at nx
                    refine g_lconst0 dX12_gales_177 rfl rfl ?_
                    refine g_ladd dX12_gales_178 rfl ?_
                    refine g_l (loc' := [some _, some _, some _, some _, some _, some _, some _, _, some _, _, some _, some _, _, some _]) dX12_gales_179 rfl rfl ?_
                    refine g_iinc (loc' := [some _, some _, some _, some _, some _, some _, some _, _, some _, _, some _, some _, _, some _]) dX12_gales_181 rfl rfl rfl ?_
                    refine g_goto (t := 90) dX12_gales_184 (by decide) ?_
                    exact nx _ _ _ k1
                  · rw [if_pos (by omega)] at nx
                    refine g_l dX12_gales_172 rfl rfl ?_
                    refine g_goto (t := 178) dX12_gales_174 (by decide) ?_
                    refine g_ladd dX12_gales_178 rfl ?_
                    refine g_l (loc' := [some _, some _, some _, some _, some _, some _, some _, _, some _, _, some _, some _, _, some _]) dX12_gales_179 rfl rfl ?_
                    refine g_iinc (loc' := [some _, some _, some _, some _, some _, some _, some _, _, some _, _, some _, some _, _, some _]) dX12_gales_181 rfl rfl rfl ?_
                    refine g_goto (t := 90) dX12_gales_184 (by decide) ?_
                    exact nx _ _ _ k1
                | succ r ihr =>
                  intro k Y M4 w1 w2 hr k1 k3 k4 k5
                  rw [gItL] at k5
                  have t3 := k1.d ht
                  have k4b := (sh6_ok (e := e) k4).agr k3
                  have ws := wbF_s (x := x) (row := row) (k := k.toNat)
                  rw [Int.toNat_of_nonneg w1, show k.toNat + 1 = (k + 1).toNat by omega] at ws
                  have tail : ∀ b : Int, b = bAnd (bShr row k) 1 → (b = 0 ∨ b = 1) →
                      G none (d + 4) 12 false (some .long) 0 0 (hO S Tw M P).length cX12_gales Q 0 150 [some (.ref 248), some (.int (iI p)), some (.int (iI n)), some (.int (iI w)), some (.int (iI x)), some (.int (iI up)), some (.long (lI acc)), none, some (.long (lI (pwF 10 n.toNat))), none, some (.int (iI row)), some (.long (lI (wbF x row (k + 1).toNat))), none, some (.int (iI k))] [.int (iI b), .int (iI w), .ref 248] (hO S Tw M4 P) := by
                    intro b hb hb2
                    rw [← hb] at k5
                    refine g_callV dX12_gales_150 m_12_192 (n := 2) rfl h248 rfl (Nat.le_of_ble_eq_true rfl) (Nat.le_of_ble_eq_true rfl) rfl rfl ?_
                    refine s_X12_go hb2 u t3 hp k4b (by omega) (fun M5 a1 a2 => ?_)
                    generalize setF (fun i => M4 23 i = 0 ∧ ¬ gX S0 w b (mX M4) 10 i = 0) (M4 0 5).toNat = zz
                    have a3 := gX_agr (w := w) (b := b) k3 (sh6_ok (e := e) k4)
                    rw [gX_sh] at a3
                    simp only [Option.toList_some, Option.toList_none, List.cons_append, List.nil_append]
                    refine g_s dX12_gales_153 rfl rfl rfl ?_
                    refine g_iinc (loc' := [some _, some _, some _, some _, some _, some _, some _, _, some _, _, some _, some _, _, some _]) dX12_gales_154 rfl rfl rfl ?_
                    refine g_goto (t := 108) dX12_gales_157 (by decide) ?_
                    refine ihr (k + 1) (gX S0 w b Y) M5 (by omega) (by omega) (by omega) (k1.tr a1.q) (a2.tr a3) ?_ k5
                    rw [show B + 180 * (k + 1) = B + 180 * k + 180 by omega]
                    exact gX_ok hp k4 u
                  refine g_l dX12_gales_108 rfl rfl ?_
                  refine g_l dX12_gales_110 rfl rfl ?_
                  refine g_icmp_ge (t := 160) dX12_gales_111 (by decide) rfl (by omega) (by omega) (fun c_111 => False.elim (by omega)) (fun c_111 => ?_)
                  refine g_l dX12_gales_114 rfl rfl ?_
                  refine g_l dX12_gales_116 rfl rfl ?_
                  refine g_l dX12_gales_118 rfl rfl ?_
                  refine g_callS dX12_gales_120 m_12_134 (n := 2) rfl (by exact Nat.le_of_ble_eq_true rfl) (by exact Nat.le_of_ble_eq_true rfl) (by rfl) (by rfl) (by rfl) ?_
                  refine s_X12_has (fun hh => ?_) (fun hh => ?_)
                  · unfold hasB at hh
                    rw [if_pos hh] at ws
                    simp only [Option.toList_some, Option.toList_none, List.cons_append, List.nil_append]
                    refine g_if_eq (t := 132) dX12_gales_123 (by decide) rfl (by omega) (fun c_123 => False.elim (by omega)) (fun c_123 => ?_)
                    refine g_l dX12_gales_126 rfl rfl ?_
                    refine g_i2l dX12_gales_128 (by omega) rfl ?_
                    refine g_goto (t := 138) dX12_gales_129 (by decide) ?_
                    refine g_lmul dX12_gales_138 rfl ?_
                    rw [← ws]
                    refine g_l (loc' := [some _, some _, some _, some _, some _, some _, some _, _, some _, _, some _, some _, _, some _]) dX12_gales_139 rfl rfl ?_
                    refine g_l dX12_gales_141 rfl rfl ?_
                    refine g_l dX12_gales_142 rfl rfl ?_
                    refine g_l dX12_gales_143 rfl rfl ?_
                    refine g_l dX12_gales_145 rfl rfl ?_
                    refine g_callS dX12_gales_147 m_12_134 (n := 2) rfl (by exact Nat.le_of_ble_eq_true rfl) (by exact Nat.le_of_ble_eq_true rfl) (by rfl) (by rfl) (by rfl) ?_
                    refine s_X12_has (fun hh2 => ?_) (fun hh2 => ?_)
                    · simp only [Option.toList_some, Option.toList_none, List.cons_append, List.nil_append]
                      exact tail 1 hh.symm (Or.inr rfl)
                    · exact absurd hh hh2
                  · unfold hasB at hh
                    rw [if_neg hh] at ws
                    simp only [Option.toList_some, Option.toList_none, List.cons_append, List.nil_append]
                    refine g_if_eq (t := 132) dX12_gales_123 (by decide) rfl (by omega) (fun c_123 => ?_) (fun c_123 => False.elim (by omega))
                    refine g_bipush dX12_gales_132 (by decide) rfl ?_
                    refine g_l dX12_gales_134 rfl rfl ?_
                    refine g_isub dX12_gales_136 rfl ?_
                    refine g_i2l dX12_gales_137 (by omega) rfl ?_
                    refine g_lmul dX12_gales_138 rfl ?_
                    rw [← ws]
                    refine g_l (loc' := [some _, some _, some _, some _, some _, some _, some _, _, some _, _, some _, some _, _, some _]) dX12_gales_139 rfl rfl ?_
                    refine g_l dX12_gales_141 rfl rfl ?_
                    refine g_l dX12_gales_142 rfl rfl ?_
                    refine g_l dX12_gales_143 rfl rfl ?_
                    refine g_l dX12_gales_145 rfl rfl ?_
                    refine g_callS dX12_gales_147 m_12_134 (n := 2) rfl (by exact Nat.le_of_ble_eq_true rfl) (by exact Nat.le_of_ble_eq_true rfl) (by rfl) (by rfl) (by rfl) ?_
                    refine s_X12_has (fun hh2 => ?_) (fun hh2 => ?_)
                    · exact absurd hh2 hh
                    · simp only [Option.toList_some, Option.toList_none, List.cons_append, List.nil_append]
                      refine tail 0 ?_ (Or.inl rfl)
                      rcases bAnd_1 (bShr row k) with q | q
                      · exact q.symm
                      · exact absurd q hh
              exact inner n.toNat 0 X M3 (by decide) (by omega) (by rw [Int.sub_zero]) g1 c3 (by rw [Int.mul_zero, Int.add_zero]; exact hX) rfl
          have pow : ∀ (m : Nat) (k : Int), 0 ≤ k → k ≤ n → (n - k).toNat = m →
              G none (d + 4) 12 false (some .long) 0 0 (hO S Tw M P).length cX12_gales Q 0 67 [some (.ref 248), some (.int (iI p)), some (.int (iI n)), some (.int (iI w)), some (.int (iI x)), some (.int (iI up)), some (.long (lI 0)), none, some (.long (lI (pwF 10 k.toNat))), none, some (.int (iI k)), none, none, none] [] (hO S Tw M1 P) := by
            intro m
            induction m with
            | zero =>
              intro k w1 w2 hm
              have ek : k = n := by omega
              rw [ek]
              refine g_l dX12_gales_67 rfl rfl ?_
              refine g_l dX12_gales_69 rfl rfl ?_
              refine g_icmp_ge (t := 87) dX12_gales_70 (by decide) rfl (by omega) (by omega) (fun c_70 => ?_) (fun c_70 => False.elim (by omega))
              refine g_iconst dX12_gales_87 rfl ?_
              refine g_l (loc' := [some _, some _, some _, some _, some _, some _, some _, _, some _, _, some _, _, _, _]) dX12_gales_88 rfl rfl ?_
              exact rows (2 ^ n.toNat) 0 M1 none none none (by decide) (by omega) (by omega) h1.q
            | succ m ih =>
              intro k w1 w2 hm
              have es : pwF 10 (k + 1).toNat = pwF 10 k.toNat * 10 := by rw [show (k + 1).toNat = k.toNat + 1 by omega]; rfl
              refine g_l dX12_gales_67 rfl rfl ?_
              refine g_l dX12_gales_69 rfl rfl ?_
              refine g_icmp_ge (t := 87) dX12_gales_70 (by decide) rfl (by omega) (by omega) (fun c_70 => False.elim (by omega)) (fun c_70 => ?_)
              refine g_l dX12_gales_73 rfl rfl ?_
              refine g_ldc2_w dX12_gales_75 k_12_222 rfl ?_
              rw [e10]
              refine g_lmul dX12_gales_78 rfl ?_
              rw [← es]
              refine g_l (loc' := [some _, some _, some _, some _, some _, some _, some _, _, some _, _, some _, _, _, _]) dX12_gales_79 rfl rfl ?_
              refine g_iinc (loc' := [some _, some _, some _, some _, some _, some _, some _, _, some _, _, some _, _, _, _]) dX12_gales_81 rfl rfl rfl ?_
              refine g_goto (t := 67) dX12_gales_84 (by decide) ?_
              exact ih (k + 1) (by omega) (by omega) (by omega)
          exact pow n.toNat 0 (by decide) (by omega) (by rw [Int.sub_zero])
        · simp only [Option.toList_some, Option.toList_none, List.cons_append, List.nil_append]
          refine g_if_ne (t := 58) dX12_gales_51 (by decide) rfl (by omega) (fun c_51 => False.elim (by omega)) (fun c_51 => ?_)
          exact bad (fun q => v q.2)
      · simp only [Option.toList_some, Option.toList_none, List.cons_append, List.nil_append]
        refine g_if_eq (t := 54) dX12_gales_38 (by decide) rfl (by omega) (fun c_38 => ?_) (fun c_38 => False.elim (by omega))
        exact bad (fun q => u q.1.2)
    · simp only [Option.toList_some, Option.toList_none, List.cons_append, List.nil_append]
      refine g_if_eq (t := 54) dX12_gales_26 (by decide) rfl (by omega) (fun c_26 => ?_) (fun c_26 => False.elim (by omega))
      exact bad (fun q => y q.1.1)
end RN
