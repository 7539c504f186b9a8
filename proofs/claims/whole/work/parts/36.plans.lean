/-! the row's other methods; plans: each as a function of the tower -/
theorem itX_agr {S : Nat → Int → Int} {X Y : Nat → Int → Int} {w B : Int} (hp : pOk S) (g : agr S X Y) (hY : twOk S Y B) (hw : 0 ≤ w ∧ w ≤ 9) : ∀ n : Nat, agr S (itX S w X n) (itX S w Y n)
  | 0 => g
  | n + 1 => fX_agr (itX_agr hp g hY hw n) (itX_ok hp hY hw n)
/-- alike, and in what burning left -/
def agr5 (S : Nat → Int → Int) (X Y : Nat → Int → Int) : Prop := agr S X Y ∧ ∀ k, 0 ≤ k → k < Y 1 5 → X 5 k = Y 5 k ∧ X 6 k = Y 6 k
theorem agr5.tr {S : Nat → Int → Int} {X Y Z : Nat → Int → Int} (h : agr5 S X Y) (g : agr5 S Y Z) : agr5 S X Z := by
  refine ⟨h.1.tr g.1, fun k a b => ?_⟩
  obtain ⟨y1, y2⟩ := g.2 k a b
  obtain ⟨x1, x2⟩ := h.2 k a (by rw [g.1.1]; exact b)
  exact ⟨x1.trans y1, x2.trans y2⟩
/-- behind what pot p feels -/
def feX (S : Nat → Int → Int) (p sb : Int) (X : Nat → Int → Int) : Nat → Int → Int := fun o k => if o = 9 ∧ k = p then nHas S X p sb else if o = 10 ∧ k = p then nHow S X p sb else X o k
theorem feX_agr {S : Nat → Int → Int} {X Y : Nat → Int → Int} {p sb : Int} (g : agr5 S X Y) (hp : 0 ≤ p ∧ p < S 13 5) (hr : 0 ≤ Y 8 p ∧ Y 8 p < Y 1 5) (hn : Y 1 5 ≤ 5) : agr S (feX S p sb X) (feX S p sb Y) := by
  obtain ⟨⟨h1, h2, h3, h4⟩, h56⟩ := g
  obtain ⟨x1, x2, x3⟩ := h4 p hp.1 hp.2
  have e2 := (h3 (Y 8 p) hr.1 (by omega)).1
  obtain ⟨e5, e6⟩ := h56 (Y 8 p) hr.1 hr.2
  have ea : nHas S X p sb = nHas S Y p sb := by unfold nHas; rw [x1, x2, x3, e2, e5, e6]
  have eb : nHow S X p sb = nHow S Y p sb := by unfold nHow; rw [x1, x2, x3, e2, e5, e6]
  refine ⟨h1, h2, fun k a b => h3 k a b, fun i a b => ?_⟩
  obtain ⟨y1, y2, y3⟩ := h4 i a b
  refine ⟨y1, ?_, ?_⟩
  · unfold feX
    by_cases c : i = p
    · rw [if_pos ⟨rfl, c⟩, if_pos ⟨rfl, c⟩, ea]
    · rw [if_neg (fun z => c z.2), if_neg (fun z => c z.2), if_neg (fun z => c z.2), if_neg (fun z => c z.2)]; exact y2
  · unfold feX
    by_cases c : i = p
    · rw [if_neg (show ¬ ((10 : Nat) = 9 ∧ i = p) from fun z => absurd z.1 (by decide)), if_neg (show ¬ ((10 : Nat) = 9 ∧ i = p) from fun z => absurd z.1 (by decide)), if_pos (show (10 : Nat) = 10 ∧ i = p from ⟨rfl, c⟩), if_pos (show (10 : Nat) = 10 ∧ i = p from ⟨rfl, c⟩), eb]
    · rw [if_neg (fun z => c z.2), if_neg (fun z => c z.2), if_neg (fun z => c z.2), if_neg (fun z => c z.2)]; exact y3
theorem potP_agr {S : Nat → Int → Int} {t : Nat} {p sb : Int} {Tw Tw' : Nat → Nat → Int → Int} (h : potP t S p sb Tw Tw') : agr S (Tw' t) (feX S p sb (Tw t)) := by
  obtain ⟨g1, g2, g3, g4⟩ := h
  refine ⟨?_, ?_, fun k a b => ⟨?_, ?_, ?_⟩, fun i a b => ⟨?_, ?_, ?_⟩⟩
  · rw [g4 1 (by decide) (by decide)]; rfl
  · rw [g4 1 (by decide) (by decide)]; rfl
  · rw [g4 2 (by decide) (by decide)]; rfl
  · rw [g4 3 (by decide) (by decide)]; rfl
  · rw [g4 4 (by decide) (by decide)]; rfl
  · rw [g4 8 (by decide) (by decide)]; rfl
  · rw [g2]
    unfold feX
    by_cases c : i = p
    · rw [if_pos c, if_pos ⟨rfl, c⟩]
    · rw [if_neg c, if_neg (fun z => c z.2), if_neg (fun z => c z.2)]
  · rw [g3]
    unfold feX
    by_cases c : i = p
    · rw [if_pos c, if_neg (by simp), if_pos ⟨rfl, c⟩]
    · rw [if_neg c, if_neg (fun z => c z.2), if_neg (fun z => c z.2)]
theorem feX_ok {S : Nat → Int → Int} {X : Nat → Int → Int} {p sb B : Int} (hp : pOk S) (h : twOk S X B) (h0 : 0 ≤ p ∧ p < S 13 5) : twOk S (feX S p sb X) B := by
  obtain ⟨⟨t1, t2, t3, t4⟩, q, r⟩ := h
  refine ⟨⟨t1, t2, fun k a b => t3 k a b, t4⟩, fun i a b => ?_, fun i a b => r i a b⟩
  obtain ⟨y1, y2, y3, y4⟩ := q i a b
  obtain ⟨-, -, hp⟩ := hp
  obtain ⟨-, -, -, z1, -⟩ := hp i a b
  refine ⟨y1, ?_⟩
  unfold feX
  by_cases c : i = p
  · subst c
    have := nH_ok (sb := sb) z1.2 y2 y3 y4
    simp only [and_self, if_true, show ¬ ((10 : Nat) = 9) by decide, false_and, if_false]
    exact this
  · simp only [c, and_false, if_false]
    exact ⟨y2, y3, y4⟩
theorem bX_ok {S : Nat → Int → Int} {X : Nat → Int → Int} {w B : Int} (h : twOk S X B) (hw : 0 ≤ w ∧ w ≤ 9) : twOk S (bX w X) (B + 180) := by
  obtain ⟨⟨t1, t2, t3, t4⟩, q, r⟩ := h
  obtain ⟨s1, s2⟩ := nhF_sum ⟨t1, t2⟩ hw t3 t4
  exact ⟨⟨t1, t2, fun k a b => ⟨(t3 k a b).1, (t3 k a b).2.1, (t3 k a b).2.2.1, s1 k a b⟩, s2⟩, fun p a b => q p a b, fun p a b => r p a b⟩
/-- what a pot feels is in its bounds behind a burning -/
theorem bX_h {S : Nat → Int → Int} {X : Nat → Int → Int} {w B : Int} (h : twOk S X B) (hB : B ≤ 1000000) (hw : 0 ≤ w ∧ w ≤ 9) {k : Int} (h0 : 0 ≤ k) (h5 : k < X 1 5) : hOk (bX w X) k := by
  have k0 := h.1.k (by omega)
  have k1 := (bX_ok h hw).1.k (by omega)
  have z0 := (k0.2.2 k h0 (by have := k0.2.1; omega)).1
  have z1 := (k1.2.2 k h0 (by have := k0.2.1; omega)).1
  refine ⟨z1, z0, ?_⟩
  show R32 (cmF (X 3) (X 2) w k)
  unfold cmF upF
  split
  · omega
  · obtain ⟨x1, x2, x3⟩ := k0.2.2 (k - 1) (by omega) (by have := k0.2.1; omega)
    have := prodB x1 x2
    omega
theorem blX_ok {S : Nat → Int → Int} {X : Nat → Int → Int} {B : Int} (h : twOk S X B) : twOk S (blX X) B := by
  obtain ⟨⟨t1, t2, t3, t4⟩, q, r⟩ := h
  have L : ∀ k, 0 ≤ k → k < 5 → 0 ≤ blF (X 1 5) (X 2) k ∧ blF (X 1 5) (X 2) k ≤ X 2 k := fun k a b => by
    have := (t3 k a b).2.2.2
    unfold blF
    split <;> omega
  refine ⟨⟨t1, t2, fun k a b => ⟨(t3 k a b).1, (t3 k a b).2.1, (t3 k a b).2.2.1, (L k a b).1⟩, ?_⟩, fun p a b => q p a b, fun p a b => r p a b⟩
  have l0 := L 0 (by omega) (by omega)
  have l1 := L 1 (by omega) (by omega)
  have l2 := L 2 (by omega) (by omega)
  have l3 := L 3 (by omega) (by omega)
  have l4 := L 4 (by omega) (by omega)
  show blF (X 1 5) (X 2) 0 + blF (X 1 5) (X 2) 1 + blF (X 1 5) (X 2) 2 + blF (X 1 5) (X 2) 3 + blF (X 1 5) (X 2) 4 ≤ B
  omega
theorem blX_h {X : Nat → Int → Int} {k : Int} (h : hOk X k) : hOk (blX X) k := by
  obtain ⟨a, b, c⟩ := h
  refine ⟨?_, b, c⟩
  show 0 ≤ blF (X 1 5) (X 2) k ∧ blF (X 1 5) (X 2) k ≤ 10000000
  unfold blF
  split <;> omega
theorem blX_agr {S : Nat → Int → Int} {X Y : Nat → Int → Int} (g : agr5 S X Y) : agr5 S (blX X) (blX Y) := by
  obtain ⟨⟨h1, h2, h3, h4⟩, h56⟩ := g
  refine ⟨⟨h1, h2, fun k a b => ⟨?_, (h3 k a b).2⟩, fun p a b => h4 p a b⟩, fun k a b => h56 k a b⟩
  show blF (X 1 5) (X 2) k = blF (Y 1 5) (Y 2) k
  unfold blF
  rw [h1, (h3 k a b).1]
theorem hOk_agr {S : Nat → Int → Int} {X Y : Nat → Int → Int} {k : Int} (g : agr5 S X Y) (h : hOk Y k) (h0 : 0 ≤ k) (h5 : k < Y 1 5) (hn : Y 1 5 ≤ 5) : hOk X k := by
  obtain ⟨⟨h1, h2, h3, h4⟩, h56⟩ := g
  unfold hOk
  rw [(h3 k h0 (by omega)).1, (h56 k h0 h5).1, (h56 k h0 h5).2]
  exact h
/-- a quarter of pot p alone, with a gale or not -/
def qX (S : Nat → Int → Int) (p sb w b : Int) (X : Nat → Int → Int) : Nat → Int → Int := feX S p sb (if b = 1 then blX (bX w X) else bX w X)
theorem qX_ok {S : Nat → Int → Int} {X : Nat → Int → Int} {p sb w b B : Int} (hp : pOk S) (h : twOk S X B) (h0 : 0 ≤ p ∧ p < S 13 5) (hw : 0 ≤ w ∧ w ≤ 9) : twOk S (qX S p sb w b X) (B + 180) := by
  unfold qX
  refine feX_ok hp ?_ h0
  split
  · exact blX_ok (bX_ok h hw)
  · exact bX_ok h hw
/-- a tower with kiln k's shutter set -/
def shX (k s : Int) (X : Nat → Int → Int) : Nat → Int → Int := fun o j => if o = 3 ∧ j = k then s else X o j
/-- a tower with pot p's place set -/
def plX (p k : Int) (X : Nat → Int → Int) : Nat → Int → Int := fun o j => if o = 8 ∧ j = p then k else X o j
/-- the fewest tenths from s on, m tries -/
noncomputable def fwL (S : Nat → Int → Int) (X : Nat → Int → Int) (k p : Int) (n : Nat) (w : Int) : Nat → Int → Int
  | 0, _ => -9
  | m + 1, s => @ite Int (itX S w (shX k s X) n 10 p = 1) (Classical.propDecidable _) s (fwL S X k p n w m (s + 1))
/-- pot p's tower behind m quarters from the i-th on, as the bits tell of gales, till it is done -/
def crL (S : Nat → Int → Int) (p sb w bits : Int) : Nat → Int → (Nat → Int → Int) → Nat → Int → Int
  | 0, _, X => X
  | m + 1, i, X => if X 10 p = 0 then crL S p sb w bits m (i + 1) (qX S p sb w (bAnd (bShr bits i) 1) X) else X
section PL
variable {S : Nat → Int → Int} {Tw : Nat → Nat → Int → Int} {M : Nat → Int → Int} {P : Nat → Nat} {d : Nat} {Q : Option Value → GH → Prop}
theorem agr_w {S S' : Nat → Int → Int} {X Y : Nat → Int → Int} (h : S' 13 5 = S 13 5) (g : agr S' X Y) : agr S X Y := by
  unfold agr at *
  rw [← h]
  exact g
theorem s_X6_add (hp : rowP P) (hl : 0 ≤ S 30 1 ∧ S 30 1 ≤ 12)
    (hq1 : S 30 1 < 12 → ∀ Tw', frT (P (S 30 1).toNat) Tw Tw' → agr S (Tw' (P (S 30 1).toNat)) (Tw 0) → Q none (hO (wS S 30 1 (S 30 1 + 1)) Tw' M P))
    (hq2 : S 30 1 = 12 → ∀ Tw' P', (∀ j, j < 11 → P' j = P (j + 1)) → P' 11 = P 0 → frT (P' 11) Tw Tw' → agr S (Tw' (P' 11)) (Tw 0) → Q none (hO (wS (wS S 30 1 11) 30 1 12) Tw' M P')) : CallD (d + 4) 54 [.ref 30, .ref (tR 0 0)] (hO S Tw M P) Q := by
  refine g_enter (loc := [some _, some _]) e_X6_add i_X6_add (Nat.le_of_ble_eq_true rfl) rfl ?_
  refine g_l dX6_add_0 rfl rfl ?_
  refine g_getf dX6_add_1 h30 f_6_20 rfl rfl ?_
  refine g_bipush dX6_add_4 (by decide) rfl ?_
  refine g_icmp_lt (t := 13) dX6_add_6 (by decide) rfl (by omega) (by omega) (fun c_6 => ?_) (fun c_6 => ?_)
  · have := hp.1 (S 30 1).toNat (by omega)
    refine g_l dX6_add_13 rfl rfl ?_
    refine g_getf dX6_add_14 h30 f_6_11 rfl rfl ?_
    refine g_l dX6_add_17 rfl rfl ?_
    refine g_getf dX6_add_18 h30 f_6_20 rfl rfl ?_
    refine g_aald31 dX6_add_21 (by omega) rfl ?_
    refine g_l dX6_add_22 rfl rfl ?_
    refine g_callV dX6_add_23 m_6_27 (n := 1) rfl (hT0 (by omega)) rfl (Nat.le_of_ble_eq_true rfl) (Nat.le_of_ble_eq_true rfl) rfl rfl ?_
    refine s_X9_copyFrom (t := P (S 30 1).toNat) (u := 0) (by omega) (by decide) (by omega) (fun Tw' g1 g2 => ?_)
    simp only [Option.toList_some, Option.toList_none, List.cons_append, List.nil_append]
    refine g_l dX6_add_26 rfl rfl ?_
    refine g_s dX6_add_27 rfl rfl rfl ?_
    refine g_getf dX6_add_28 h30 f_6_20 rfl rfl ?_
    refine g_iconst dX6_add_31 rfl ?_
    refine g_iadd dX6_add_32 rfl ?_
    refine g_putf dX6_add_33 h30 f_6_20 (Nat.le_of_ble_eq_true rfl) rfl rfl p30_1 rfl ?_
    refine g_retV dX6_add_36 rfl rfl ?_
    exact hq1 c_6 Tw' g1 g2
  · refine g_l dX6_add_9 rfl rfl ?_
    refine g_callV dX6_add_10 m_6_24 (n := 0) rfl h30 rfl (Nat.le_of_ble_eq_true rfl) (Nat.le_of_ble_eq_true rfl) rfl rfl ?_
    refine s_X6_forgetFirst hp (fun P' f1 f2 => ?_)
    simp only [Option.toList_some, Option.toList_none, List.cons_append, List.nil_append]
    have e : wS S 30 1 11 30 1 = 11 := wS_e
    have := hp.1 0 (by decide)
    have z11 : P' (11 : Int).toNat < 19 := by show P' 11 < 19; omega
    refine g_l dX6_add_13 rfl rfl ?_
    refine g_getf dX6_add_14 h30 f_6_11 rfl rfl ?_
    refine g_l dX6_add_17 rfl rfl ?_
    refine g_getf dX6_add_18 h30 f_6_20 rfl rfl ?_
    rw [e]
    refine g_aald31 dX6_add_21 (by omega) rfl ?_
    refine g_l dX6_add_22 rfl rfl ?_
    refine g_callV dX6_add_23 m_6_27 (n := 1) rfl (hT0 (by omega)) rfl (Nat.le_of_ble_eq_true rfl) (Nat.le_of_ble_eq_true rfl) rfl rfl ?_
    refine s_X9_copyFrom (t := P' (11 : Int).toNat) (u := 0) (by show P' 11 < 19; omega) (by decide) (by show P' 11 ≠ 0; omega) (fun Tw' g1 g2 => ?_)
    simp only [Option.toList_some, Option.toList_none, List.cons_append, List.nil_append]
    refine g_l dX6_add_26 rfl rfl ?_
    refine g_s dX6_add_27 rfl rfl rfl ?_
    refine g_getf dX6_add_28 h30 f_6_20 rfl rfl ?_
    refine g_iconst dX6_add_31 rfl ?_
    refine g_iadd dX6_add_32 rfl ?_
    rw [e]
    refine g_putf dX6_add_33 h30 f_6_20 (Nat.le_of_ble_eq_true rfl) rfl rfl p30_1 rfl ?_
    refine g_retV dX6_add_36 rfl rfl ?_
    exact hq2 (by omega) Tw' P' f1 f2 g1 (agr_w (by rw [wS_o (by decide)]) g2)
theorem s_X6_takeBack (hp : rowP P) (hl : 0 ≤ S 30 1 ∧ S 30 1 ≤ 12) (hq0 : S 30 1 = 0 → Q (some (.int (iI 0))) (hO S Tw M P))
    (hq : 0 < S 30 1 → ∀ Tw' u, u = P (S 30 1 - 1).toNat → frT 0 Tw Tw' → Tw' 0 2 = Tw u 2 → Tw' 0 1 6 = Tw u 1 6 → Tw' 0 9 = Tw u 9 → Tw' 0 10 = Tw u 10 → (∀ j, j ≠ 6 → Tw' 0 1 j = Tw 0 1 j) → (∀ o, o ≠ 1 → o ≠ 2 → o ≠ 9 → o ≠ 10 → Tw' 0 o = Tw 0 o) → Q (some (.int (iI (S 30 1 - 1)))) (hO (wS S 30 1 (S 30 1 - 1)) Tw' M P)) : CallD (d + 3) 56 [.ref 30, .ref (tR 0 0)] (hO S Tw M P) Q := by
  refine g_enter (loc := [some _, some _]) e_X6_takeBack i_X6_takeBack (Nat.le_of_ble_eq_true rfl) rfl ?_
  refine g_l dX6_takeBack_0 rfl rfl ?_
  refine g_getf dX6_takeBack_1 h30 f_6_20 rfl rfl ?_
  refine g_if_le (t := 30) dX6_takeBack_4 (by decide) rfl (by omega) (fun c_4 => ?_) (fun c_4 => ?_)
  · refine g_l dX6_takeBack_30 rfl rfl ?_
    refine g_getf dX6_takeBack_31 h30 f_6_20 rfl rfl ?_
    refine g_retI dX6_takeBack_34 rfl rfl ?_
    rw [show S 30 1 = 0 by omega]
    exact hq0 (by omega)
  · have e : wS S 30 1 (S 30 1 - 1) 30 1 = S 30 1 - 1 := wS_e
    have := hp.1 (S 30 1 - 1).toNat (by omega)
    refine g_l dX6_takeBack_7 rfl rfl ?_
    refine g_s dX6_takeBack_8 rfl rfl rfl ?_
    refine g_getf dX6_takeBack_9 h30 f_6_20 rfl rfl ?_
    refine g_iconst dX6_takeBack_12 rfl ?_
    refine g_isub dX6_takeBack_13 rfl ?_
    refine g_putf dX6_takeBack_14 h30 f_6_20 (Nat.le_of_ble_eq_true rfl) rfl rfl p30_1 rfl ?_
    refine g_l dX6_takeBack_17 rfl rfl ?_
    refine g_l dX6_takeBack_18 rfl rfl ?_
    refine g_getf dX6_takeBack_19 h30 f_6_11 rfl rfl ?_
    refine g_l dX6_takeBack_22 rfl rfl ?_
    refine g_getf dX6_takeBack_23 h30 f_6_20 rfl rfl ?_
    rw [e]
    refine g_aald31 dX6_takeBack_26 (by omega) rfl ?_
    refine g_callV dX6_takeBack_27 m_6_31 (n := 1) rfl (hT0 (by omega)) rfl (Nat.le_of_ble_eq_true rfl) (Nat.le_of_ble_eq_true rfl) rfl rfl ?_
    refine s_X9_goBackTo (t := 0) (u := P (S 30 1 - 1).toNat) (by decide) (by omega) (by omega) (fun Tw' g1 g2 g3 g4 g5 g6 g7 => ?_)
    simp only [Option.toList_some, Option.toList_none, List.cons_append, List.nil_append]
    refine g_l dX6_takeBack_30 rfl rfl ?_
    refine g_getf dX6_takeBack_31 h30 f_6_20 rfl rfl ?_
    refine g_retI dX6_takeBack_34 rfl rfl ?_
    rw [e]
    exact hq (by omega) Tw' _ rfl g1 g2 g3 g4 g5 g6 g7
theorem s_X3_heatBehind {k n w B : Int} (hk : tOk (Tw 0) B) (hB : B ≤ 900000) (hk0 : 0 ≤ k ∧ k < 5) (hn : 0 ≤ n ∧ n ≤ 9) (hw : 0 ≤ w ∧ w ≤ 9) (hq : ∀ Tw', frT 15 Tw Tw' → Q (some (.int (iI (hIt (Tw 0 1 5) (Tw 0 3) (Tw 0 4) w (Tw 0 2) n.toNat k)))) (hO S Tw' M P)) : CallD (d + 3) 27 [.ref 205, .int (iI k), .int (iI n), .int (iI w)] (hO S Tw M P) Q := by
  refine g_enter (loc := [some _, some _, some _, some _]) e_X3_heatBehind i_X3_heatBehind (Nat.le_of_ble_eq_true rfl) rfl ?_
  refine g_l dX3_heatBehind_0 rfl rfl ?_
  refine g_getf dX3_heatBehind_1 h205 f_3_15 rfl rfl ?_
  refine g_getf dX3_heatBehind_4 (hT0 (by omega)) f_3_18 rfl rfl ?_
  refine g_l dX3_heatBehind_7 rfl rfl ?_
  refine g_getf dX3_heatBehind_8 h205 f_3_9 rfl rfl ?_
  refine g_getf dX3_heatBehind_11 (hT0 (by omega)) f_3_18 rfl rfl ?_
  refine g_callV dX3_heatBehind_14 m_3_24 (n := 1) rfl (hT1 (by omega)) rfl (Nat.le_of_ble_eq_true rfl) (Nat.le_of_ble_eq_true rfl) rfl rfl ?_
  refine s_X2_copyFrom (t := 15) (u := 0) (by decide) (by decide) (fun T1 a1 a2 a3 a4 a5 => ?_)
  simp only [Option.toList_some, Option.toList_none, List.cons_append, List.nil_append]
  refine g_l dX3_heatBehind_17 rfl rfl ?_
  refine g_getf dX3_heatBehind_18 h205 f_3_15 rfl rfl ?_
  refine g_getf dX3_heatBehind_21 (hT0 (by omega)) f_3_18 rfl rfl ?_
  refine g_l dX3_heatBehind_24 rfl rfl ?_
  refine g_l dX3_heatBehind_25 rfl rfl ?_
  refine g_callV dX3_heatBehind_26 m_3_30 (n := 2) rfl (hT1 (by omega)) rfl (Nat.le_of_ble_eq_true rfl) (Nat.le_of_ble_eq_true rfl) rfl rfl ?_
  have k1 : tOk (T1 15) B := by
    unfold tOk
    rw [a2 2 (by simp), a2 3 (by simp), a2 4 (by simp), a3]
    exact hk
  refine s_X2_burnAll (t := 15) (by decide) k1 (by omega) hn hw (fun T2 b1 b2 b3 b4 b5 b6 b7 => ?_)
  simp only [Option.toList_some, Option.toList_none, List.cons_append, List.nil_append]
  refine g_l dX3_heatBehind_29 rfl rfl ?_
  refine g_getf dX3_heatBehind_30 h205 f_3_15 rfl rfl ?_
  refine g_getf dX3_heatBehind_33 (hT0 (by omega)) f_3_18 rfl rfl ?_
  refine g_getf dX3_heatBehind_36 (hT1 (by omega)) f_3_34 rfl rfl ?_
  refine g_l dX3_heatBehind_39 rfl rfl ?_
  refine g_iald dX3_heatBehind_40 (hTa2 (by omega)) (by omega) (by decide) rfl ?_
  refine g_retI dX3_heatBehind_41 rfl rfl ?_
  rw [b2 k hk0.1 hk0.2, a2 2 (by simp), a2 3 (by simp), a2 4 (by simp), a3]
  exact hq T2 (a1.tr b1)
theorem s_X3_howBehind {p n w B : Int} (hp : pOk S) (hk : twOk S (Tw 0) B) (hB : B ≤ 900000) (hp0 : 0 ≤ p ∧ p < S 13 5) (hn : 0 ≤ n ∧ n ≤ 9) (hw : 0 ≤ w ∧ w ≤ 9) (hq : ∀ Tw', frT 15 Tw Tw' → Q (some (.int (iI (itX S w (Tw 0) n.toNat 10 p)))) (hO S Tw' M P)) : CallD (d + 6) 28 [.ref 205, .int (iI p), .int (iI n), .int (iI w)] (hO S Tw M P) Q := by
  have hp5 := hp.2.1
  refine g_enter (loc := [some _, some _, some _, some _]) e_X3_howBehind i_X3_howBehind (Nat.le_of_ble_eq_true rfl) rfl ?_
  refine g_l dX3_howBehind_0 rfl rfl ?_
  refine g_getf dX3_howBehind_1 h205 f_3_15 rfl rfl ?_
  refine g_l dX3_howBehind_4 rfl rfl ?_
  refine g_getf dX3_howBehind_5 h205 f_3_9 rfl rfl ?_
  refine g_callV dX3_howBehind_8 m_3_38 (n := 1) rfl (hT0 (by omega)) rfl (Nat.le_of_ble_eq_true rfl) (Nat.le_of_ble_eq_true rfl) rfl rfl ?_
  refine s_X9_copyFrom (t := 15) (u := 0) (by decide) (by decide) (by decide) (fun T1 a1 a2 => ?_)
  simp only [Option.toList_some, Option.toList_none, List.cons_append, List.nil_append]
  refine g_l dX3_howBehind_11 rfl rfl ?_
  refine g_getf dX3_howBehind_12 h205 f_3_15 rfl rfl ?_
  refine g_l dX3_howBehind_15 rfl rfl ?_
  refine g_l dX3_howBehind_16 rfl rfl ?_
  refine g_callV dX3_howBehind_17 m_3_41 (n := 2) rfl (hT0 (by omega)) rfl (Nat.le_of_ble_eq_true rfl) (Nat.le_of_ble_eq_true rfl) rfl rfl ?_
  refine s_X9_fireAll (t := 15) (by decide) hp (hk.agr a2) hB hn hw (fun T2 b1 b2 => ?_)
  simp only [Option.toList_some, Option.toList_none, List.cons_append, List.nil_append]
  refine g_l dX3_howBehind_20 rfl rfl ?_
  refine g_getf dX3_howBehind_21 h205 f_3_15 rfl rfl ?_
  refine g_getf dX3_howBehind_24 (hT0 (by omega)) f_3_44 rfl rfl ?_
  refine g_getf dX3_howBehind_27 (hT7 (by omega)) f_3_48 rfl rfl ?_
  refine g_l dX3_howBehind_30 rfl rfl ?_
  refine g_iald dX3_howBehind_31 (hTa10 (by omega)) (by omega) (by decide) rfl ?_
  refine g_retI dX3_howBehind_32 rfl rfl ?_
  rw [((b2.tr (itX_agr hp a2 hk hw n.toNat)).2.2.2 p hp0.1 hp0.2).2.2]
  exact hq T2 (a1.tr b1)
end PL
