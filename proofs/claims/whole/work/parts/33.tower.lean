/-! Tower: the spec of each method; a quarter as a function of the tower -/
/-- behind the burning -/
def bX (w : Int) (X : Nat → Int → Int) : Nat → Int → Int := fun o k => if o = 2 then nhF (X 1 5) (X 3) (X 4) w (X 2) k else if o = 5 then X 2 k else if o = 6 then cmF (X 3) (X 2) w k else if o = 1 ∧ k = 6 then X 1 6 + outF (X 1 5) (X 3) (X 4) (X 2) else X o k
/-- behind a gale -/
def blX (X : Nat → Int → Int) : Nat → Int → Int := fun o k => if o = 2 then blF (X 1 5) (X 2) k else X o k
/-- behind what pots feel -/
noncomputable def lX (S : Nat → Int → Int) (X : Nat → Int → Int) : Nat → Int → Int := fun o k => if o = 9 then nHas S X k (sbF S X (X 8 k)) else if o = 10 then nHow S X k (sbF S X (X 8 k)) else X o k
noncomputable def fX (S : Nat → Int → Int) (w : Int) (X : Nat → Int → Int) : Nat → Int → Int := lX S (bX w X)
noncomputable def itX (S : Nat → Int → Int) (w : Int) (X : Nat → Int → Int) : Nat → Nat → Int → Int
  | 0 => X
  | n + 1 => fX S w (itX S w X n)
/-- alike in all that matters later -/
def agr (S : Nat → Int → Int) (X Y : Nat → Int → Int) : Prop := X 1 5 = Y 1 5 ∧ X 1 6 = Y 1 6 ∧ (∀ k, 0 ≤ k → k < 5 → X 2 k = Y 2 k ∧ X 3 k = Y 3 k ∧ X 4 k = Y 4 k) ∧ ∀ p, 0 ≤ p → p < S 13 5 → X 8 p = Y 8 p ∧ X 9 p = Y 9 p ∧ X 10 p = Y 10 p
theorem agr.rf {S : Nat → Int → Int} {X : Nat → Int → Int} : agr S X X := ⟨rfl, rfl, fun _ _ _ => ⟨rfl, rfl, rfl⟩, fun _ _ _ => ⟨rfl, rfl, rfl⟩⟩
theorem agr.tr {S : Nat → Int → Int} {X Y Z : Nat → Int → Int} (h : agr S X Y) (g : agr S Y Z) : agr S X Z := by
  obtain ⟨h1, h2, h3, h4⟩ := h
  obtain ⟨g1, g2, g3, g4⟩ := g
  refine ⟨h1.trans g1, h2.trans g2, fun k a b => ?_, fun p a b => ?_⟩
  · obtain ⟨x1, x2, x3⟩ := h3 k a b
    obtain ⟨y1, y2, y3⟩ := g3 k a b
    exact ⟨x1.trans y1, x2.trans y2, x3.trans y3⟩
  · obtain ⟨x1, x2, x3⟩ := h4 p a b
    obtain ⟨y1, y2, y3⟩ := g4 p a b
    exact ⟨x1.trans y1, x2.trans y2, x3.trans y3⟩
theorem agr.sy {S : Nat → Int → Int} {X Y : Nat → Int → Int} (h : agr S X Y) : agr S Y X := by
  obtain ⟨h1, h2, h3, h4⟩ := h
  refine ⟨h1.symm, h2.symm, fun k a b => ?_, fun p a b => ?_⟩
  · obtain ⟨x1, x2, x3⟩ := h3 k a b
    exact ⟨x1.symm, x2.symm, x3.symm⟩
  · obtain ⟨x1, x2, x3⟩ := h4 p a b
    exact ⟨x1.symm, x2.symm, x3.symm⟩
/-- a tower in its bounds, with at most B of heat -/
def twOk (S : Nat → Int → Int) (X : Nat → Int → Int) (B : Int) : Prop := tOk X B ∧ qOk S X ∧ ∀ p, 0 ≤ p → p < S 13 5 → X 8 p < X 1 5
theorem twOk.agr {S : Nat → Int → Int} {X Y : Nat → Int → Int} {B : Int} (h : twOk S Y B) (g : agr S X Y) : twOk S X B := by
  obtain ⟨⟨t1, t2, t3, t4⟩, q, r⟩ := h
  obtain ⟨h1, h2, h3, h4⟩ := g
  refine ⟨⟨by rw [h1]; exact t1, by rw [h1]; exact t2, fun k a b => ?_, ?_⟩, fun p a b => ?_, fun p a b => ?_⟩
  · obtain ⟨x1, x2, x3⟩ := h3 k a b
    rw [x1, x2, x3]; exact t3 k a b
  · rw [(h3 0 (by omega) (by omega)).1, (h3 1 (by omega) (by omega)).1, (h3 2 (by omega) (by omega)).1, (h3 3 (by omega) (by omega)).1, (h3 4 (by omega) (by omega)).1]; exact t4
  · obtain ⟨x1, x2, x3⟩ := h4 p a b
    rw [x1, x2, x3]; exact q p a b
  · rw [(h4 p a b).1, h1]; exact r p a b
theorem sbF_agr {S : Nat → Int → Int} {X Y : Nat → Int → Int} {k : Int} (h : ∀ p, 0 ≤ p → p < S 13 5 → X 8 p = Y 8 p) : sbF S X k = sbF S Y k := by
  by_cases q : saltB S X k
  · rw [sbF_1 q]
    obtain ⟨i, a, b, c, e⟩ := q
    rw [sbF_1 ⟨i, a, b, c, by rw [← h i a b]; exact e⟩]
  · rw [sbF_0 q, sbF_0 (fun ⟨i, a, b, c, e⟩ => q ⟨i, a, b, c, by rw [h i a b]; exact e⟩)]
/-- what pots feel hangs on these alone -/
theorem lX_agr {S : Nat → Int → Int} {X Y : Nat → Int → Int} (g : agr S X Y) (h56 : ∀ k, 0 ≤ k → k < Y 1 5 → X 5 k = Y 5 k ∧ X 6 k = Y 6 k) (hn : Y 1 5 ≤ 5) (hr : ∀ p, 0 ≤ p → p < S 13 5 → 0 ≤ Y 8 p ∧ Y 8 p < Y 1 5) : agr S (lX S X) (lX S Y) := by
  obtain ⟨h1, h2, h3, h4⟩ := g
  have hs : ∀ k, sbF S X k = sbF S Y k := fun k => sbF_agr (fun p a b => (h4 p a b).1)
  refine ⟨h1, h2, fun k a b => h3 k a b, fun p a b => ?_⟩
  obtain ⟨x1, x2, x3⟩ := h4 p a b
  obtain ⟨r1, r2⟩ := hr p a b
  have e2 := (h3 (Y 8 p) r1 (by omega)).1
  obtain ⟨e5, e6⟩ := h56 (Y 8 p) r1 r2
  refine ⟨x1, ?_, ?_⟩
  · show nHas S X p (sbF S X (X 8 p)) = nHas S Y p (sbF S Y (Y 8 p))
    unfold nHas
    rw [hs, x1, x2, x3, e2, e5, e6]
  · show nHow S X p (sbF S X (X 8 p)) = nHow S Y p (sbF S Y (Y 8 p))
    unfold nHow
    rw [hs, x1, x2, x3, e2, e5, e6]
theorem outF_congr {n : Int} {s dm h s' dm' h' : Int → Int} (hn : 1 ≤ n ∧ n ≤ 5) (hh : ∀ k, 0 ≤ k → k < 5 → h k = h' k ∧ s k = s' k ∧ dm k = dm' k) : outF n s dm h = outF n s' dm' h' := by
  have e : ∀ m : Nat, (m : Int) ≤ 5 → sumF (awF dm h) m = sumF (awF dm' h') m := by
    intro m
    induction m with
    | zero => intro _; rfl
    | succ m ih =>
      intro hm
      obtain ⟨x1, x2, x3⟩ := hh (m : Int) (by omega) (by omega)
      show sumF (awF dm h) m + awF dm h m = sumF (awF dm' h') m + awF dm' h' m
      rw [ih (by omega)]
      unfold awF
      rw [x1, x3]
  obtain ⟨x1, x2, x3⟩ := hh (n - 1) (by omega) (by omega)
  unfold outF
  rw [e n.toNat (by omega)]
  unfold upF
  rw [x1, x2]
theorem nhF_congr3 {n w : Int} {s dm h s' dm' h' : Int → Int} (hn : n ≤ 5) (hh : ∀ k, 0 ≤ k → k < 5 → h k = h' k ∧ s k = s' k ∧ dm k = dm' k) : ∀ k, 0 ≤ k → k < 5 → nhF n s dm w h k = nhF n s' dm' w h' k := by
  intro k a b
  obtain ⟨x1, x2, x3⟩ := hh k a b
  unfold nhF cmF upF awF
  by_cases h1 : 0 ≤ k ∧ k < n
  · rw [if_pos h1, if_pos h1, x1, x2, x3]
    by_cases h2 : k = 0
    · rw [if_pos h2, if_pos h2]
    · obtain ⟨y1, y2, y3⟩ := hh (k - 1) (by omega) (by omega)
      rw [if_neg h2, if_neg h2, y1, y2]
  · rw [if_neg h1, if_neg h1, x1]
theorem bX_agr {S : Nat → Int → Int} {X Y : Nat → Int → Int} {w : Int} (g : agr S X Y) (hn : 2 ≤ Y 1 5 ∧ Y 1 5 ≤ 5) : agr S (bX w X) (bX w Y) ∧ ∀ k, 0 ≤ k → k < Y 1 5 → bX w X 5 k = bX w Y 5 k ∧ bX w X 6 k = bX w Y 6 k := by
  obtain ⟨h1, h2, h3, h4⟩ := g
  refine ⟨⟨h1, ?_, fun k a b => ⟨?_, (h3 k a b).2⟩, fun p a b => h4 p a b⟩, fun k a b => ⟨(h3 k a (by omega)).1, ?_⟩⟩
  · show X 1 6 + outF (X 1 5) (X 3) (X 4) (X 2) = Y 1 6 + outF (Y 1 5) (Y 3) (Y 4) (Y 2)
    rw [h1, h2, outF_congr ⟨by omega, hn.2⟩ h3]
  · show nhF (X 1 5) (X 3) (X 4) w (X 2) k = nhF (Y 1 5) (Y 3) (Y 4) w (Y 2) k
    rw [h1, nhF_congr3 hn.2 h3 k a b]
  · show cmF (X 3) (X 2) w k = cmF (Y 3) (Y 2) w k
    unfold cmF upF
    by_cases h : k = 0
    · rw [if_pos h, if_pos h]
    · obtain ⟨x1, x2, -⟩ := h3 (k - 1) (by omega) (by omega)
      rw [if_neg h, if_neg h, x1, x2]
theorem fX_agr {S : Nat → Int → Int} {X Y : Nat → Int → Int} {w B : Int} (g : agr S X Y) (hY : twOk S Y B) : agr S (fX S w X) (fX S w Y) := by
  obtain ⟨⟨t1, t2, t3, t4⟩, q, r⟩ := hY
  obtain ⟨b1, b2⟩ := bX_agr (w := w) g ⟨t1, t2⟩
  exact lX_agr b1 b2 t2 (fun p a b => ⟨(q p a b).1.1, r p a b⟩)
theorem burnP_agr {S : Nat → Int → Int} {t : Nat} {w : Int} {Tw Tw' : Nat → Nat → Int → Int} (h : burnP t w Tw Tw') : agr S (Tw' t) (bX w (Tw t)) ∧ (∀ k, 0 ≤ k → k < bX w (Tw t) 1 5 → Tw' t 5 k = bX w (Tw t) 5 k ∧ Tw' t 6 k = bX w (Tw t) 6 k) := by
  obtain ⟨g1, g2, g3, g4, g5, g6, g7, g8, g9⟩ := h
  refine ⟨⟨g5, g6, fun k a b => ⟨g2 k a b, by rw [g7]; rfl, by rw [g8]; rfl⟩, fun p a b => ⟨by rw [g9 8 (by decide)]; rfl, by rw [g9 9 (by decide)]; rfl, by rw [g9 10 (by decide)]; rfl⟩⟩, fun k a b => ⟨g3 k a b, g4 k a b⟩⟩
/-- a tower stays in its bounds -/
theorem lX_q {S : Nat → Int → Int} {X : Nat → Int → Int} (hp : pOk S) (hq : qOk S X) : qOk S (lX S X) := by
  intro p a b
  obtain ⟨y1, y2, y3, y4⟩ := hq p a b
  obtain ⟨-, -, hp⟩ := hp
  obtain ⟨-, -, -, z1, -⟩ := hp p a b
  have := nH_ok (sb := sbF S X (X 8 p)) z1.2 y2 y3 y4
  exact ⟨y1, this⟩
theorem fX_ok {S : Nat → Int → Int} {X : Nat → Int → Int} {w B : Int} (hp : pOk S) (h : twOk S X B) (hw : 0 ≤ w ∧ w ≤ 9) : twOk S (fX S w X) (B + 180) := by
  obtain ⟨⟨t1, t2, t3, t4⟩, q, r⟩ := h
  obtain ⟨s1, s2⟩ := nhF_sum ⟨t1, t2⟩ hw t3 t4
  refine ⟨⟨t1, t2, fun k a b => ⟨(t3 k a b).1, (t3 k a b).2.1, (t3 k a b).2.2.1, s1 k a b⟩, s2⟩, lX_q hp (fun p a b => q p a b), fun p a b => r p a b⟩
theorem itX_ok {S : Nat → Int → Int} {X : Nat → Int → Int} {w B : Int} (hp : pOk S) (h : twOk S X B) (hw : 0 ≤ w ∧ w ≤ 9) : ∀ n : Nat, twOk S (itX S w X n) (B + 180 * n)
  | 0 => by rw [show B + 180 * ((0 : Nat) : Int) = B by omega]; exact h
  | n + 1 => by
    have := fX_ok hp (itX_ok hp h hw n) hw
    rw [show B + 180 * ((n + 1 : Nat) : Int) = B + 180 * (n : Int) + 180 by omega]
    exact this
section TW
variable {S : Nat → Int → Int} {Tw : Nat → Nat → Int → Int} {M : Nat → Int → Int} {P : Nat → Nat} {d : Nat} {Q : Option Value → GH → Prop}
theorem s_X9_copyFrom {t u : Nat} (ht : t < 19) (hu : u < 19) (htu : t ≠ u) (hq : ∀ Tw', frT t Tw Tw' → agr S (Tw' t) (Tw u) → Q none (hO S Tw' M P)) : CallD (d + 3) 74 [.ref (tR t 0), .ref (tR u 0)] (hO S Tw M P) Q := by
  refine g_enter (loc := [some _, some _]) e_X9_copyFrom i_X9_copyFrom (Nat.le_of_ble_eq_true rfl) rfl ?_
  refine g_l dX9_copyFrom_0 rfl rfl ?_
  refine g_getf dX9_copyFrom_1 (hT0 (by omega)) f_9_10 rfl rfl ?_
  refine g_l dX9_copyFrom_4 rfl rfl ?_
  refine g_getf dX9_copyFrom_5 (hT0 (by omega)) f_9_10 rfl rfl ?_
  refine g_callV dX9_copyFrom_8 m_9_30 (n := 1) rfl (hT1 (by omega)) rfl (Nat.le_of_ble_eq_true rfl) (Nat.le_of_ble_eq_true rfl) rfl rfl ?_
  refine s_X2_copyFrom ht hu (fun Tw' f1 f2 f3 f4 f5 => ?_)
  simp only [Option.toList_some, Option.toList_none, List.cons_append, List.nil_append]
  refine g_l dX9_copyFrom_11 rfl rfl ?_
  refine g_getf dX9_copyFrom_12 (hT0 (by omega)) f_9_21 rfl rfl ?_
  refine g_l dX9_copyFrom_15 rfl rfl ?_
  refine g_getf dX9_copyFrom_16 (hT0 (by omega)) f_9_21 rfl rfl ?_
  refine g_callV dX9_copyFrom_19 m_9_34 (n := 1) rfl (hT7 (by omega)) rfl (Nat.le_of_ble_eq_true rfl) (Nat.le_of_ble_eq_true rfl) rfl rfl ?_
  refine s_X4_copyFrom ht hu (fun Tw2 g1 g2 g3 g4 g5 => ?_)
  simp only [Option.toList_some, Option.toList_none, List.cons_append, List.nil_append]
  refine g_retV dX9_copyFrom_22 rfl rfl ?_
  have eu : Tw' u = Tw u := f1 u (Ne.symm htu)
  refine hq _ (f1.tr g1) ⟨?_, ?_, fun k a b => ⟨?_, ?_, ?_⟩, fun p a b => ⟨?_, ?_, ?_⟩⟩
  · rw [g5 1 (by decide) (by decide) (by decide), f3]
  · rw [g5 1 (by decide) (by decide) (by decide), f4]
  · rw [g5 2 (by decide) (by decide) (by decide), f2 2 (by decide)]
  · rw [g5 3 (by decide) (by decide) (by decide), f2 3 (by decide)]
  · rw [g5 4 (by decide) (by decide) (by decide), f2 4 (by decide)]
  · rw [g2, eu]
  · rw [g3, eu]
  · rw [g4, eu]
theorem s_X9_goBackTo {t u : Nat} (ht : t < 19) (hu : u < 19) (htu : t ≠ u) (hq : ∀ Tw', frT t Tw Tw' → Tw' t 2 = Tw u 2 → Tw' t 1 6 = Tw u 1 6 → Tw' t 9 = Tw u 9 → Tw' t 10 = Tw u 10 → (∀ j, j ≠ 6 → Tw' t 1 j = Tw t 1 j) → (∀ o, o ≠ 1 → o ≠ 2 → o ≠ 9 → o ≠ 10 → Tw' t o = Tw t o) → Q none (hO S Tw' M P)) : CallD (d + 2) 75 [.ref (tR t 0), .ref (tR u 0)] (hO S Tw M P) Q := by
  refine g_enter (loc := [some _, some _]) e_X9_goBackTo i_X9_goBackTo (Nat.le_of_ble_eq_true rfl) rfl ?_
  refine g_l dX9_goBackTo_0 rfl rfl ?_
  refine g_getf dX9_goBackTo_1 (hT0 (by omega)) f_9_10 rfl rfl ?_
  refine g_l dX9_goBackTo_4 rfl rfl ?_
  refine g_getf dX9_goBackTo_5 (hT0 (by omega)) f_9_10 rfl rfl ?_
  refine g_callV dX9_goBackTo_8 m_9_37 (n := 1) rfl (hT1 (by omega)) rfl (Nat.le_of_ble_eq_true rfl) (Nat.le_of_ble_eq_true rfl) rfl rfl ?_
  refine s_X2_copyHeat ht hu (fun Tw' f1 f2 f3 f4 f5 => ?_)
  simp only [Option.toList_some, Option.toList_none, List.cons_append, List.nil_append]
  refine g_l dX9_goBackTo_11 rfl rfl ?_
  refine g_getf dX9_goBackTo_12 (hT0 (by omega)) f_9_21 rfl rfl ?_
  refine g_l dX9_goBackTo_15 rfl rfl ?_
  refine g_getf dX9_goBackTo_16 (hT0 (by omega)) f_9_21 rfl rfl ?_
  refine g_callV dX9_goBackTo_19 m_9_40 (n := 1) rfl (hT7 (by omega)) rfl (Nat.le_of_ble_eq_true rfl) (Nat.le_of_ble_eq_true rfl) rfl rfl ?_
  refine s_X4_copyHow ht hu (fun Tw2 g1 g2 g3 g4 => ?_)
  simp only [Option.toList_some, Option.toList_none, List.cons_append, List.nil_append]
  refine g_retV dX9_goBackTo_22 rfl rfl ?_
  have eu : Tw' u = Tw u := f1 u (Ne.symm htu)
  refine hq _ (f1.tr g1) ?_ ?_ ?_ ?_ (fun j hj => ?_) (fun o h1 h2 h3 h4 => ?_)
  · rw [g4 2 (by decide) (by decide), f2]
  · rw [g4 1 (by decide) (by decide), f3]
  · rw [g2, eu]
  · rw [g3, eu]
  · rw [g4 1 (by decide) (by decide), f4 j hj]
  · rw [g4 o h3 h4, f5 o h1 h2]
theorem s_X9_fire {t : Nat} {w B : Int} (ht : t < 19) (hp : pOk S) (hk : twOk S (Tw t) B) (hB : B ≤ 1000000) (hw : 0 ≤ w ∧ w ≤ 9) (hq : ∀ Tw', frT t Tw Tw' → agr S (Tw' t) (fX S w (Tw t)) → Q (some (.int (iI (setF (fun i => Tw t 10 i = 0 ∧ ¬ fX S w (Tw t) 10 i = 0) (S 13 5).toNat)))) (hO S Tw' M P)) : CallD (d + 4) 76 [.ref (tR t 0), .int (iI w)] (hO S Tw M P) Q := by
  refine g_enter (loc := [some _, some _]) e_X9_fire i_X9_fire (Nat.le_of_ble_eq_true rfl) rfl ?_
  refine g_l dX9_fire_0 rfl rfl ?_
  refine g_getf dX9_fire_1 (hT0 (by omega)) f_9_10 rfl rfl ?_
  refine g_l dX9_fire_4 rfl rfl ?_
  refine g_callV dX9_fire_5 m_9_43 (n := 1) rfl (hT1 (by omega)) rfl (Nat.le_of_ble_eq_true rfl) (Nat.le_of_ble_eq_true rfl) rfl rfl ?_
  refine s_X2_burn ht (hk.1.k (by omega)) (fun Tw' hb => ?_)
  simp only [Option.toList_some, Option.toList_none, List.cons_append, List.nil_append]
  refine g_l dX9_fire_8 rfl rfl ?_
  refine g_getf dX9_fire_9 (hT0 (by omega)) f_9_21 rfl rfl ?_
  refine g_l dX9_fire_12 rfl rfl ?_
  refine g_getf dX9_fire_13 (hT0 (by omega)) f_9_10 rfl rfl ?_
  refine g_callV dX9_fire_16 m_9_47 (n := 1) rfl (hT7 (by omega)) rfl (Nat.le_of_ble_eq_true rfl) (Nat.le_of_ble_eq_true rfl) rfl rfl ?_
  obtain ⟨b1, b2⟩ := burnP_agr (S := S) hb
  have hk1 := hk.1.burn hb hw
  have g9 := hb.2.2.2.2.2.2.2.2
  have hkk := hk1.k (by omega)
  obtain ⟨⟨t1, t2, t3, t4⟩, q, r⟩ := hk
  have q' : qOk S (Tw' t) := fun p a b => by
    rw [g9 8 (by decide), g9 9 (by decide), g9 10 (by decide)]; exact q p a b
  refine s_X4_feelAll ht hp q' (fun p a b => ?_) (fun Tw2 hf => ?_)
  · have e8 : Tw' t 8 p = Tw t 8 p := by rw [g9 8 (by decide)]
    have r1 := r p a b
    obtain ⟨q1, -⟩ := q p a b
    rw [e8]
    obtain ⟨c5, c6⟩ := b2 (Tw t 8 p) q1.1 r1
    refine ⟨(hkk.2.2 _ q1.1 q1.2).1, ?_, ?_⟩
    · rw [c5]
      show 0 ≤ Tw t 2 (Tw t 8 p) ∧ Tw t 2 (Tw t 8 p) ≤ 10000000
      have := (tOk.k (X := Tw t) (B := B) ⟨t1, t2, t3, t4⟩ (by omega)).2.2 _ q1.1 q1.2
      exact this.1
    · rw [c6]
      show R32 (cmF (Tw t 3) (Tw t 2) w (Tw t 8 p))
      unfold cmF upF
      split
      · omega
      · obtain ⟨z1, z2, z3⟩ := (tOk.k (X := Tw t) (B := B) ⟨t1, t2, t3, t4⟩ (by omega)).2.2 (Tw t 8 p - 1) (by omega) (by omega)
        have := prodB z1 z2
        omega
  · obtain ⟨f1, f2, f3⟩ := hf
    have hl : agr S (Tw2 t) (lX S (Tw' t)) := by
      refine ⟨?_, ?_, fun k a b => ⟨?_, ?_, ?_⟩, fun p a b => ⟨?_, (f2 p a b).1, (f2 p a b).2⟩⟩
      · rw [f3 1 (by decide) (by decide)]; rfl
      · rw [f3 1 (by decide) (by decide)]; rfl
      · rw [f3 2 (by decide) (by decide)]; rfl
      · rw [f3 3 (by decide) (by decide)]; rfl
      · rw [f3 4 (by decide) (by decide)]; rfl
      · rw [f3 8 (by decide) (by decide)]; rfl
    have hl2 : agr S (lX S (Tw' t)) (lX S (bX w (Tw t))) := lX_agr b1 b2 t2 (fun p a b => ⟨(q p a b).1.1, r p a b⟩)
    have hh : agr S (Tw2 t) (fX S w (Tw t)) := hl.tr hl2
    simp only [Option.toList_some, Option.toList_none, List.cons_append, List.nil_append]
    refine g_retI dX9_fire_19 rfl rfl ?_
    have e : setF (fun i => Tw' t 10 i = 0 ∧ ¬ nHow S (Tw' t) i (sbF S (Tw' t) (Tw' t 8 i)) = 0) (S 13 5).toNat = setF (fun i => Tw t 10 i = 0 ∧ ¬ fX S w (Tw t) 10 i = 0) (S 13 5).toNat := by
      refine setF_congr (fun i a b => ?_)
      rw [g9 10 (by decide)]
      have := (hl2.2.2.2 i a (by omega)).2.2
      have e2 : nHow S (Tw' t) i (sbF S (Tw' t) (Tw' t 8 i)) = fX S w (Tw t) 10 i := this
      rw [e2]
    rw [e]
    exact hq _ (hb.1.tr f1) hh
theorem s_X9_fireAll {t : Nat} {n w B : Int} (ht : t < 19) (hp : pOk S) (hk : twOk S (Tw t) B) (hB : B ≤ 900000) (hn : 0 ≤ n ∧ n ≤ 9) (hw : 0 ≤ w ∧ w ≤ 9) (hq : ∀ Tw', frT t Tw Tw' → agr S (Tw' t) (itX S w (Tw t) n.toNat) → Q none (hO S Tw' M P)) : CallD (d + 5) 77 [.ref (tR t 0), .int (iI n), .int (iI w)] (hO S Tw M P) Q := by
  refine g_enter (loc := [some _, some _, some _, _]) e_X9_fireAll i_X9_fireAll (Nat.le_of_ble_eq_true rfl) rfl ?_
  refine g_iconst dX9_fireAll_0 rfl ?_
  refine g_l (loc' := [some _, some _, some _, some _]) dX9_fireAll_1 rfl rfl ?_
  have loop : ∀ (m : Nat) (i : Int) (Tw' : Nat → Nat → Int → Int), 0 ≤ i → i ≤ n → (n - i).toNat = m → frT t Tw Tw' → agr S (Tw' t) (itX S w (Tw t) i.toNat) →
      G none (d + 4) 9 false none 0 0 (hO S Tw M P).length cX9_fireAll Q 0 2 [some (.ref (tR t 0)), some (.int (iI n)), some (.int (iI w)), some (.int (iI i))] [] (hO S Tw' M P) := by
    intro m
    induction m with
    | zero =>
      intro i Tw' h0 h5 hm f1 f2
      have hi : i = n := by omega
      subst hi
      refine g_l dX9_fireAll_2 rfl rfl ?_
      refine g_l dX9_fireAll_3 rfl rfl ?_
      refine g_icmp_ge (t := 19) dX9_fireAll_4 (by decide) rfl (by omega) (by omega) (fun c_4 => ?_) (fun c_4 => False.elim (by omega))
      refine g_retV dX9_fireAll_19 rfl rfl ?_
      exact hq _ f1 f2
    | succ m ih =>
      intro i Tw' h0 h5 hm f1 f2
      have ho := itX_ok hp hk hw i.toNat
      refine g_l dX9_fireAll_2 rfl rfl ?_
      refine g_l dX9_fireAll_3 rfl rfl ?_
      refine g_icmp_ge (t := 19) dX9_fireAll_4 (by decide) rfl (by omega) (by omega) (fun c_4 => False.elim (by omega)) (fun c_4 => ?_)
      refine g_l dX9_fireAll_7 rfl rfl ?_
      refine g_l dX9_fireAll_8 rfl rfl ?_
      refine g_callV dX9_fireAll_9 m_9_51 (n := 1) rfl (hT0 (by omega)) rfl (Nat.le_of_ble_eq_true rfl) (Nat.le_of_ble_eq_true rfl) rfl rfl ?_
      refine s_X9_fire ht hp (ho.agr f2) (by omega) hw (fun Tw2 g1 g2 => ?_)
      simp only [Option.toList_some, Option.toList_none, List.cons_append, List.nil_append]
      refine g_s dX9_fireAll_12 rfl rfl rfl ?_
      refine g_iinc (loc' := [some _, some _, some _, some _]) dX9_fireAll_13 rfl rfl rfl ?_
      refine g_goto (t := 2) dX9_fireAll_16 (by decide) ?_
      refine ih (i + 1) Tw2 (by omega) (by omega) (by omega) (f1.tr g1) ?_
      rw [show (i + 1).toNat = i.toNat + 1 by omega]
      exact g2.tr (fX_agr f2 ho)
  exact loop _ 0 Tw (by omega) hn.1 rfl frT.rf agr.rf
end TW
