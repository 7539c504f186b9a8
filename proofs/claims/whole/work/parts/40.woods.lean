/-! woods: the search as a function, without what the class leaves out -/
/-- the same told -/
def tEq (S S0 : Nat → Int → Int) : Prop := S 13 = S0 13 ∧ S 14 = S0 14 ∧ S 15 = S0 15 ∧ S 16 = S0 16 ∧ S 17 = S0 17 ∧ S 18 = S0 18
theorem tEq.sy {S S0 : Nat → Int → Int} (h : tEq S S0) : tEq S0 S := ⟨h.1.symm, h.2.1.symm, h.2.2.1.symm, h.2.2.2.1.symm, h.2.2.2.2.1.symm, h.2.2.2.2.2.symm⟩
theorem tEq.p {S S0 : Nat → Int → Int} (h : tEq S S0) (g : pOk S0) : pOk S := by
  obtain ⟨e1, e2, e3, e4, e5, e6⟩ := h
  unfold pOk at *
  rw [e1, e2, e3, e4, e5, e6]
  exact g
theorem tEq.tw {S S0 : Nat → Int → Int} {X : Nat → Int → Int} {B : Int} (h : tEq S S0) (g : twOk S0 X B) : twOk S X B := by
  obtain ⟨e1, e2, e3, e4, e5, e6⟩ := h
  unfold twOk qOk at *
  rw [e1, e5]
  exact g
theorem tEq.a {S S0 : Nat → Int → Int} {X Y : Nat → Int → Int} (h : tEq S S0) (g : agr S0 X Y) : agr S X Y := by
  unfold agr at *
  rw [h.1]
  exact g
theorem tEq.sb {S S0 : Nat → Int → Int} {X : Nat → Int → Int} {k : Int} (h : tEq S S0) : sbF S X k = sbF S0 X k := by
  obtain ⟨e1, e2, e3, e4, e5, e6⟩ := h
  by_cases q : saltB S X k
  · rw [sbF_1 q]
    unfold saltB at q
    rw [e1, e2] at q
    rw [sbF_1 q]
  · rw [sbF_0 q]
    unfold saltB at q
    rw [e1, e2] at q
    rw [sbF_0 q]
theorem tEq.f {S S0 : Nat → Int → Int} (h : tEq S S0) : fX S = fX S0 := by
  funext w X o k
  have hs : ∀ X k, sbF S X k = sbF S0 X k := fun X k => h.sb
  obtain ⟨e1, e2, e3, e4, e5, e6⟩ := h
  unfold fX lX nHas nHow mjF
  rw [hs, e2, e3, e4, e5, e6]
/-- all told pots are READY, or may be so with z quarters more -/
def canB (S : Nat → Int → Int) (x : Int) (X : Nat → Int → Int) (z : Int) : Prop := ∀ i, 0 ≤ i → i < S 13 5 → hasB x i → hopB S X z i
theorem tEq.c {S S0 : Nat → Int → Int} {X : Nat → Int → Int} {x z : Int} (h : tEq S S0) : canB S x X z ↔ canB S0 x X z := by
  unfold canB hopB
  rw [h.1, h.2.2.2.2.1]
theorem canB_agr {S : Nat → Int → Int} {X Y : Nat → Int → Int} {x z : Int} (g : agr S X Y) (h : canB S x X z) : canB S x Y z := by
  intro i a b c
  obtain ⟨-, y1, y2⟩ := g.2.2.2 i a b
  have := h i a b c
  unfold hopB at *
  rw [← y1, ← y2]
  exact this
def wdL (F : Int → Int × (Int → Int) → Int × (Int → Int)) : Nat → Int → Int × (Int → Int) → Int × (Int → Int)
  | 0, _, Lb => Lb
  | m + 1, w, Lb => wdL F m (w + 1) (F w Lb)
theorem wdL_id {F : Int → Int × (Int → Int) → Int × (Int → Int)} {Lb : Int × (Int → Int)} : ∀ (m : Nat) (w : Int), (∀ v, w ≤ v → v < w + m → F v Lb = Lb) → wdL F m w Lb = Lb
  | 0, _, _ => rfl
  | m + 1, w, h => by
    rw [wdL, h w (by omega) (by omega)]
    exact wdL_id m (w + 1) (fun v a b => h v (by omega) (by omega))
/-- the least wood and where, of r quarters more, X being the tower, used the wood and g where up to f; (L, b) is the best so far -/
noncomputable def wdS (S : Nat → Int → Int) (x : Int) : Nat → (Nat → Int → Int) → Int → (Int → Int) → Int → Int × (Int → Int) → Int × (Int → Int)
  | 0, X, used, g, _, Lb => @ite _ ((∀ i, 0 ≤ i → i < S 13 5 → hasB x i → X 10 i = 1) ∧ used < Lb.1) (Classical.propDecidable _) (used, g) Lb
  | r + 1, X, used, g, f, Lb => wdL (fun w Lb => wdS S x r (fX S w X) (used + w) (fun i => if i = f then w else g i) (f + 1) Lb) 10 0 Lb
theorem wdS_A {S : Nat → Int → Int} {x : Int} : ∀ (r : Nat) (X : Nat → Int → Int) (used : Int) (g : Int → Int) (f : Int) (Lb : Int × (Int → Int)), Lb.1 ≤ used → wdS S x r X used g f Lb = Lb
  | 0, X, used, g, f, Lb, h => by
    rw [wdS, if_neg (fun z => by omega)]
  | r + 1, X, used, g, f, Lb, h => by
    rw [wdS]
    exact wdL_id 10 0 (fun v a b => wdS_A r _ _ _ _ _ (by omega))
theorem not_hop {S : Nat → Int → Int} {X : Nat → Int → Int} {w i z : Int} (hz : 0 ≤ z) (h : ¬ hopB S X (z + 1) i) : ¬ hopB S (fX S w X) z i := by
  have e1 : fX S w X 10 i = nHow S (bX w X) i (sbF S (bX w X) (X 8 i)) := rfl
  have e2 : fX S w X 9 i = nHas S (bX w X) i (sbF S (bX w X) (X 8 i)) := rfl
  have e3 : bX w X 10 i = X 10 i := rfl
  have e4 : bX w X 9 i = X 9 i := rfl
  unfold hopB at *
  rw [e1, e2]
  unfold nHow nHas
  rw [e3, e4]
  by_cases c : X 10 i = 0
  · rw [if_pos c, if_pos c]
    unfold fHow fHas
    have : ¬ (S 17 i - X 9 i ≤ z + 1) := fun q => h (Or.inr ⟨c, q⟩)
    repeat' split
    all_goals omega
  · rw [if_neg c, if_neg c]
    have : ¬ X 10 i = 1 := fun q => h (Or.inl q)
    omega
theorem wdS_B {S : Nat → Int → Int} {x : Int} : ∀ (r : Nat) (X : Nat → Int → Int) (used : Int) (g : Int → Int) (f : Int) (Lb : Int × (Int → Int)), ¬ canB S x X r → wdS S x r X used g f Lb = Lb
  | 0, X, used, g, f, Lb, h => by
    rw [wdS, if_neg]
    intro z
    exact h (fun i a b c => Or.inl (z.1 i a b c))
  | r + 1, X, used, g, f, Lb, h => by
    rw [wdS]
    refine wdL_id 10 0 (fun v a b => wdS_B r _ _ _ _ _ (fun q => h (fun i y1 y2 y3 => ?_)))
    refine Classical.byContradiction (fun n => ?_)
    exact not_hop (w := v) (z := (r : Int)) (by omega) (by simpa using n) (q i y1 y2 y3)
/-- outside the woods' numbers nothing changes -/
def frW (S S' : Nat → Int → Int) : Prop := ∀ c, c ≠ 206 → c ≠ 207 → c ≠ 209 → S' c = S c
theorem frW.rf {S : Nat → Int → Int} : frW S S := fun _ _ _ _ => rfl
theorem frW.tr {S S' S2 : Nat → Int → Int} (h : frW S S') (g : frW S' S2) : frW S S2 := fun c a b e => (g c a b e).trans (h c a b e)
theorem frW.w {S S' : Nat → Int → Int} {c : Nat} {j v : Int} (h : frW S S') (hc : c = 206 ∨ c = 207 ∨ c = 209) : frW S (wS S' c j v) := fun x a b e => (wS_o (by omega)).trans (h x a b e)
theorem frW.r {S S' : Nat → Int → Int} {c : Nat} {g : Int → Int} (h : frW S S') (hc : c = 206 ∨ c = 207 ∨ c = 209) : frW S (rS S' c g) := fun x a b e => (rS_o (by omega)).trans (h x a b e)
theorem frW.t {S S' : Nat → Int → Int} (h : frW S S') : tEq S' S := ⟨h 13 (by decide) (by decide) (by decide), h 14 (by decide) (by decide) (by decide), h 15 (by decide) (by decide) (by decide), h 16 (by decide) (by decide) (by decide), h 17 (by decide) (by decide) (by decide), h 18 (by decide) (by decide) (by decide)⟩
section WD
variable {M : Nat → Int → Int} {P : Nat → Nat}
/-- what goOn does with r quarters left -/
def GoP (M : Nat → Int → Int) (P : Nat → Nat) (S0 : Nat → Int → Int) (x : Int) (r D : Nat) : Prop := ∀ (S : Nat → Int → Int) (Tw : Nat → Nat → Int → Int) (Q : Option Value → GH → Prop) (n f used B : Int) (X : Nat → Int → Int) (b g : Int → Int),
    tEq S S0 → twOk S0 X B → B + 180 * r ≤ 900000 → 1 ≤ f → f + r = n → n ≤ 3 → 0 ≤ used → used < S 206 4 → S 206 4 ≤ 28 → (∀ i, 0 ≤ i → i < n → S 207 i = b i) → (∀ i, 0 ≤ i → i < f → S 209 i = g i) → agr S0 (Tw (15 + f.toNat)) X → canB S0 x X r →
    (∀ S' Tw', frW S S' → (∀ v, v < 16 + f.toNat → Tw' v = Tw v) → S' 206 4 = (wdS S0 x r X used g f (S 206 4, b)).1 → 0 ≤ S' 206 4 → S' 206 4 ≤ 28 → (∀ i, 0 ≤ i → i < n → S' 207 i = (wdS S0 x r X used g f (S 206 4, b)).2 i) → (∀ i, 0 ≤ i → i < f → S' 209 i = g i) → Q none (hO S' Tw' M P)) →
    CallD D 81 [.ref 206, .int (iI x), .int (iI n), .int (iI f), .int (iI used)] (hO S Tw M P) Q
/-- what fireOn does with r quarters more behind it -/
def FireP (M : Nat → Int → Int) (P : Nat → Nat) (S0 : Nat → Int → Int) (x : Int) (r D : Nat) : Prop := ∀ (S : Nat → Int → Int) (Tw : Nat → Nat → Int → Int) (Q : Option Value → GH → Prop) (n f used B : Int) (X : Nat → Int → Int) (b g : Int → Int) (u : Nat),
    tEq S S0 → (u = if f = 0 then 0 else 15 + f.toNat) → twOk S0 X B → B + 180 * (r + 1) ≤ 900000 → 0 ≤ f → f + r + 1 = n → n ≤ 3 → 0 ≤ used → used ≤ 100 → 0 ≤ S 206 4 → S 206 4 ≤ 28 → (∀ i, 0 ≤ i → i < n → S 207 i = b i) → (∀ i, 0 ≤ i → i < f → S 209 i = g i) → agr S0 (Tw u) X →
    (∀ S' Tw', frW S S' → (∀ v, v < 16 + f.toNat → Tw' v = Tw v) → S' 206 4 = (wdS S0 x (r + 1) X used g f (S 206 4, b)).1 → 0 ≤ S' 206 4 → S' 206 4 ≤ 28 → (∀ i, 0 ≤ i → i < n → S' 207 i = (wdS S0 x (r + 1) X used g f (S 206 4, b)).2 i) → (∀ i, 0 ≤ i → i < f → S' 209 i = g i) → Q none (hO S' Tw' M P)) →
    CallD D 80 [.ref 206, .int (iI x), .int (iI n), .int (iI f), .int (iI used)] (hO S Tw M P) Q
theorem go_0 {S0 : Nat → Int → Int} {x : Int} {d : Nat} : GoP M P S0 x 0 (d + 1) := by
  intro S Tw Q n f used B X b g ht hX hB hf hn hn3 hu0 hul hl hb hg hag hc hq
  have hr : ∀ i, 0 ≤ i → i < S0 13 5 → hasB x i → X 10 i = 1 := by
    intro i y1 y2 y3
    have z1 := (hX.2.1 i y1 y2).2.2.2
    rcases hc i y1 y2 y3 with z2 | z2
    · exact z2
    · have := z1 z2.1
      have := z2.2
      simp at this
      omega
  rw [wdS, if_pos ⟨hr, hul⟩] at hq
  refine g_enter (loc := [some _, some _, some _, some _, some _]) e_X10_goOn i_X10_goOn (Nat.le_of_ble_eq_true rfl) rfl ?_
  refine g_l dX10_goOn_0 rfl rfl ?_
  refine g_l dX10_goOn_1 rfl rfl ?_
  refine g_icmp_ge (t := 17) dX10_goOn_2 (by decide) rfl (by omega) (by omega) (fun c_2 => ?_) (fun c_2 => False.elim (by omega))
  refine g_l dX10_goOn_17 rfl rfl ?_
  refine g_l dX10_goOn_18 rfl rfl ?_
  refine g_putf dX10_goOn_20 h206 f_10_41 (Nat.le_of_ble_eq_true rfl) rfl rfl p206_4 rfl ?_
  refine g_l dX10_goOn_23 rfl rfl ?_
  refine g_getf dX10_goOn_24 h206 f_10_21 rfl rfl ?_
  refine g_iconst dX10_goOn_27 rfl ?_
  refine g_l dX10_goOn_28 rfl rfl ?_
  refine g_getf dX10_goOn_29 h206 f_10_9 rfl rfl ?_
  refine g_iconst dX10_goOn_32 rfl ?_
  refine g_iconst dX10_goOn_33 rfl ?_
  refine g_copy dX10_goOn_34 ac_10_64 h209 h207 rfl (by decide) q207 (Nat.le_of_ble_eq_true rfl) rfl ?_
  refine g_retV dX10_goOn_37 rfl rfl ?_
  refine hq _ Tw ((frW.rf.w (Or.inl rfl)).r (Or.inr (Or.inl rfl))) (fun v _ => rfl) ?_ ?_ ?_ (fun i y1 y2 => ?_) (fun i y1 y2 => ?_)
  · rw [rS_o (by decide), wS_e]
  · rw [rS_o (by decide), wS_e]; exact hu0
  · rw [rS_o (by decide), wS_e]; omega
  · rw [rS_s, wS_o (by decide)]
    exact hg i y1 (by omega)
  · rw [rS_o (by decide), wS_o (by decide)]
    exact hg i y1 y2
theorem go_s {S0 : Nat → Int → Int} {x : Int} {r d : Nat} (hf : FireP M P S0 x r d) : GoP M P S0 x (r + 1) (d + 1) := by
  intro S Tw Q n f used B X b g ht hX hB hf1 hn hn3 hu0 hul hl hb hg hag hc hq
  refine g_enter (loc := [some _, some _, some _, some _, some _]) e_X10_goOn i_X10_goOn (Nat.le_of_ble_eq_true rfl) rfl ?_
  refine g_l dX10_goOn_0 rfl rfl ?_
  refine g_l dX10_goOn_1 rfl rfl ?_
  refine g_icmp_ge (t := 17) dX10_goOn_2 (by decide) rfl (by omega) (by omega) (fun c_2 => False.elim (by omega)) (fun c_2 => ?_)
  refine g_l dX10_goOn_5 rfl rfl ?_
  refine g_l dX10_goOn_6 rfl rfl ?_
  refine g_l dX10_goOn_7 rfl rfl ?_
  refine g_l dX10_goOn_8 rfl rfl ?_
  refine g_l dX10_goOn_9 rfl rfl ?_
  refine g_callV dX10_goOn_11 m_10_49 (n := 4) rfl h206 rfl (Nat.le_of_ble_eq_true rfl) (Nat.le_of_ble_eq_true rfl) rfl rfl ?_
  refine hf S Tw _ n f used B X b g (15 + f.toNat) ht (by rw [if_neg (by omega)]) hX (by omega) (by omega) (by omega) hn3 hu0 (by omega) (by omega) hl hb hg hag (fun S' Tw' a1 a2 a3 a4 a5 a6 a7 => ?_)
  simp only [Option.toList_some, Option.toList_none, List.cons_append, List.nil_append]
  refine g_goto (t := 37) dX10_goOn_14 (by decide) ?_
  refine g_retV dX10_goOn_37 rfl rfl ?_
  exact hq S' Tw' a1 a2 a3 a4 a5 a6 a7
theorem fire_s {S0 : Nat → Int → Int} {x : Int} {r d : Nat} (hp : pOk S0) (hgo : GoP M P S0 x r (d + 4)) : FireP M P S0 x r (d + 5) := by
  intro S Tw Q n f used B X b g u ht hu hX hB hf hn hn3 hu0 hu9 hl0 hl1 hb hg hag hq
  rw [wdS] at hq
  refine g_enter (loc := [some _, some _, some _, some _, some _, _]) e_X10_fireOn i_X10_fireOn (Nat.le_of_ble_eq_true rfl) rfl ?_
  refine g_l dX10_fireOn_0 rfl rfl ?_
  refine g_l dX10_fireOn_1 rfl rfl ?_
  refine g_icmp_ge (t := 10) dX10_fireOn_2 (by decide) rfl (by omega) (by omega) (fun c_2 => False.elim (by omega)) (fun c_2 => ?_)
  refine g_l dX10_fireOn_5 rfl rfl ?_
  refine g_iconst dX10_fireOn_6 rfl ?_
  refine g_icmp_lt (t := 11) dX10_fireOn_7 (by decide) rfl (by omega) (by omega) (fun c_7 => ?_) (fun c_7 => False.elim (by omega))
  refine g_iconst dX10_fireOn_11 rfl ?_
  refine g_l (loc' := [some _, some _, some _, some _, some _, some _]) dX10_fireOn_12 rfl rfl ?_
  have loop : ∀ (m : Nat) (w : Int) (S1 : Nat → Int → Int) (T1 : Nat → Nat → Int → Int) (Lb : Int × (Int → Int)), 0 ≤ w → w ≤ 10 → (10 - w).toNat = m → frW S S1 → (∀ v, v < 16 + f.toNat → T1 v = Tw v) → S1 206 4 = Lb.1 → 0 ≤ Lb.1 → Lb.1 ≤ 28 → (∀ i, 0 ≤ i → i < n → S1 207 i = Lb.2 i) → (∀ i, 0 ≤ i → i < f → S1 209 i = g i) →
      wdL (fun w Lb => wdS S0 x r (fX S0 w X) (used + w) (fun i => if i = f then w else g i) (f + 1) Lb) m w Lb = wdL (fun w Lb => wdS S0 x r (fX S0 w X) (used + w) (fun i => if i = f then w else g i) (f + 1) Lb) 10 0 (S 206 4, b) →
      G none (d + 4) 10 false none 0 0 (hO S Tw M P).length cX10_fireOn Q 0 14 [some (.ref 206), some (.int (iI x)), some (.int (iI n)), some (.int (iI f)), some (.int (iI used)), some (.int (iI w))] [] (hO S1 T1 M P) := by
    intro m
    induction m with
    | zero =>
      intro w S1 T1 Lb a1 a2 hm f1 f2 f3 f4 f5 f6 f7 hz
      rw [wdL] at hz
      rw [← hz] at hq
      refine g_l dX10_fireOn_14 rfl rfl ?_
      refine g_bipush dX10_fireOn_16 (by decide) rfl ?_
      refine g_icmp_gt (t := 122) dX10_fireOn_18 (by decide) rfl (by omega) (by omega) (fun c_18 => ?_) (fun c_18 => False.elim (by omega))
      refine g_retV dX10_fireOn_122 rfl rfl ?_
      exact hq S1 T1 f1 f2 f3 (by omega) (by omega) f6 f7
    | succ m ih =>
      intro w S1 T1 Lb a1 a2 hm f1 f2 f3 f4 f5 f6 f7 hz
      refine g_l dX10_fireOn_14 rfl rfl ?_
      refine g_bipush dX10_fireOn_16 (by decide) rfl ?_
      refine g_icmp_gt (t := 122) dX10_fireOn_18 (by decide) rfl (by omega) (by omega) (fun c_18 => False.elim (by omega)) (fun c_18 => ?_)
      refine g_l dX10_fireOn_21 rfl rfl ?_
      refine g_l dX10_fireOn_23 rfl rfl ?_
      refine g_iadd dX10_fireOn_25 rfl ?_
      refine g_l dX10_fireOn_26 rfl rfl ?_
      refine g_getf dX10_fireOn_27 h206 f_10_41 rfl rfl ?_
      refine g_icmp_ge (t := 122) dX10_fireOn_30 (by decide) rfl (by omega) (by omega) (fun c_30 => ?_) (fun c_30 => ?_)
      · have hid : wdL (fun w Lb => wdS S0 x r (fX S0 w X) (used + w) (fun i => if i = f then w else g i) (f + 1) Lb) (m + 1) w Lb = Lb := wdL_id (m + 1) w (fun v y1 y2 => wdS_A r _ _ _ _ _ (by omega))
        rw [hid] at hz
        rw [← hz] at hq
        refine g_retV dX10_fireOn_122 rfl rfl ?_
        exact hq S1 T1 f1 f2 f3 (by omega) (by omega) f6 f7
      · have ht1 : tEq S1 S0 := by
          obtain ⟨e1, e2, e3, e4, e5, e6⟩ := f1.t
          obtain ⟨y1, y2, y3, y4, y5, y6⟩ := ht
          exact ⟨e1.trans y1, e2.trans y2, e3.trans y3, e4.trans y4, e5.trans y5, e6.trans y6⟩
        have main : G none (d + 4) 10 false none 0 0 (hO S Tw M P).length cX10_fireOn Q 0 58 [some (.ref 206), some (.int (iI x)), some (.int (iI n)), some (.int (iI f)), some (.int (iI used)), some (.int (iI w))] [.ref (tR u 0), .ref (tR (16 + f.toNat) 0)] (hO S1 T1 M P) := by
          have hu18 : u < 16 + f.toNat := by rw [hu]; split <;> omega
          refine g_callV dX10_fireOn_58 m_10_53 (n := 1) rfl (hT0 (by omega)) rfl (Nat.le_of_ble_eq_true rfl) (Nat.le_of_ble_eq_true rfl) rfl rfl ?_
          refine s_X9_copyFrom (t := 16 + f.toNat) (u := u) (by omega) (by omega) (by omega) (fun T2 b1 b2 => ?_)
          simp only [Option.toList_some, Option.toList_none, List.cons_append, List.nil_append]
          have c1 : agr S0 (T2 (16 + f.toNat)) X := by
            have := ht1.sy.a b2
            rw [f2 u hu18] at this
            exact this.tr hag
          refine g_l dX10_fireOn_61 rfl rfl ?_
          refine g_getf dX10_fireOn_62 h206 f_10_17 rfl rfl ?_
          refine g_l dX10_fireOn_65 rfl rfl ?_
          refine g_aald208 dX10_fireOn_66 (by omega) rfl ?_
          refine g_l dX10_fireOn_67 rfl rfl ?_
          refine g_callV dX10_fireOn_69 m_10_57 (n := 1) rfl (hT0 (by omega)) rfl (Nat.le_of_ble_eq_true rfl) (Nat.le_of_ble_eq_true rfl) rfl rfl ?_
          refine s_X9_fire (t := 16 + f.toNat) (by omega) (ht1.p hp) (ht1.tw (hX.agr c1)) (by omega) (by omega) (fun T3 b3 b4 => ?_)
          simp only [Option.toList_some, Option.toList_none, List.cons_append, List.nil_append]
          have c2 : agr S0 (T3 (16 + f.toNat)) (fX S0 w X) := by
            have := ht1.sy.a b4
            rw [ht1.f] at this
            exact this.tr (fX_agr c1 hX)
          have c3 := fX_ok (w := w) hp hX (by omega)
          refine g_s dX10_fireOn_72 rfl rfl rfl ?_
          refine g_l dX10_fireOn_73 rfl rfl ?_
          refine g_getf dX10_fireOn_74 h206 f_10_21 rfl rfl ?_
          refine g_l dX10_fireOn_77 rfl rfl ?_
          refine g_l dX10_fireOn_78 rfl rfl ?_
          refine g_iast dX10_fireOn_80 h209 (by omega) (by decide) p209 rfl ?_
          refine g_l dX10_fireOn_81 rfl rfl ?_
          refine g_getf dX10_fireOn_82 h206 f_10_17 rfl rfl ?_
          refine g_l dX10_fireOn_85 rfl rfl ?_
          refine g_aald208 dX10_fireOn_86 (by omega) rfl ?_
          refine g_getf dX10_fireOn_87 (hT0 (by omega)) f_10_28 rfl rfl ?_
          refine g_l dX10_fireOn_90 rfl rfl ?_
          refine g_l dX10_fireOn_91 rfl rfl ?_
          refine g_l dX10_fireOn_92 rfl rfl ?_
          refine g_isub dX10_fireOn_93 rfl ?_
          refine g_iconst dX10_fireOn_94 rfl ?_
          refine g_isub dX10_fireOn_95 rfl ?_
          refine g_callV dX10_fireOn_96 m_10_45 (n := 2) rfl (hT7 (by omega)) rfl (Nat.le_of_ble_eq_true rfl) (Nat.le_of_ble_eq_true rfl) rfl rfl ?_
          have ez : n - f - 1 = (r : Int) := by omega
          have f8 : frW S (wS S1 209 f w) := f1.w (Or.inr (Or.inr rfl))
          have ht2 : tEq (wS S1 209 f w) S0 := by
            obtain ⟨e1, e2, e3, e4, e5, e6⟩ := f8.t
            obtain ⟨y1, y2, y3, y4, y5, y6⟩ := ht
            exact ⟨e1.trans y1, e2.trans y2, e3.trans y3, e4.trans y4, e5.trans y5, e6.trans y6⟩
          have f9 : ∀ v, v < 16 + f.toNat → T3 v = Tw v := fun v hv => by rw [b3 v (by omega), b1 v (by omega)]; exact f2 v hv
          have k1 : wS S1 209 f w 206 4 = Lb.1 := by rw [wS_o (by decide)]; exact f3
          have k2 : ∀ i, 0 ≤ i → i < n → wS S1 209 f w 207 i = Lb.2 i := fun i y1 y2 => by rw [wS_o (by decide)]; exact f6 i y1 y2
          have k3 : ∀ i, 0 ≤ i → i < f + 1 → wS S1 209 f w 209 i = (fun i => if i = f then w else g i) i := fun i y1 y2 => by
            rw [wS_s]
            show (if i = f then w else S1 209 i) = if i = f then w else g i
            by_cases e : i = f
            · rw [if_pos e, if_pos e]
            · rw [if_neg e, if_neg e]; exact f7 i y1 (by omega)
          have k4 : ∀ i, 0 ≤ i → i < f → wS S1 209 f w 209 i = g i := fun i y1 y2 => by
            rw [wS_s, if_neg (by omega)]; exact f7 i y1 y2
          refine s_X4_canBeReady (t := 16 + f.toNat) (by omega) (ht2.p hp) (ht2.tw (c3.agr c2)).2.1 (by omega) (fun hy => ?_) (fun hy => ?_)
          · have hcan : canB S0 x (fX S0 w X) r := by
              rw [ez] at hy
              exact canB_agr c2 (ht2.c.mp hy)
            simp only [Option.toList_some, Option.toList_none, List.cons_append, List.nil_append]
            refine g_if_eq (t := 116) dX10_fireOn_99 (by decide) rfl (by omega) (fun c_99 => False.elim (by omega)) (fun c_99 => ?_)
            refine g_l dX10_fireOn_102 rfl rfl ?_
            refine g_l dX10_fireOn_103 rfl rfl ?_
            refine g_l dX10_fireOn_104 rfl rfl ?_
            refine g_l dX10_fireOn_105 rfl rfl ?_
            refine g_iconst dX10_fireOn_106 rfl ?_
            refine g_iadd dX10_fireOn_107 rfl ?_
            refine g_l dX10_fireOn_108 rfl rfl ?_
            refine g_l dX10_fireOn_110 rfl rfl ?_
            refine g_iadd dX10_fireOn_112 rfl ?_
            refine g_callV dX10_fireOn_113 m_10_61 (n := 4) rfl h206 rfl (Nat.le_of_ble_eq_true rfl) (Nat.le_of_ble_eq_true rfl) rfl rfl ?_
            refine hgo (wS S1 209 f w) T3 _ n (f + 1) (used + w) (B + 180) (fX S0 w X) Lb.2 (fun i => if i = f then w else g i) ht2 c3 (by omega) (by omega) (by omega) hn3 (by omega) (by rw [k1]; omega) (by rw [k1]; exact f5) k2 k3 (by rw [show 15 + (f + 1).toNat = 16 + f.toNat by omega]; exact c2) hcan (fun S' Tw' d1 d2 d3 d4 d5 d6 d7 => ?_)
            rw [k1] at d3 d6
            simp only [Option.toList_some, Option.toList_none, List.cons_append, List.nil_append]
            refine g_iinc (loc' := [some _, some _, some _, some _, some _, some _]) dX10_fireOn_116 rfl rfl rfl ?_
            refine g_goto (t := 14) dX10_fireOn_119 (by decide) ?_
            refine ih (w + 1) S' Tw' (wdS S0 x r (fX S0 w X) (used + w) (fun i => if i = f then w else g i) (f + 1) (Lb.1, Lb.2)) (by omega) (by omega) (by omega) (f8.tr d1) (fun v hv => by rw [d2 v (by omega)]; exact f9 v hv) d3 (by rw [← d3]; exact d4) (by rw [← d3]; exact d5) d6 (fun i y1 y2 => ?_) ?_
            · rw [d7 i y1 (by omega)]
              show (if i = f then w else g i) = g i
              rw [if_neg (by omega)]
            · rw [wdL] at hz
              exact hz
          · have hcan : ¬ canB S0 x (fX S0 w X) r := by
              intro q
              obtain ⟨i, y1, y2, y3, y4⟩ := hy
              rw [ez] at y4
              exact y4 (ht2.c.mpr (canB_agr c2.sy q) i y1 y2 y3)
            simp only [Option.toList_some, Option.toList_none, List.cons_append, List.nil_append]
            refine g_if_eq (t := 116) dX10_fireOn_99 (by decide) rfl (by omega) (fun c_99 => ?_) (fun c_99 => False.elim (by omega))
            refine g_iinc (loc' := [some _, some _, some _, some _, some _, some _]) dX10_fireOn_116 rfl rfl rfl ?_
            refine g_goto (t := 14) dX10_fireOn_119 (by decide) ?_
            refine ih (w + 1) _ T3 Lb (by omega) (by omega) (by omega) f8 f9 k1 f4 f5 k2 k4 ?_
            rw [wdL, wdS_B r _ _ _ _ _ hcan] at hz
            exact hz
        by_cases h0f : f = 0
        · have e0 : u = 0 := by rw [hu, if_pos h0f]
          rw [e0] at main
          refine g_l dX10_fireOn_33 rfl rfl ?_
          refine g_getf dX10_fireOn_34 h206 f_10_17 rfl rfl ?_
          refine g_l dX10_fireOn_37 rfl rfl ?_
          refine g_aald208 dX10_fireOn_38 (by omega) rfl ?_
          refine g_l dX10_fireOn_39 rfl rfl ?_
          refine g_if_ne (t := 50) dX10_fireOn_40 (by decide) rfl (by omega) (fun c_40 => False.elim (by omega)) (fun c_40 => ?_)
          refine g_l dX10_fireOn_43 rfl rfl ?_
          refine g_getf dX10_fireOn_44 h206 f_10_24 rfl rfl ?_
          refine g_goto (t := 58) dX10_fireOn_47 (by decide) ?_
          exact main
        · have e0 : u = 16 + (f - 1).toNat := by rw [hu, if_neg h0f]; omega
          rw [e0] at main
          refine g_l dX10_fireOn_33 rfl rfl ?_
          refine g_getf dX10_fireOn_34 h206 f_10_17 rfl rfl ?_
          refine g_l dX10_fireOn_37 rfl rfl ?_
          refine g_aald208 dX10_fireOn_38 (by omega) rfl ?_
          refine g_l dX10_fireOn_39 rfl rfl ?_
          refine g_if_ne (t := 50) dX10_fireOn_40 (by decide) rfl (by omega) (fun c_40 => ?_) (fun c_40 => False.elim (by omega))
          refine g_l dX10_fireOn_50 rfl rfl ?_
          refine g_getf dX10_fireOn_51 h206 f_10_17 rfl rfl ?_
          refine g_l dX10_fireOn_54 rfl rfl ?_
          refine g_iconst dX10_fireOn_55 rfl ?_
          refine g_isub dX10_fireOn_56 rfl ?_
          refine g_aald208 dX10_fireOn_57 (by omega) rfl ?_
          exact main
  exact loop 10 0 S Tw (S 206 4, b) (by omega) (by omega) rfl frW.rf (fun _ _ => rfl) rfl hl0 hl1 hb hg rfl
theorem fire_all {S0 : Nat → Int → Int} {x : Int} (hp : pOk S0) {d r : Nat} (hr : r ≤ 2) : FireP M P S0 x r (d + 9) := by
  rcases (show r = 0 ∨ r = 1 ∨ r = 2 by omega) with e | e | e
  · subst e
    exact fire_s (d := d + 4) hp (go_0 (d := d + 7))
  · subst e
    exact fire_s (d := d + 4) hp (go_s (d := d + 7) (fire_s (d := d + 2) hp (go_0 (d := d + 5))))
  · subst e
    exact fire_s (d := d + 4) hp (go_s (d := d + 7) (fire_s (d := d + 2) hp (go_s (d := d + 5) (fire_s (d := d) hp (go_0 (d := d + 3))))))
/-- the least wood, or none -/
noncomputable def lwF (S : Nat → Int → Int) (x : Int) (n : Nat) (X : Nat → Int → Int) (b : Int → Int) : Int := if (wdS S x n X 0 (fun _ => 0) 0 (28, b)).1 = 28 then -9 else (wdS S x n X 0 (fun _ => 0) 0 (28, b)).1
theorem s_X10_search {S : Nat → Int → Int} {Tw : Nat → Nat → Int → Int} {Q : Option Value → GH → Prop} {d : Nat} {x n B : Int} (hp : pOk S) (hk : twOk S (Tw 0) B) (hB : B ≤ 800000) (hn : 1 ≤ n ∧ n ≤ 3)
    (hq : ∀ S' Tw', frW S S' → (∀ v, v < 16 → Tw' v = Tw v) → (∀ i, 0 ≤ i → i < n → S' 207 i = (wdS S x n.toNat (Tw 0) 0 (fun _ => 0) 0 (28, S 207)).2 i) → Q (some (.int (iI (lwF S x n.toNat (Tw 0) (S 207))))) (hO S' Tw' M P)) : CallD (d + 10) 79 [.ref 206, .int (iI x), .int (iI n)] (hO S Tw M P) Q := by
  have f0 : frW S (wS S 206 4 28) := frW.rf.w (Or.inl rfl)
  have ht := f0.t
  have fin : ∀ S' Tw', frW S S' → (∀ v, v < 16 → Tw' v = Tw v) → S' 206 4 = (wdS S x n.toNat (Tw 0) 0 (fun _ => 0) 0 (28, S 207)).1 → 0 ≤ S' 206 4 → S' 206 4 ≤ 28 → (∀ i, 0 ≤ i → i < n → S' 207 i = (wdS S x n.toNat (Tw 0) 0 (fun _ => 0) 0 (28, S 207)).2 i) →
      G none (d + 9) 10 false (some .int) 0 0 (hO S Tw M P).length cX10_search Q 0 31 [some (.ref 206), some (.int (iI x)), some (.int (iI n)), some (.int (iI 28))] [] (hO S' Tw' M P) := by
    intro S' Tw' a1 a2 a3 a4 a5 a6
    have h := hq S' Tw' a1 a2 a6
    unfold lwF at h
    rw [← a3] at h
    refine g_l dX10_search_31 rfl rfl ?_
    refine g_getf dX10_search_32 h206 f_10_41 rfl rfl ?_
    refine g_l dX10_search_35 rfl rfl ?_
    refine g_icmp_ne (t := 44) dX10_search_36 (by decide) rfl (by omega) (by omega) (fun c_36 => ?_) (fun c_36 => ?_)
    · rw [if_neg c_36] at h
      refine g_l dX10_search_44 rfl rfl ?_
      refine g_getf dX10_search_45 h206 f_10_41 rfl rfl ?_
      refine g_retI dX10_search_48 rfl rfl ?_
      exact h
    · rw [if_pos (by omega)] at h
      refine g_bipush dX10_search_39 (by decide) rfl ?_
      refine g_goto (t := 48) dX10_search_41 (by decide) ?_
      refine g_retI dX10_search_48 rfl rfl ?_
      exact h
  refine g_enter (loc := [some _, some _, some _, _]) e_X10_search i_X10_search (Nat.le_of_ble_eq_true rfl) rfl ?_
  refine g_bipush dX10_search_0 (by decide) rfl ?_
  refine g_l (loc' := [some _, some _, some _, some _]) dX10_search_2 rfl rfl ?_
  refine g_l dX10_search_3 rfl rfl ?_
  refine g_l dX10_search_4 rfl rfl ?_
  refine g_putf dX10_search_5 h206 f_10_41 (Nat.le_of_ble_eq_true rfl) rfl rfl p206_4 rfl ?_
  refine g_l dX10_search_8 rfl rfl ?_
  refine g_getf dX10_search_9 h206 f_10_24 rfl rfl ?_
  refine g_getf dX10_search_12 (hT0 (by omega)) f_10_28 rfl rfl ?_
  refine g_l dX10_search_15 rfl rfl ?_
  refine g_l dX10_search_16 rfl rfl ?_
  refine g_callV dX10_search_17 m_10_45 (n := 2) rfl (hT7 (by omega)) rfl (Nat.le_of_ble_eq_true rfl) (Nat.le_of_ble_eq_true rfl) rfl rfl ?_
  refine s_X4_canBeReady (t := 0) (by decide) (ht.p hp) (ht.tw hk).2.1 (by omega) (fun hy => ?_) (fun hy => ?_)
  · simp only [Option.toList_some, Option.toList_none, List.cons_append, List.nil_append]
    refine g_if_eq (t := 31) dX10_search_20 (by decide) rfl (by omega) (fun c_20 => False.elim (by omega)) (fun c_20 => ?_)
    refine g_l dX10_search_23 rfl rfl ?_
    refine g_l dX10_search_24 rfl rfl ?_
    refine g_l dX10_search_25 rfl rfl ?_
    refine g_iconst dX10_search_26 rfl ?_
    refine g_iconst dX10_search_27 rfl ?_
    refine g_callV dX10_search_28 m_10_49 (n := 4) rfl h206 rfl (Nat.le_of_ble_eq_true rfl) (Nat.le_of_ble_eq_true rfl) rfl rfl ?_
    have hl : wS S 206 4 28 206 4 = 28 := wS_e
    refine fire_all hp (r := n.toNat - 1) (d := d) (by omega) (wS S 206 4 28) Tw _ n 0 0 B (Tw 0) (S 207) (fun _ => 0) 0 ht rfl hk (by omega) (by omega) (by omega) hn.2 (by omega) (by omega) (by rw [hl]; decide) (by rw [hl]; decide) (fun i y1 y2 => by rw [wS_o (by decide)]) (fun i y1 y2 => by omega) agr.rf (fun S' Tw' a1 a2 a3 a4 a5 a6 a7 => ?_)
    rw [hl, show n.toNat - 1 + 1 = n.toNat by omega] at a3 a6
    simp only [Option.toList_some, Option.toList_none, List.cons_append, List.nil_append]
    exact fin S' Tw' (f0.tr a1) a2 a3 a4 a5 a6
  · have hz : wdS S x n.toNat (Tw 0) 0 (fun _ => 0) 0 (28, S 207) = (28, S 207) := by
      refine wdS_B _ _ _ _ _ _ (fun q => ?_)
      obtain ⟨i, y1, y2, y3, y4⟩ := hy
      rw [Int.toNat_of_nonneg (by omega)] at q
      exact y4 (ht.c.mpr q i y1 y2 y3)
    simp only [Option.toList_some, Option.toList_none, List.cons_append, List.nil_append]
    refine g_if_eq (t := 31) dX10_search_20 (by decide) rfl (by omega) (fun c_20 => ?_) (fun c_20 => False.elim (by omega))
    refine fin _ Tw f0 (fun _ _ => rfl) ?_ ?_ ?_ (fun i y1 y2 => ?_)
    · rw [hz, wS_e]
    · rw [wS_e]; decide
    · rw [wS_e]; decide
    · rw [hz, wS_o (by decide)]
end WD
