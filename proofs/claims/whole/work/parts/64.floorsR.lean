/-! floors: placings by rows; what is foreseen is so -/
/-- a tower with all places anew -/
def plA (pl : Int → Int) (X : Nat → Int → Int) : Nat → Int → Int := fun o k => if o = 8 then pl k else X o k
/-- the placing of a row, of the first pots -/
def plR (X : Nat → Int → Int) : Nat → Int → Int → Int
  | 0, _ => fun j => X 8 j
  | i + 1, row => if X 10 i = 0 then (fun j => if j = (i : Int) then row % X 1 5 else plR X i (row / X 1 5) j) else plR X i row
/-- how many placings there are -/
def frN (X : Nat → Int → Int) : Nat → Int
  | 0 => 1
  | i + 1 => if X 10 i = 0 then frN X i * X 1 5 else frN X i
theorem plR_hi {X : Nat → Int → Int} : ∀ (i : Nat) (row j : Int), (i : Int) ≤ j → plR X i row j = X 8 j
  | 0, _, _, _ => rfl
  | i + 1, row, j, h => by
    rw [plR]
    split
    · show (if j = (i : Int) then row % X 1 5 else plR X i (row / X 1 5) j) = _
      rw [if_neg (by omega)]
      exact plR_hi i _ j (by omega)
    · exact plR_hi i _ j (by omega)
theorem plR_lo {X : Nat → Int → Int} {i : Nat} {row j : Int} (h : j < (i : Int)) : plR X (i + 1) row j = if X 10 i = 0 then plR X i (row / X 1 5) j else plR X i row j := by
  rw [plR]
  split
  · show (if j = (i : Int) then row % X 1 5 else plR X i (row / X 1 5) j) = _
    rw [if_neg (by omega)]
  · rfl
theorem plR_at {X : Nat → Int → Int} {i : Nat} {row : Int} : plR X (i + 1) row i = if X 10 i = 0 then row % X 1 5 else X 8 i := by
  rw [plR]
  split
  · show (if (i : Int) = (i : Int) then row % X 1 5 else _) = _
    rw [if_pos rfl]
  · exact plR_hi i row i (Int.le_refl _)
theorem plR_in {X : Nat → Int → Int} (hk : 2 ≤ X 1 5 ∧ X 1 5 ≤ 5) : ∀ (i : Nat) (row : Int), (∀ j : Int, 0 ≤ j → j < i → 0 ≤ X 8 j ∧ X 8 j < X 1 5) → ∀ j : Int, 0 ≤ j → j < i → 0 ≤ plR X i row j ∧ plR X i row j < X 1 5
  | 0, _, _, j, a, b => by omega
  | i + 1, row, h, j, a, b => by
    by_cases c : j = i
    · subst c
      rw [plR_at]
      split
      · exact ⟨Int.emod_nonneg _ (by omega), Int.emod_lt_of_pos _ (by omega)⟩
      · exact h i (by omega) (by omega)
    · rw [plR_lo (by omega)]
      split
      · exact plR_in hk i _ (fun j y1 y2 => h j y1 (by omega)) j a (by omega)
      · exact plR_in hk i _ (fun j y1 y2 => h j y1 (by omega)) j a (by omega)
theorem plR_0 {X : Nat → Int → Int} : ∀ (i : Nat) (j : Int), 0 ≤ j → j < i → plR X i 0 j = if X 10 j = 0 then 0 else X 8 j
  | 0, j, a, b => by omega
  | i + 1, j, a, b => by
    by_cases c : j = i
    · subst c
      rw [plR_at, Int.zero_emod]
    · rw [plR_lo (by omega), Int.zero_ediv, ite_self]
      exact plR_0 i j a (by omega)
theorem frN_in {X : Nat → Int → Int} (hk : 2 ≤ X 1 5 ∧ X 1 5 ≤ 5) : ∀ i : Nat, 1 ≤ frN X i ∧ frN X i ≤ pwF 5 i
  | 0 => ⟨Int.le_refl 1, Int.le_refl 1⟩
  | i + 1 => by
    have h := frN_in hk i
    have e : pwF 5 (i + 1) = pwF 5 i * 5 := rfl
    rw [frN, e]
    rcases (show X 1 5 = 2 ∨ X 1 5 = 3 ∨ X 1 5 = 4 ∨ X 1 5 = 5 by omega) with q | q | q | q <;> rw [q] <;> split <;> omega
/-- the next placing is the next row's -/
theorem npF_R {X : Nat → Int → Int} (hk : 2 ≤ X 1 5 ∧ X 1 5 ≤ 5) : ∀ (i : Nat) (g : Int → Int) (row : Int), (∀ j : Int, 0 ≤ j → j < i → g j = plR X i row j) → 0 ≤ row → row < frN X i → (row + 1 < frN X i → (npF X i g).1 = 1 ∧ ∀ j : Int, 0 ≤ j → j < i → (npF X i g).2 j = plR X i (row + 1) j) ∧ (¬ row + 1 < frN X i → (npF X i g).1 = 0) ∧ ∀ j : Int, ¬ (0 ≤ j ∧ j < i) → (npF X i g).2 j = g j
  | 0, g, row, h, h0, h1 => by
    change row < 1 at h1
    refine ⟨fun q => ?_, fun _ => rfl, fun _ _ => rfl⟩
    change row + 1 < 1 at q
    omega
  | i + 1, g, row, h, h0, h1 => by
    rw [npF]
    have hi := h i (by omega) (by omega)
    rw [plR_at] at hi
    have hlo : ∀ j : Int, 0 ≤ j → j < i → g j = if X 10 i = 0 then plR X i (row / X 1 5) j else plR X i row j := fun j a b => by
      rw [h j a (by omega), plR_lo b]
    rw [frN] at h1 ⊢
    by_cases c : X 10 i = 0
    · simp only [if_pos c] at hi hlo h1 ⊢
      have hq : row / X 1 5 < frN X i ∧ 0 ≤ row / X 1 5 := by
        rcases (show X 1 5 = 2 ∨ X 1 5 = 3 ∨ X 1 5 = 4 ∨ X 1 5 = 5 by omega) with q | q | q | q <;> rw [q] at h1 ⊢ <;> omega
      by_cases c2 : g i + 1 < X 1 5
      · rw [if_pos c2]
        rw [hi] at c2
        have hd : (row + 1) / X 1 5 = row / X 1 5 ∧ (row + 1) % X 1 5 = row % X 1 5 + 1 ∧ row + 1 < frN X i * X 1 5 := by
          rcases (show X 1 5 = 2 ∨ X 1 5 = 3 ∨ X 1 5 = 4 ∨ X 1 5 = 5 by omega) with q | q | q | q <;> rw [q] at h1 c2 hq ⊢ <;> omega
        refine ⟨fun _ => ⟨rfl, fun j a b => ?_⟩, fun q => absurd hd.2.2 q, fun j hj => ?_⟩
        · show (if j = (i : Int) then g i + 1 else g j) = _
          by_cases e : j = i
          · subst e
            rw [if_pos rfl, plR_at, if_pos c, hi, hd.2.1]
          · rw [if_neg e, plR_lo (by omega), if_pos c, hd.1]
            exact hlo j a (by omega)
        · show (if j = (i : Int) then g i + 1 else g j) = _
          rw [if_neg (by omega)]
      · rw [if_neg c2]
        rw [hi] at c2
        have hm := Int.emod_lt_of_pos row (show 0 < X 1 5 by omega)
        have hd : (row + 1) / X 1 5 = row / X 1 5 + 1 ∧ (row + 1) % X 1 5 = 0 ∧ (row + 1 < frN X i * X 1 5 ↔ row / X 1 5 + 1 < frN X i) := by
          rcases (show X 1 5 = 2 ∨ X 1 5 = 3 ∨ X 1 5 = 4 ∨ X 1 5 = 5 by omega) with q | q | q | q <;> rw [q] at h1 c2 hq hm ⊢ <;> omega
        obtain ⟨r1, r2, r3⟩ := npF_R hk i (fun j => if j = (i : Int) then 0 else g j) (row / X 1 5) (fun j a b => by
          show (if j = (i : Int) then 0 else g j) = _
          rw [if_neg (by omega)]
          exact hlo j a b) hq.2 hq.1
        refine ⟨fun q => ?_, fun q => r2 (fun w => q (hd.2.2.mpr w)), fun j hj => ?_⟩
        · obtain ⟨s1, s2⟩ := r1 (hd.2.2.mp q)
          refine ⟨s1, fun j a b => ?_⟩
          by_cases e : j = i
          · subst e
            rw [r3 i (by omega), plR_at, if_pos c, hd.2.1]
            show (if (i : Int) = (i : Int) then 0 else g i) = 0
            rw [if_pos rfl]
          · rw [s2 j a (by omega), plR_lo (by omega), if_pos c, hd.1]
        · rw [r3 j (by omega)]
          show (if j = (i : Int) then 0 else g j) = _
          rw [if_neg (by omega)]
    · simp only [if_neg c] at hi hlo h1 ⊢
      obtain ⟨r1, r2, r3⟩ := npF_R hk i g row hlo h0 h1
      refine ⟨fun q => ?_, r2, fun j hj => r3 j (by omega)⟩
      obtain ⟨s1, s2⟩ := r1 q
      refine ⟨s1, fun j a b => ?_⟩
      by_cases e : j = i
      · subst e
        rw [r3 i (by omega), plR_at, if_neg c]
        exact hi
      · rw [s2 j a (by omega), plR_lo (by omega), if_neg c]
/-- alike as pot p sees it, the others standing anywhere -/
def prel2 (p : Int) (X Y : Nat → Int → Int) : Prop := X 1 5 = Y 1 5 ∧ X 2 = Y 2 ∧ X 3 = Y 3 ∧ X 4 = Y 4 ∧ X 8 p = Y 8 p ∧ X 9 p = Y 9 p ∧ X 10 p = Y 10 p
theorem itX_8 {S : Nat → Int → Int} {w : Int} {X : Nat → Int → Int} : ∀ n : Nat, itX S w X n 8 = X 8
  | 0 => rfl
  | n + 1 => itX_8 n
theorem it_qI {S : Nat → Int → Int} {p sb w : Int} {Z Y : Nat → Int → Int} (h : prel2 p Z Y) (hs : sb = sbF S Z (Z 8 p)) : ∀ n : Nat, prel2 p (itX S w Z n) (qI S p sb w Y n)
  | 0 => h
  | n + 1 => by
    obtain ⟨h1, h2, h3, h4, h8, h9, h10⟩ := it_qI h hs n
    have e8 := itX_8 (S := S) (w := w) (X := Z) n
    have es : sbF S (bX w (itX S w Z n)) (itX S w Z n 8 p) = sb := by
      rw [sbF_congr (X := Z) (X' := bX w (itX S w Z n)) e8, e8]
      exact hs.symm
    rw [itX, qI]
    generalize itX S w Z n = A at *
    generalize qI S p sb w Y n = C at *
    have e2 : bX w A 2 = bX w C 2 := by
      show nhF (A 1 5) (A 3) (A 4) w (A 2) = nhF (C 1 5) (C 3) (C 4) w (C 2)
      rw [h1, h2, h3, h4]
    have e5 : bX w A 5 = bX w C 5 := h2
    have e6 : bX w A 6 = bX w C 6 := by
      show cmF (A 3) (A 2) w = cmF (C 3) (C 2) w
      rw [h2, h3]
    refine ⟨h1, e2, h3, h4, h8, ?_, ?_⟩
    · show nHas S (bX w A) p (sbF S (bX w A) (A 8 p)) = (if (9 : Nat) = 9 ∧ p = p then nHas S (bX w C) p sb else _)
      rw [if_pos ⟨rfl, rfl⟩, es]
      unfold nHas
      rw [e2, e5, e6, show bX w A 8 p = bX w C 8 p from h8, show bX w A 9 p = bX w C 9 p from h9, show bX w A 10 p = bX w C 10 p from h10]
    · show nHow S (bX w A) p (sbF S (bX w A) (A 8 p)) = (if (10 : Nat) = 9 ∧ p = p then nHas S (bX w C) p sb else if (10 : Nat) = 10 ∧ p = p then nHow S (bX w C) p sb else _)
      rw [if_neg (show ¬ ((10 : Nat) = 9 ∧ p = p) from fun q => absurd q.1 (by decide)), if_pos ⟨rfl, rfl⟩, es]
      unfold nHow
      rw [e2, e5, e6, show bX w A 8 p = bX w C 8 p from h8, show bX w A 9 p = bX w C 9 p from h9, show bX w A 10 p = bX w C 10 p from h10]
theorem rd_it {S : Nat → Int → Int} {p w : Int} {X : Nat → Int → Int} {pl : Int → Int} {n : Nat} : itX S w (plA pl X) n 10 p = 1 ↔ rdP S X p (sbF S (plA pl X) (pl p)) n w (pl p) := by
  have h := (it_qI (S := S) (p := p) (sb := sbF S (plA pl X) (pl p)) (w := w) (Z := plA pl X) (Y := plX p (pl p) X) ⟨rfl, rfl, rfl, rfl, by show pl p = (if (8 : Nat) = 8 ∧ p = p then pl p else _); rw [if_pos ⟨rfl, rfl⟩], rfl, rfl⟩ rfl n).2.2.2.2.2.2
  rw [h]
theorem T4 : ∀ (z : Fin 64) (q : Fin 5), bOr (setF (fun j : Int => Nat.testBit z.val j.toNat = true) 6) (bShl 2 ((q.val : Nat) : Int)) = setF (fun j : Int => j = ((q.val : Nat) : Int) + 1 ∨ Nat.testBit z.val j.toNat = true) 6 := by decide +kernel
theorem T5 : ∀ (z : Fin 64) (i : Fin 6), (bAnd (bShr (setF (fun j : Int => Nat.testBit z.val j.toNat = true) 6) (i.val : Int)) 1 = 1 ↔ Nat.testBit z.val i.val = true) := by decide +kernel
theorem code6 (c : Int → Prop) : ∃ z : Fin 64, ∀ i : Int, 0 ≤ i → i < 6 → (c i ↔ Nat.testBit z.val i.toNat = true) := by
  obtain ⟨z, h1, h2⟩ := codeN c 6
  refine ⟨⟨z, h1⟩, fun i a b => ?_⟩
  have := h2 i.toNat (by omega)
  rw [Int.toNat_of_nonneg a] at this
  exact this
theorem ab_set {S : Nat → Int → Int} {pl : Int → Int} : ∀ (n : Nat) (c : Int → Prop) (_ : DecidablePred c), (∀ i : Int, 0 ≤ i → i < n → 0 ≤ pl i ∧ pl i < 5) → (∀ k : Int, 0 ≤ k → k < 6 → (c k ↔ ∃ j : Int, 0 ≤ j ∧ j < n ∧ S 14 j = 1 ∧ pl j + 1 = k)) → abF S pl n = setF c 6
  | 0, c, _, h, g => by
    rw [setF_congr (e := fun _ => False) (fun i a b => ⟨fun q => by obtain ⟨j, y1, y2, -⟩ := (g i a (by omega)).mp q; omega, fun q => q.elim⟩)]
    show (0 : Int) = _
    decide
  | n + 1, c, _, h, g => by
    rw [abF]
    let c' : Int → Prop := fun k => ∃ j : Int, 0 ≤ j ∧ j < n ∧ S 14 j = 1 ∧ pl j + 1 = k
    have ih := ab_set n c' (fun _ => Classical.propDecidable _) (fun i a b => h i a (by omega)) (fun k a b => Iff.rfl)
    rw [ih]
    have hn := h n (by omega) (by omega)
    by_cases e : S 14 n = 1
    · rw [if_pos e]
      obtain ⟨z, hz⟩ := code6 c'
      rw [@setF_congr c' (fun j : Int => Nat.testBit z.val j.toNat = true) (fun _ => Classical.propDecidable _) _ 6 (fun i a b => hz i a (by omega))]
      have t4 := T4 z ⟨(pl n).toNat, by omega⟩
      simp only [Int.toNat_of_nonneg hn.1] at t4
      rw [t4]
      refine setF_congr (fun i a b => ?_)
      rw [g i a (by omega), ← hz i a (by omega)]
      constructor
      · rintro (q | ⟨j, y1, y2, y3, y4⟩)
        · exact ⟨n, by omega, by omega, e, by omega⟩
        · exact ⟨j, y1, by omega, y3, y4⟩
      · rintro ⟨j, y1, y2, y3, y4⟩
        by_cases q : j = n
        · subst q; exact Or.inl (by omega)
        · exact Or.inr ⟨j, y1, by omega, y3, y4⟩
    · rw [if_neg e, bOr_0 (@setF_R c' (fun _ => Classical.propDecidable _) 6)]
      refine @setF_congr c' c (fun _ => Classical.propDecidable _) _ 6 (fun i a b => ?_)
      rw [g i a (by omega)]
      constructor
      · rintro ⟨j, y1, y2, y3, y4⟩
        exact ⟨j, y1, by omega, y3, y4⟩
      · rintro ⟨j, y1, y2, y3, y4⟩
        by_cases q : j = n
        · subst q; exact absurd y3 e
        · exact ⟨j, y1, by omega, y3, y4⟩
theorem ab_bit {S : Nat → Int → Int} {pl : Int → Int} {n : Nat} {k : Int} (h : ∀ i : Int, 0 ≤ i → i < n → 0 ≤ pl i ∧ pl i < 5) (hk : 0 ≤ k ∧ k < 6) : bAnd (bShr (abF S pl n) k) 1 = 1 ↔ ∃ j : Int, 0 ≤ j ∧ j < n ∧ S 14 j = 1 ∧ pl j + 1 = k := by
  let c' : Int → Prop := fun k => ∃ j : Int, 0 ≤ j ∧ j < n ∧ S 14 j = 1 ∧ pl j + 1 = k
  rw [ab_set n c' (fun _ => Classical.propDecidable _) h (fun k a b => Iff.rfl)]
  obtain ⟨z, hz⟩ := code6 c'
  rw [@setF_congr c' (fun j : Int => Nat.testBit z.val j.toNat = true) (fun _ => Classical.propDecidable _) _ 6 (fun i a b => hz i a (by omega))]
  have t5 := T5 z ⟨k.toNat, by omega⟩
  simp only [Int.toNat_of_nonneg hk.1] at t5
  rw [t5]
  exact (hz k hk.1 hk.2).symm
/-- how many are READY, the pots standing so -/
noncomputable def rdC (S : Nat → Int → Int) (X : Nat → Int → Int) (n : Nat) (w : Int) (pl : Int → Int) (N : Nat) : Int := cntF (fun i => itX S w (plA pl X) n 10 i = 1) N
theorem rh_rd {S : Nat → Int → Int} {X : Nat → Int → Int} {n : Nat} {w : Int} {pl g6 g7 : Int → Int} {N : Nat} (hN : S 13 5 = N) (hk : 2 ≤ X 1 5 ∧ X 1 5 ≤ 5) (hpl : ∀ i : Int, 0 ≤ i → i < N → 0 ≤ pl i ∧ pl i < X 1 5) (hg : ∀ j : Int, 0 ≤ j → j < N → g6 j = rbF S X j 0 n w (X 1 5).toNat ∧ g7 j = rbF S X j 1 n w (X 1 5).toNat) : ∀ m : Nat, m ≤ N → rhF g6 g7 pl (abF S pl N) m = cntF (fun i => itX S w (plA pl X) n 10 i = 1) m
  | 0, _ => rfl
  | m + 1, hm => by
    rw [rhF, rh_rd hN hk hpl hg m (by omega)]
    show _ = cntF (fun i => itX S w (plA pl X) n 10 i = 1) m + (if itX S w (plA pl X) n 10 m = 1 then 1 else 0)
    congr 1
    obtain ⟨p0, p1⟩ := hpl m (by omega) (by omega)
    obtain ⟨e6, e7⟩ := hg m (by omega) (by omega)
    have hab := ab_bit (S := S) (pl := pl) (n := N) (k := pl m) (fun i a b => by have := hpl i a b; omega) (by omega)
    have hsb : saltB S (plA pl X) (pl m) ↔ bAnd (bShr (abF S pl N) (pl m)) 1 = 1 := by
      rw [hab]
      unfold saltB
      rw [hN]
      constructor
      · rintro ⟨j, a, b, c, e⟩
        change pl j = pl m - 1 at e
        exact ⟨j, a, b, c, by omega⟩
      · rintro ⟨j, a, b, c, e⟩
        exact ⟨j, a, b, c, by show pl j = pl m - 1; omega⟩
    have bit : ∀ sb : Int, bAnd (bShr (rbF S X m sb n w (X 1 5).toNat) (pl m)) 1 = if rdP S X m sb n w (pl m) then 1 else 0 := by
      intro sb
      have h := sF_bit (c := fun k => rdP S X m sb n w k) (n := X 1 5) (i := pl m) hk.2 ⟨p0, p1⟩
      unfold hasB at h
      by_cases c : rdP S X m sb n w (pl m)
      · rw [if_pos c]; exact h.mpr c
      · rw [if_neg c]
        rcases bAnd_1 (bShr (rbF S X m sb n w (X 1 5).toNat) (pl m)) with q | q
        · exact q
        · exact absurd (h.mp q) c
    have key := rd_it (S := S) (p := (m : Int)) (w := w) (X := X) (pl := pl) (n := n)
    by_cases c : bAnd (bShr (abF S pl N) (pl m)) 1 = 1
    · rw [sbF_1 (hsb.mpr c)] at key
      rw [if_pos c, e7, bit 1]
      by_cases q : rdP S X m 1 n w (pl m)
      · rw [if_pos q, if_pos (key.mpr q)]
      · rw [if_neg q, if_neg (fun z => q (key.mp z))]
    · rw [sbF_0 (fun q => c (hsb.mp q))] at key
      rw [if_neg c, e6, bit 0]
      by_cases q : rdP S X m 0 n w (pl m)
      · rw [if_pos q, if_pos (key.mpr q)]
      · rw [if_neg q, if_neg (fun z => q (key.mp z))]
theorem bOr_z {a b : Int} (h : bOr a b = 0) : iI a = 0 ∧ iI b = 0 := by
  unfold bOr at h
  have h2 : iI a ||| iI b = 0 := by
    rw [← iI_of (iI a ||| iI b), h]
    rfl
  have h3 : (iI a).toBitVec ||| (iI b).toBitVec = 0#32 := congrArg Int32.toBitVec h2
  have h4 := BitVec.or_eq_zero_iff.mp h3
  exact ⟨Int32.toBitVec_inj.mp h4.1, Int32.toBitVec_inj.mp h4.2⟩
theorem bit_z {a k : Int} (h : iI a = 0) (hk : 0 ≤ k ∧ k < 5) : bAnd (bShr a k) 1 = 0 := by
  unfold bShr
  rw [h]
  rcases (show k = 0 ∨ k = 1 ∨ k = 2 ∨ k = 3 ∨ k = 4 by omega) with e | e | e | e | e <;> (subst e; decide)
theorem rh_mp {S' : Nat → Int → Int} {pl : Int → Int} {ab : Int} : ∀ m : Nat, (∀ i : Int, 0 ≤ i → i < m → 0 ≤ pl i ∧ pl i < 5) → rhF (S' 246) (S' 247) pl ab m ≤ mpF S' m
  | 0, _ => Int.le_refl 0
  | m + 1, h => by
    have ih := rh_mp (S' := S') (pl := pl) (ab := ab) m (fun i a b => h i a (by omega))
    have hm := h m (by omega) (by omega)
    rw [rhF, mpF]
    have b1 := bAnd_1 (bShr (if bAnd (bShr ab (pl m)) 1 = 1 then S' 247 m else S' 246 m) (pl m))
    by_cases c : bOr (S' 246 m) (S' 247 m) = 0
    · obtain ⟨z6, z7⟩ := bOr_z c
      rw [if_pos c]
      have : bAnd (bShr (if bAnd (bShr ab (pl m)) 1 = 1 then S' 247 m else S' 246 m) (pl m)) 1 = 0 := by
        split
        · exact bit_z z7 hm
        · exact bit_z z6 hm
      omega
    · rw [if_neg c]
      omega
/-- all rows from the given one on, m of them -/
noncomputable def rfL (S : Nat → Int → Int) (X : Nat → Int → Int) (n : Nat) (w : Int) (N : Nat) : Nat → Int → Int → (Int → Int) → Int × (Int → Int)
  | 0, _, mo, be => (mo, be)
  | m + 1, row, mo, be => if mo < rdC S X n w (plR X N row) N then rfL S X n w N m (row + 1) (rdC S X n w (plR X N row) N) (plR X N row) else rfL S X n w N m (row + 1) mo be
theorem rdC_c {S : Nat → Int → Int} {X : Nat → Int → Int} {n : Nat} {w : Int} {pl pl' : Int → Int} {N : Nat} {B : Int} (hp : pOk S) (hN : S 13 5 = N) (hX : twOk S X B) (hw : 0 ≤ w ∧ w ≤ 9) (hpl : ∀ i : Int, 0 ≤ i → i < N → 0 ≤ pl' i ∧ pl' i < X 1 5) (h : ∀ i : Int, 0 ≤ i → i < N → pl i = pl' i) : rdC S X n w pl N = rdC S X n w pl' N := by
  have g : agr S (plA pl X) (plA pl' X) := ⟨rfl, rfl, fun _ _ _ => ⟨rfl, rfl, rfl⟩, fun p a b => ⟨h p a (by omega), rfl, rfl⟩⟩
  have hY : twOk S (plA pl' X) B := by
    obtain ⟨⟨t1, t2, t3, t4⟩, q, r⟩ := hX
    refine ⟨⟨t1, t2, t3, t4⟩, fun p a b => ?_, fun p a b => (hpl p a (by omega)).2⟩
    have := hpl p a (by omega)
    exact ⟨⟨this.1, by show pl' p < 5; omega⟩, (q p a b).2⟩
  have i := itX_agr hp g hY hw n
  unfold rdC
  refine cntF_congr (fun p a b => ?_)
  rw [(i.2.2.2 p a (by omega)).2.2]
theorem rdC_in {S : Nat → Int → Int} {X : Nat → Int → Int} {n : Nat} {w : Int} {pl : Int → Int} {N : Nat} : 0 ≤ rdC S X n w pl N ∧ rdC S X n w pl N ≤ N := by
  unfold rdC
  induction N with
  | zero => exact ⟨Int.le_refl 0, Int.le_refl 0⟩
  | succ N ih =>
    show 0 ≤ cntF _ N + (if _ then 1 else 0) ∧ cntF _ N + (if _ then 1 else 0) ≤ _
    split <;> omega
theorem rfL_stop {S : Nat → Int → Int} {X : Nat → Int → Int} {n : Nat} {w : Int} {N : Nat} {mo : Int} {be : Int → Int} : ∀ (m : Nat) (row : Int), (∀ r, rdC S X n w (plR X N r) N ≤ mo) → rfL S X n w N m row mo be = (mo, be)
  | 0, _, _ => rfl
  | m + 1, row, h => by
    rw [rfL, if_neg (by have := h row; omega)]
    exact rfL_stop m (row + 1) h
/-- the class's search, stopped early, and all rows: the same -/
theorem fl_rf {S S' : Nat → Int → Int} {X : Nat → Int → Int} {n : Nat} {w B : Int} {N : Nat} (hp : pOk S) (hN : S 13 5 = N) (hX : twOk S X B) (hw : 0 ≤ w ∧ w ≤ 9) (hg : ∀ j : Int, 0 ≤ j → j < N → S' 246 j = rbF S X j 0 n w (X 1 5).toNat ∧ S' 247 j = rbF S X j 1 n w (X 1 5).toNat) :
    ∀ (f m : Nat) (row mo : Int) (be be' pl : Int → Int), m ≤ f → 0 ≤ row → row + (m : Int) = frN X N → (m = 0 → False) → (∀ j : Int, 0 ≤ j → j < N → pl j = plR X N row j) → (∀ j : Int, 0 ≤ j → j < N → be j = be' j) → (flL S (S' 246) (S' 247) X (mpF S' N) N f mo be pl).1 = (rfL S X n w N m row mo be').1 ∧ ∀ j : Int, 0 ≤ j → j < N → (flL S (S' 246) (S' 247) X (mpF S' N) N f mo be pl).2 j = (rfL S X n w N m row mo be').2 j
  | 0, m, row, mo, be, be', pl, hf, h0, hr, hm, hpl, hbe => False.elim (hm (by omega))
  | f + 1, 0, row, mo, be, be', pl, hf, h0, hr, hm, hpl, hbe => False.elim (hm rfl)
  | f + 1, m + 1, row, mo, be, be', pl, hf, h0, hr, hm, hpl, hbe => by
    have hk : 2 ≤ X 1 5 ∧ X 1 5 ≤ 5 := ⟨hX.1.1, hX.1.2.1⟩
    have hpr : ∀ r, ∀ i : Int, 0 ≤ i → i < N → 0 ≤ plR X N r i ∧ plR X N r i < X 1 5 := fun r => plR_in hk N r (fun j a b => ⟨(hX.2.1 j a (by omega)).1.1, hX.2.2 j a (by omega)⟩)
    have hpi : ∀ i : Int, 0 ≤ i → i < N → 0 ≤ pl i ∧ pl i < X 1 5 := fun i a b => by rw [hpl i a b]; exact hpr row i a b
    have er : rhF (S' 246) (S' 247) pl (abF S pl N) N = rdC S X n w (plR X N row) N := by
      rw [rh_rd hN hk hpi hg N (Nat.le_refl _)]
      exact rdC_c hp hN hX hw (hpr row) hpl
    have hposs : ∀ r, rdC S X n w (plR X N r) N ≤ mpF S' N := by
      intro r
      have e := rh_rd hN hk (hpr r) hg N (Nat.le_refl _)
      have := rh_mp (S' := S') (pl := plR X N r) (ab := abF S (plR X N r) N) N (fun i a b => by have := hpr r i a b; omega)
      unfold rdC
      rw [← e]
      exact this
    obtain ⟨n1, n2, -⟩ := npF_R hk N pl row hpl h0 (by omega)
    rw [flL, rfL, er]
    have cont : ∀ (mo2 : Int) (b1 b2 : Int → Int), (∀ j : Int, 0 ≤ j → j < N → b1 j = b2 j) → ((if mo2 < mpF S' N ∧ (npF X N pl).1 = 1 then flL S (S' 246) (S' 247) X (mpF S' N) N f mo2 b1 (npF X N pl).2 else (mo2, b1)).1 = (rfL S X n w N m (row + 1) mo2 b2).1 ∧ ∀ j : Int, 0 ≤ j → j < N → (if mo2 < mpF S' N ∧ (npF X N pl).1 = 1 then flL S (S' 246) (S' 247) X (mpF S' N) N f mo2 b1 (npF X N pl).2 else (mo2, b1)).2 j = (rfL S X n w N m (row + 1) mo2 b2).2 j) := by
      intro mo2 b1 b2 hb
      by_cases c : mo2 < mpF S' N
      · by_cases c2 : row + 1 < frN X N
        · obtain ⟨s1, s2⟩ := n1 c2
          rw [if_pos ⟨c, s1⟩]
          exact fl_rf hp hN hX hw hg f m (row + 1) mo2 b1 b2 _ (by omega) (by omega) (by omega) (fun q => by omega) s2 hb
        · have s1 := n2 c2
          rw [if_neg (fun q => by omega)]
          obtain rfl : m = 0 := by omega
          exact ⟨rfl, hb⟩
      · rw [if_neg (fun q => c q.1), rfL_stop m (row + 1) (fun r => by have := hposs r; omega)]
        exact ⟨rfl, hb⟩
    by_cases c : mo < rdC S X n w (plR X N row) N
    · rw [if_pos c, if_pos c]
      exact cont _ pl _ hpl
    · rw [if_neg c, if_neg c]
      exact cont mo be be' hbe
