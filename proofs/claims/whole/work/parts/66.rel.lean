/-! the relation between the class and the reference; the questions' steps -/
/-- a page of the book, and the row's tower -/
def pgP (S U M : Nat → Int → Int) (i B : Int) : Prop := (∀ k, 0 ≤ k → k < 5 → U 2 k = M 16 (16 * i + k)) ∧ (∀ p, 0 ≤ p → p < S 13 5 → U 9 p = M 16 (16 * i + 5 + p) ∧ U 10 p = M 16 (16 * i + 10 + p)) ∧ U 1 6 = M 16 (16 * i + 15) ∧ (∀ k, 0 ≤ k → k < 5 → 0 ≤ U 2 k) ∧ U 2 0 + U 2 1 + U 2 2 + U 2 3 + U 2 4 ≤ B ∧ ∀ p, 0 ≤ p → p < S 13 5 → (0 ≤ U 9 p ∧ U 9 p ≤ 9) ∧ (0 ≤ U 10 p ∧ U 10 p ≤ 3) ∧ (U 10 p = 0 → U 9 p < S 17 p)
/-- a slot's page, and the slot's tower -/
def slP (S U T0 M : Nat → Int → Int) (s B : Int) : Prop := twOk S U B ∧ U 1 5 = T0 1 5 ∧ U 1 6 = M 17 (36 * s + 30) ∧ (∀ k, 0 ≤ k → k < 5 → U 2 k = M 17 (36 * s + k) ∧ U 3 k = M 17 (36 * s + 5 + k) ∧ U 4 k = M 17 (36 * s + 10 + k)) ∧ ∀ p, 0 ≤ p → p < S 13 5 → U 8 p = M 17 (36 * s + 15 + p) ∧ U 9 p = M 17 (36 * s + 20 + p) ∧ U 10 p = M 17 (36 * s + 25 + p)
def Rel (S : Nat → Int → Int) (Tw : Nat → Nat → Int → Int) (M : Nat → Int → Int) (P : Nat → Nat) (B : Int) : Prop :=
  (xOk (S 1 1) (S 2) ∧ txP (S 1 1) (S 2) M) ∧ (pOk S ∧ tdP S M) ∧ (twOk S (Tw 0) B ∧ agr S (nX M) (Tw 0)) ∧
  (rowP P ∧ (0 ≤ S 30 1 ∧ S 30 1 ≤ 12) ∧ M 0 25 = S 30 1 ∧ ∀ i : Int, 0 ≤ i → i < S 30 1 → pgP S (Tw (P i.toNat)) M i B) ∧
  (∀ s : Int, 0 ≤ s → s < 2 → (S 187 s = 0 ∨ S 187 s = 1) ∧ M 18 s = S 187 s ∧ (S 187 s = 1 → slP S (Tw (13 + s.toNat)) (Tw 0) M s B)) ∧
  (nOk S ∧ cnP S M)
theorem twOk.le {S X : Nat → Int → Int} {B C : Int} (h : twOk S X B) (hB : B ≤ C) : twOk S X C := by
  obtain ⟨⟨t1, t2, t3, t4⟩, q, r⟩ := h
  exact ⟨⟨t1, t2, t3, by omega⟩, q, r⟩
theorem pgP.le {S U M : Nat → Int → Int} {i B C : Int} (h : pgP S U M i B) (hB : B ≤ C) : pgP S U M i C := by
  obtain ⟨h1, h2, h3, h4, h5, h6⟩ := h
  exact ⟨h1, h2, h3, h4, by omega, h6⟩
theorem slP.le {S U T0 M : Nat → Int → Int} {s B C : Int} (h : slP S U T0 M s B) (hB : B ≤ C) : slP S U T0 M s C := ⟨h.1.le hB, h.2⟩
section ST
variable {S S' : Nat → Int → Int} {Tw Tw' : Nat → Nat → Int → Int} {M M' : Nat → Int → Int} {P : Nat → Nat} {B : Int}
theorem Rel.le {C : Int} (h : Rel S Tw M P B) (hB : B ≤ C) : Rel S Tw M P C := by
  obtain ⟨h1, h2, h3, h4, h5, h6⟩ := h
  refine ⟨h1, h2, ⟨h3.1.le hB, h3.2⟩, ⟨h4.1, h4.2.1, h4.2.2.1, fun i a b => (h4.2.2.2 i a b).le hB⟩, fun s a b => ?_, h6⟩
  obtain ⟨y1, y2, y3⟩ := h5 s a b
  exact ⟨y1, y2, fun q => (y3 q).le hB⟩
theorem Rel.tw (h : Rel S Tw M P B) (ht : ∀ t, t ≤ 14 → Tw' t = Tw t) : Rel S Tw' M P B := by
  obtain ⟨h1, h2, h3, h4, h5, h6⟩ := h
  refine ⟨h1, h2, by rw [ht 0 (by decide)]; exact h3, ⟨h4.1, h4.2.1, h4.2.2.1, fun i a b => ?_⟩, fun s a b => ?_, h6⟩
  · have := h4.1.1 i.toNat (by have := h4.2.1; omega)
    rw [ht _ (by omega)]
    exact h4.2.2.2 i a b
  · rw [ht 0 (by decide), ht _ (by omega)]
    exact h5 s a b
/-- what the relation reads of the class's cells, and of the reference's -/
def rsS (S : Nat → Int → Int) : Nat → Int → Int := fun c => if 3 ≤ c ∧ c ≤ 12 then (fun _ => 0) else if 205 ≤ c then (fun _ => 0) else S c
def rsM (M : Nat → Int → Int) : Nat → Int → Int := fun c => if c = 0 then (fun j => if j = 2 ∨ j = 4 ∨ j = 5 ∨ j = 17 ∨ j = 25 ∨ j = 35 then M 0 j else 0) else if 13 ≤ c ∧ c ≤ 15 then (fun _ => 0) else if 19 ≤ c ∧ c ≤ 24 then (fun _ => 0) else if c = 30 then (fun _ => 0) else if c = 31 then (fun _ => 0) else M c
theorem rsS_e (h : ∀ c, ¬ (3 ≤ c ∧ c ≤ 12) → ¬ 205 ≤ c → S' c = S c) : rsS S' = rsS S := by
  funext c
  unfold rsS
  by_cases c1 : 3 ≤ c ∧ c ≤ 12
  · rw [if_pos c1, if_pos c1]
  · by_cases c2 : 205 ≤ c
    · rw [if_neg c1, if_neg c1, if_pos c2, if_pos c2]
    · rw [if_neg c1, if_neg c1, if_neg c2, if_neg c2, h c c1 c2]
theorem rsM_e (h : quFr M M') : rsM M' = rsM M := by
  funext c
  unfold rsM
  by_cases c0 : c = 0
  · rw [if_pos c0, if_pos c0]
    funext j
    by_cases cj : j = 2 ∨ j = 4 ∨ j = 5 ∨ j = 17 ∨ j = 25 ∨ j = 35
    · rw [if_pos cj, if_pos cj, h.2 j cj]
    · rw [if_neg cj, if_neg cj]
  · by_cases c1 : 13 ≤ c ∧ c ≤ 15
    · rw [if_neg c0, if_neg c0, if_pos c1, if_pos c1]
    · by_cases c2 : 19 ≤ c ∧ c ≤ 24
      · rw [if_neg c0, if_neg c0, if_neg c1, if_neg c1, if_pos c2, if_pos c2]
      · by_cases c3 : c = 30
        · rw [if_neg c0, if_neg c0, if_neg c1, if_neg c1, if_neg c2, if_neg c2, if_pos c3, if_pos c3]
        · by_cases c4 : c = 31
          · rw [if_neg c0, if_neg c0, if_neg c1, if_neg c1, if_neg c2, if_neg c2, if_neg c3, if_neg c3, if_pos c4, if_pos c4]
          · rw [if_neg c0, if_neg c0, if_neg c1, if_neg c1, if_neg c2, if_neg c2, if_neg c3, if_neg c3, if_neg c4, if_neg c4, h.1 c c0 c1 c2 c3 c4]
theorem Rel_rs : Rel S Tw M P B = Rel (rsS S) Tw (rsM M) P B := rfl
theorem Rel.q (h : Rel S Tw M P B) (hS : ∀ c, ¬ (3 ≤ c ∧ c ≤ 12) → ¬ 205 ≤ c → S' c = S c) (ht : ∀ t, t ≤ 14 → Tw' t = Tw t) (hM : quFr M M') : Rel S' Tw' M' P (B + 180) := by
  have h2 := (h.le (show B ≤ B + 180 by omega)).tw ht
  rw [Rel_rs, rsS_e hS, rsM_e hM, ← Rel_rs]
  exact h2
/-- both answer a, and stand alike again -/
def okI (B a : Int) : Option Value → GH → Prop := fun v h => v = some (.int (iI a)) ∧ ∃ (S' : Nat → Int → Int) (Tw' : Nat → Nat → Int → Int) (M' : Nat → Int → Int) (P' : Nat → Nat), h = hO S' Tw' M' P' ∧ Rel S' Tw' M' P' (B + 180)
def okL (B : Int) (a : Int64) : Option Value → GH → Prop := fun v h => v = some (.long a) ∧ ∃ (S' : Nat → Int → Int) (Tw' : Nat → Nat → Int → Int) (M' : Nat → Int → Int) (P' : Nat → Nat), h = hO S' Tw' M' P' ∧ Rel S' Tw' M' P' (B + 180)
def stepI (x m : Nat) (as : List Value) (S : Nat → Int → Int) (Tw : Nat → Nat → Int → Int) (M : Nat → Int → Int) (P : Nat → Nat) (B : Int) : Prop := CallD 40 x (.ref 0 :: as) (hO S Tw M P) (fun v h => ∃ a, v = some (.int (iI a)) ∧ (∃ (S' : Nat → Int → Int) (Tw' : Nat → Nat → Int → Int) (P' : Nat → Nat), h = hO S' Tw' M P') ∧ CallD 40 m (.ref 248 :: as) h (okI B a))
def stepL (x m : Nat) (as : List Value) (S : Nat → Int → Int) (Tw : Nat → Nat → Int → Int) (M : Nat → Int → Int) (P : Nat → Nat) (B : Int) : Prop := CallD 40 x (.ref 0 :: as) (hO S Tw M P) (fun v h => ∃ a, v = some (.long a) ∧ (∃ (S' : Nat → Int → Int) (Tw' : Nat → Nat → Int → Int) (P' : Nat → Nat), h = hO S' Tw' M P') ∧ CallD 40 m (.ref 248 :: as) h (okL B a))
/-- nothing of what the relation reads has changed -/
theorem Rel.fin {a b : Int} (h : Rel S Tw M P B) (hS : ∀ c, ¬ (3 ≤ c ∧ c ≤ 12) → ¬ 205 ≤ c → S' c = S c) (ht : ∀ t, t ≤ 14 → Tw' t = Tw t) (hM : quFr M M') (e : b = a) : okI B a (some (.int (iI b))) (hO S' Tw' M' P) := ⟨by rw [e], S', Tw', M', P, rfl, h.q hS ht hM⟩
theorem Rel.finL {a b : Int64} (h : Rel S Tw M P B) (hS : ∀ c, ¬ (3 ≤ c ∧ c ≤ 12) → ¬ 205 ≤ c → S' c = S c) (ht : ∀ t, t ≤ 14 → Tw' t = Tw t) (hM : quFr M M') (e : b = a) : okL B a (some (.long b)) (hO S' Tw' M' P) := ⟨by rw [e], S', Tw', M', P, rfl, h.q hS ht hM⟩
theorem fr15 (h : frT 15 Tw Tw') : ∀ t, t ≤ 14 → Tw' t = Tw t := fun t ht => h t (by omega)
theorem st_about (h : Rel S Tw M P B) {x : Int} (hx : R32 x) : stepI 87 130 [.int (iI x)] S Tw M P B := by
  obtain ⟨⟨hx1, hx2⟩, ⟨hp, ht⟩, ⟨hX, ha⟩, ⟨hr1, hr2, hr3, hr4⟩, hs, ⟨hc1, hc2⟩⟩ := id h
  have e4 : M 0 4 = Tw 0 1 5 := ha.1
  have e5 : M 0 5 = S 13 5 := ht.1.symm
  have b4 : 2 ≤ Tw 0 1 5 ∧ Tw 0 1 5 ≤ 5 := ⟨hX.1.1, hX.1.2.1⟩
  have b5 : 0 ≤ S 13 5 ∧ S 13 5 ≤ 5 := ⟨hp.1, hp.2.1⟩
  have e2 : M 0 2 = S 1 1 := hx2.1
  have e17 : M 0 17 = Tw 0 1 6 := ha.2.1
  have e35 : M 0 35 = S 199 7 := hc2.1
  have eh : sumF (M 4) (M 0 4).toNat = sumF (Tw 0 2) (Tw 0 1 5).toNat := by
    rw [e4]
    exact sumF_lo (fun k a b => (ha.2.2.1 k a (by omega)).1)
  have ec : ∀ z : Int, cntF (fun i => M 12 i = z) (M 0 5).toNat = cntF (fun i => Tw 0 10 i = z) (S 13 5).toNat := fun z => by
    rw [e5]
    refine cntF_congr (fun i a b => ?_)
    have := (ha.2.2.2 i a (by omega)).2.2
    change M 12 i = Tw 0 10 i at this
    rw [this]
  have r12 : ∀ i, 0 ≤ i → i < M 0 5 → R32 (M 12 i) := fun i a b => by
    have y1 := (ha.2.2.2 i a (by omega)).2.2
    change M 12 i = Tw 0 10 i at y1
    have := (hX.2.1 i a (by omega)).2.2.1
    omega
  have fn : ∀ {a b : Int} {M1 : Nat → Int → Int}, thP M M1 → b = a → okI B a (some (.int (iI b))) (hO S Tw M1 P) := fun h1 e => h.fin (fun _ _ _ => rfl) (fun _ _ => rfl) h1.q e
  unfold stepI
  refine s_X11_about hx hp hX.2.1 b4 (fun c => ⟨_, rfl, ⟨_, _, _, rfl⟩, ?_⟩) (fun c => ⟨_, rfl, ⟨_, _, _, rfl⟩, ?_⟩) (fun c => ⟨_, rfl, ⟨_, _, _, rfl⟩, ?_⟩) (fun c => ⟨_, rfl, ⟨_, _, _, rfl⟩, ?_⟩) (fun c => ⟨_, rfl, ⟨_, _, _, rfl⟩, ?_⟩) (fun c => ⟨_, rfl, ⟨_, _, _, rfl⟩, ?_⟩) (fun c => ⟨_, rfl, ⟨_, _, _, rfl⟩, ?_⟩) (fun c => ⟨_, rfl, ⟨_, _, _, rfl⟩, ?_⟩) (fun c => ⟨_, rfl, ⟨_, _, _, rfl⟩, ?_⟩) (fun c => ⟨_, rfl, ⟨_, _, _, rfl⟩, ?_⟩) (fun c => ⟨_, rfl, ⟨_, _, _, rfl⟩, ?_⟩)
  · exact s_X12_about hx (by omega) (by omega) r12 (fun _ M1 h1 => fn h1 e4) (fun c2 M1 h1 => False.elim (by omega)) (fun c2 M1 h1 => False.elim (by omega)) (fun c2 M1 h1 => False.elim (by omega)) (fun c2 M1 h1 => False.elim (by omega)) (fun c2 M1 h1 => False.elim (by omega)) (fun c2 M1 h1 => False.elim (by omega)) (fun c2 M1 h1 => False.elim (by omega)) (fun c2 M1 h1 => False.elim (by omega)) (fun c2 M1 h1 => False.elim (by omega)) (fun c2 M1 h1 => False.elim (by omega))
  · exact s_X12_about hx (by omega) (by omega) r12 (fun c2 M1 h1 => False.elim (by omega)) (fun _ M1 h1 => fn h1 e5) (fun c2 M1 h1 => False.elim (by omega)) (fun c2 M1 h1 => False.elim (by omega)) (fun c2 M1 h1 => False.elim (by omega)) (fun c2 M1 h1 => False.elim (by omega)) (fun c2 M1 h1 => False.elim (by omega)) (fun c2 M1 h1 => False.elim (by omega)) (fun c2 M1 h1 => False.elim (by omega)) (fun c2 M1 h1 => False.elim (by omega)) (fun c2 M1 h1 => False.elim (by omega))
  · exact s_X12_about hx (by omega) (by omega) r12 (fun c2 M1 h1 => False.elim (by omega)) (fun c2 M1 h1 => False.elim (by omega)) (fun _ M1 h1 => fn h1 hr3) (fun c2 M1 h1 => False.elim (by omega)) (fun c2 M1 h1 => False.elim (by omega)) (fun c2 M1 h1 => False.elim (by omega)) (fun c2 M1 h1 => False.elim (by omega)) (fun c2 M1 h1 => False.elim (by omega)) (fun c2 M1 h1 => False.elim (by omega)) (fun c2 M1 h1 => False.elim (by omega)) (fun c2 M1 h1 => False.elim (by omega))
  · exact s_X12_about hx (by omega) (by omega) r12 (fun c2 M1 h1 => False.elim (by omega)) (fun c2 M1 h1 => False.elim (by omega)) (fun c2 M1 h1 => False.elim (by omega)) (fun _ M1 h1 => fn h1 eh) (fun c2 M1 h1 => False.elim (by omega)) (fun c2 M1 h1 => False.elim (by omega)) (fun c2 M1 h1 => False.elim (by omega)) (fun c2 M1 h1 => False.elim (by omega)) (fun c2 M1 h1 => False.elim (by omega)) (fun c2 M1 h1 => False.elim (by omega)) (fun c2 M1 h1 => False.elim (by omega))
  · exact s_X12_about hx (by omega) (by omega) r12 (fun c2 M1 h1 => False.elim (by omega)) (fun c2 M1 h1 => False.elim (by omega)) (fun c2 M1 h1 => False.elim (by omega)) (fun c2 M1 h1 => False.elim (by omega)) (fun _ M1 h1 => fn h1 e17) (fun c2 M1 h1 => False.elim (by omega)) (fun c2 M1 h1 => False.elim (by omega)) (fun c2 M1 h1 => False.elim (by omega)) (fun c2 M1 h1 => False.elim (by omega)) (fun c2 M1 h1 => False.elim (by omega)) (fun c2 M1 h1 => False.elim (by omega))
  · exact s_X12_about hx (by omega) (by omega) r12 (fun c2 M1 h1 => False.elim (by omega)) (fun c2 M1 h1 => False.elim (by omega)) (fun c2 M1 h1 => False.elim (by omega)) (fun c2 M1 h1 => False.elim (by omega)) (fun c2 M1 h1 => False.elim (by omega)) (fun _ M1 h1 => fn h1 (ec 1)) (fun c2 M1 h1 => False.elim (by omega)) (fun c2 M1 h1 => False.elim (by omega)) (fun c2 M1 h1 => False.elim (by omega)) (fun c2 M1 h1 => False.elim (by omega)) (fun c2 M1 h1 => False.elim (by omega))
  · exact s_X12_about hx (by omega) (by omega) r12 (fun c2 M1 h1 => False.elim (by omega)) (fun c2 M1 h1 => False.elim (by omega)) (fun c2 M1 h1 => False.elim (by omega)) (fun c2 M1 h1 => False.elim (by omega)) (fun c2 M1 h1 => False.elim (by omega)) (fun c2 M1 h1 => False.elim (by omega)) (fun _ M1 h1 => fn h1 (ec 2)) (fun c2 M1 h1 => False.elim (by omega)) (fun c2 M1 h1 => False.elim (by omega)) (fun c2 M1 h1 => False.elim (by omega)) (fun c2 M1 h1 => False.elim (by omega))
  · exact s_X12_about hx (by omega) (by omega) r12 (fun c2 M1 h1 => False.elim (by omega)) (fun c2 M1 h1 => False.elim (by omega)) (fun c2 M1 h1 => False.elim (by omega)) (fun c2 M1 h1 => False.elim (by omega)) (fun c2 M1 h1 => False.elim (by omega)) (fun c2 M1 h1 => False.elim (by omega)) (fun c2 M1 h1 => False.elim (by omega)) (fun _ M1 h1 => fn h1 (ec 3)) (fun c2 M1 h1 => False.elim (by omega)) (fun c2 M1 h1 => False.elim (by omega)) (fun c2 M1 h1 => False.elim (by omega))
  · exact s_X12_about hx (by omega) (by omega) r12 (fun c2 M1 h1 => False.elim (by omega)) (fun c2 M1 h1 => False.elim (by omega)) (fun c2 M1 h1 => False.elim (by omega)) (fun c2 M1 h1 => False.elim (by omega)) (fun c2 M1 h1 => False.elim (by omega)) (fun c2 M1 h1 => False.elim (by omega)) (fun c2 M1 h1 => False.elim (by omega)) (fun c2 M1 h1 => False.elim (by omega)) (fun _ M1 h1 => fn h1 e35) (fun c2 M1 h1 => False.elim (by omega)) (fun c2 M1 h1 => False.elim (by omega))
  · exact s_X12_about hx (by omega) (by omega) r12 (fun c2 M1 h1 => False.elim (by omega)) (fun c2 M1 h1 => False.elim (by omega)) (fun c2 M1 h1 => False.elim (by omega)) (fun c2 M1 h1 => False.elim (by omega)) (fun c2 M1 h1 => False.elim (by omega)) (fun c2 M1 h1 => False.elim (by omega)) (fun c2 M1 h1 => False.elim (by omega)) (fun c2 M1 h1 => False.elim (by omega)) (fun c2 M1 h1 => False.elim (by omega)) (fun _ M1 h1 => fn h1 e2) (fun c2 M1 h1 => False.elim (by omega))
  · exact s_X12_about hx (by omega) (by omega) r12 (fun c2 M1 h1 => False.elim (by omega)) (fun c2 M1 h1 => False.elim (by omega)) (fun c2 M1 h1 => False.elim (by omega)) (fun c2 M1 h1 => False.elim (by omega)) (fun c2 M1 h1 => False.elim (by omega)) (fun c2 M1 h1 => False.elim (by omega)) (fun c2 M1 h1 => False.elim (by omega)) (fun c2 M1 h1 => False.elim (by omega)) (fun c2 M1 h1 => False.elim (by omega)) (fun c2 M1 h1 => False.elim (by omega)) (fun _ M1 h1 => fn h1 rfl)
theorem st_kiln (h : Rel S Tw M P B) {k x : Int} (hk : R32 k) (hx : R32 x) : stepI 88 131 [.int (iI k), .int (iI x)] S Tw M P B := by
  obtain ⟨⟨hx1, hx2⟩, ⟨hp, ht⟩, ⟨hX, ha⟩, ⟨hr1, hr2, hr3, hr4⟩, hs, ⟨hc1, hc2⟩⟩ := id h
  have e4 : M 0 4 = Tw 0 1 5 := ha.1
  have e5 : M 0 5 = S 13 5 := ht.1.symm
  have b4 : 2 ≤ Tw 0 1 5 ∧ Tw 0 1 5 ≤ 5 := ⟨hX.1.1, hX.1.2.1⟩
  have b5 : 0 ≤ S 13 5 ∧ S 13 5 ≤ 5 := ⟨hp.1, hp.2.1⟩
  have e2 : 0 ≤ k ∧ k < Tw 0 1 5 → M 4 k = Tw 0 2 k := fun z => (ha.2.2.1 k z.1 (by omega)).1
  have e3 : 0 ≤ k ∧ k < Tw 0 1 5 → M 2 k = Tw 0 3 k := fun z => (ha.2.2.1 k z.1 (by omega)).2.1
  have e3' : 0 ≤ k ∧ k < Tw 0 1 5 → M 3 k = Tw 0 4 k := fun z => (ha.2.2.1 k z.1 (by omega)).2.2
  have m5 : ∀ i, 0 ≤ i → i < S 13 5 → M 5 i = Tw 0 8 i := fun i a b => (ha.2.2.2 i a b).1
  have es : setF (fun i => M 5 i = k) (M 0 5).toNat = setF (fun i => Tw 0 8 i = k) (S 13 5).toNat := by
    rw [e5]
    refine setF_congr (fun i a b => ?_)
    rw [m5 i a (by omega)]
  have r5 : ∀ i, 0 ≤ i → i < M 0 5 → R32 (M 5 i) := fun i a b => by
    rw [m5 i a (by omega)]
    have := (hX.2.1 i a (by omega)).1
    omega
  have fn : ∀ {a b : Int} {M1 : Nat → Int → Int}, thP M M1 → b = a → okI B a (some (.int (iI b))) (hO S Tw M1 P) := fun h1 e => h.fin (fun _ _ _ => rfl) (fun _ _ => rfl) h1.q e
  unfold stepI
  refine s_X11_kiln hk hx hp hX.2.1 b4 (fun z => ⟨_, rfl, ⟨_, _, _, rfl⟩, ?_⟩) (fun z c => ⟨_, rfl, ⟨_, _, _, rfl⟩, ?_⟩) (fun z c => ⟨_, rfl, ⟨_, _, _, rfl⟩, ?_⟩) (fun z c => ⟨_, rfl, ⟨_, _, _, rfl⟩, ?_⟩) (fun z c => ⟨_, rfl, ⟨_, _, _, rfl⟩, ?_⟩) (fun z c => ⟨_, rfl, ⟨_, _, _, rfl⟩, ?_⟩)
  · exact s_X12_kiln hk hx (by omega) (by omega) r5 (fun z2 M1 h1 => fn h1 rfl) (fun z2 c2 M1 h1 => False.elim (by omega)) (fun z2 c2 M1 h1 => False.elim (by omega)) (fun z2 c2 M1 h1 => False.elim (by omega)) (fun z2 c2 M1 h1 => False.elim (by omega)) (fun z2 c2 M1 h1 => False.elim (by omega))
  · exact s_X12_kiln hk hx (by omega) (by omega) r5 (fun z2 M1 h1 => False.elim (by omega)) (fun z2 c2 M1 h1 => fn h1 (e2 z)) (fun z2 c2 M1 h1 => False.elim (by omega)) (fun z2 c2 M1 h1 => False.elim (by omega)) (fun z2 c2 M1 h1 => False.elim (by omega)) (fun z2 c2 M1 h1 => False.elim (by omega))
  · exact s_X12_kiln hk hx (by omega) (by omega) r5 (fun z2 M1 h1 => False.elim (by omega)) (fun z2 c2 M1 h1 => False.elim (by omega)) (fun z2 c2 M1 h1 => fn h1 (e3 z)) (fun z2 c2 M1 h1 => False.elim (by omega)) (fun z2 c2 M1 h1 => False.elim (by omega)) (fun z2 c2 M1 h1 => False.elim (by omega))
  · exact s_X12_kiln hk hx (by omega) (by omega) r5 (fun z2 M1 h1 => False.elim (by omega)) (fun z2 c2 M1 h1 => False.elim (by omega)) (fun z2 c2 M1 h1 => False.elim (by omega)) (fun z2 c2 M1 h1 => fn h1 (e3' z)) (fun z2 c2 M1 h1 => False.elim (by omega)) (fun z2 c2 M1 h1 => False.elim (by omega))
  · exact s_X12_kiln hk hx (by omega) (by omega) r5 (fun z2 M1 h1 => False.elim (by omega)) (fun z2 c2 M1 h1 => False.elim (by omega)) (fun z2 c2 M1 h1 => False.elim (by omega)) (fun z2 c2 M1 h1 => False.elim (by omega)) (fun z2 c2 M1 h1 => fn h1 es) (fun z2 c2 M1 h1 => False.elim (by omega))
  · exact s_X12_kiln hk hx (by omega) (by omega) r5 (fun z2 M1 h1 => False.elim (by omega)) (fun z2 c2 M1 h1 => False.elim (by omega)) (fun z2 c2 M1 h1 => False.elim (by omega)) (fun z2 c2 M1 h1 => False.elim (by omega)) (fun z2 c2 M1 h1 => False.elim (by omega)) (fun z2 c2 M1 h1 => fn h1 rfl)
theorem st_pot (h : Rel S Tw M P B) {p x : Int} (hp0 : R32 p) (hx : R32 x) : stepI 89 132 [.int (iI p), .int (iI x)] S Tw M P B := by
  obtain ⟨⟨hx1, hx2⟩, ⟨hp, ht⟩, ⟨hX, ha⟩, ⟨hr1, hr2, hr3, hr4⟩, hs, ⟨hc1, hc2⟩⟩ := id h
  have e4 : M 0 4 = Tw 0 1 5 := ha.1
  have e5 : M 0 5 = S 13 5 := ht.1.symm
  have b4 : 2 ≤ Tw 0 1 5 ∧ Tw 0 1 5 ≤ 5 := ⟨hX.1.1, hX.1.2.1⟩
  have b5 : 0 ≤ S 13 5 ∧ S 13 5 ≤ 5 := ⟨hp.1, hp.2.1⟩
  have a8 : 0 ≤ p ∧ p < S 13 5 → M 5 p = Tw 0 8 p := fun z => (ha.2.2.2 p z.1 z.2).1
  have a9 : 0 ≤ p ∧ p < S 13 5 → M 11 p = Tw 0 9 p := fun z => (ha.2.2.2 p z.1 z.2).2.1
  have a10 : 0 ≤ p ∧ p < S 13 5 → M 12 p = Tw 0 10 p := fun z => (ha.2.2.2 p z.1 z.2).2.2
  have tt : 0 ≤ p ∧ p < S 13 5 → S 14 p = M 6 p ∧ S 15 p = M 7 p ∧ S 16 p = M 8 p ∧ S 17 p = M 9 p ∧ S 18 p = M 10 p := fun z => ht.2 p z.1 (by omega)
  have fn : ∀ {a b : Int} {M1 : Nat → Int → Int}, thP M M1 → b = a → okI B a (some (.int (iI b))) (hO S Tw M1 P) := fun h1 e => h.fin (fun _ _ _ => rfl) (fun _ _ => rfl) h1.q e
  unfold stepI
  refine s_X11_pot hp0 hx b5 (fun z => ⟨_, rfl, ⟨_, _, _, rfl⟩, ?_⟩) (fun z c => ⟨_, rfl, ⟨_, _, _, rfl⟩, ?_⟩) (fun z c => ⟨_, rfl, ⟨_, _, _, rfl⟩, ?_⟩) (fun z c => ⟨_, rfl, ⟨_, _, _, rfl⟩, ?_⟩) (fun z c => ⟨_, rfl, ⟨_, _, _, rfl⟩, ?_⟩) (fun z c => ⟨_, rfl, ⟨_, _, _, rfl⟩, ?_⟩) (fun z c => ⟨_, rfl, ⟨_, _, _, rfl⟩, ?_⟩) (fun z c => ⟨_, rfl, ⟨_, _, _, rfl⟩, ?_⟩) (fun z c => ⟨_, rfl, ⟨_, _, _, rfl⟩, ?_⟩) (fun z c => ⟨_, rfl, ⟨_, _, _, rfl⟩, ?_⟩)
  · exact s_X12_pot hp0 hx (by omega) (fun z2 M1 h1 => fn h1 rfl) (fun z2 c2 M1 h1 => False.elim (by omega)) (fun z2 c2 M1 h1 => False.elim (by omega)) (fun z2 c2 M1 h1 => False.elim (by omega)) (fun z2 c2 M1 h1 => False.elim (by omega)) (fun z2 c2 M1 h1 => False.elim (by omega)) (fun z2 c2 M1 h1 => False.elim (by omega)) (fun z2 c2 M1 h1 => False.elim (by omega)) (fun z2 c2 M1 h1 => False.elim (by omega)) (fun z2 c2 M1 h1 => False.elim (by omega))
  · exact s_X12_pot hp0 hx (by omega) (fun z2 M1 h1 => False.elim (by omega)) (fun z2 c2 M1 h1 => fn h1 (a8 z)) (fun z2 c2 M1 h1 => False.elim (by omega)) (fun z2 c2 M1 h1 => False.elim (by omega)) (fun z2 c2 M1 h1 => False.elim (by omega)) (fun z2 c2 M1 h1 => False.elim (by omega)) (fun z2 c2 M1 h1 => False.elim (by omega)) (fun z2 c2 M1 h1 => False.elim (by omega)) (fun z2 c2 M1 h1 => False.elim (by omega)) (fun z2 c2 M1 h1 => False.elim (by omega))
  · exact s_X12_pot hp0 hx (by omega) (fun z2 M1 h1 => False.elim (by omega)) (fun z2 c2 M1 h1 => False.elim (by omega)) (fun z2 c2 M1 h1 => fn h1 (tt z).1.symm) (fun z2 c2 M1 h1 => False.elim (by omega)) (fun z2 c2 M1 h1 => False.elim (by omega)) (fun z2 c2 M1 h1 => False.elim (by omega)) (fun z2 c2 M1 h1 => False.elim (by omega)) (fun z2 c2 M1 h1 => False.elim (by omega)) (fun z2 c2 M1 h1 => False.elim (by omega)) (fun z2 c2 M1 h1 => False.elim (by omega))
  · exact s_X12_pot hp0 hx (by omega) (fun z2 M1 h1 => False.elim (by omega)) (fun z2 c2 M1 h1 => False.elim (by omega)) (fun z2 c2 M1 h1 => False.elim (by omega)) (fun z2 c2 M1 h1 => fn h1 (tt z).2.1.symm) (fun z2 c2 M1 h1 => False.elim (by omega)) (fun z2 c2 M1 h1 => False.elim (by omega)) (fun z2 c2 M1 h1 => False.elim (by omega)) (fun z2 c2 M1 h1 => False.elim (by omega)) (fun z2 c2 M1 h1 => False.elim (by omega)) (fun z2 c2 M1 h1 => False.elim (by omega))
  · exact s_X12_pot hp0 hx (by omega) (fun z2 M1 h1 => False.elim (by omega)) (fun z2 c2 M1 h1 => False.elim (by omega)) (fun z2 c2 M1 h1 => False.elim (by omega)) (fun z2 c2 M1 h1 => False.elim (by omega)) (fun z2 c2 M1 h1 => fn h1 (tt z).2.2.1.symm) (fun z2 c2 M1 h1 => False.elim (by omega)) (fun z2 c2 M1 h1 => False.elim (by omega)) (fun z2 c2 M1 h1 => False.elim (by omega)) (fun z2 c2 M1 h1 => False.elim (by omega)) (fun z2 c2 M1 h1 => False.elim (by omega))
  · exact s_X12_pot hp0 hx (by omega) (fun z2 M1 h1 => False.elim (by omega)) (fun z2 c2 M1 h1 => False.elim (by omega)) (fun z2 c2 M1 h1 => False.elim (by omega)) (fun z2 c2 M1 h1 => False.elim (by omega)) (fun z2 c2 M1 h1 => False.elim (by omega)) (fun z2 c2 M1 h1 => fn h1 (tt z).2.2.2.1.symm) (fun z2 c2 M1 h1 => False.elim (by omega)) (fun z2 c2 M1 h1 => False.elim (by omega)) (fun z2 c2 M1 h1 => False.elim (by omega)) (fun z2 c2 M1 h1 => False.elim (by omega))
  · exact s_X12_pot hp0 hx (by omega) (fun z2 M1 h1 => False.elim (by omega)) (fun z2 c2 M1 h1 => False.elim (by omega)) (fun z2 c2 M1 h1 => False.elim (by omega)) (fun z2 c2 M1 h1 => False.elim (by omega)) (fun z2 c2 M1 h1 => False.elim (by omega)) (fun z2 c2 M1 h1 => False.elim (by omega)) (fun z2 c2 M1 h1 => fn h1 (tt z).2.2.2.2.symm) (fun z2 c2 M1 h1 => False.elim (by omega)) (fun z2 c2 M1 h1 => False.elim (by omega)) (fun z2 c2 M1 h1 => False.elim (by omega))
  · exact s_X12_pot hp0 hx (by omega) (fun z2 M1 h1 => False.elim (by omega)) (fun z2 c2 M1 h1 => False.elim (by omega)) (fun z2 c2 M1 h1 => False.elim (by omega)) (fun z2 c2 M1 h1 => False.elim (by omega)) (fun z2 c2 M1 h1 => False.elim (by omega)) (fun z2 c2 M1 h1 => False.elim (by omega)) (fun z2 c2 M1 h1 => False.elim (by omega)) (fun z2 c2 M1 h1 => fn h1 (a9 z)) (fun z2 c2 M1 h1 => False.elim (by omega)) (fun z2 c2 M1 h1 => False.elim (by omega))
  · exact s_X12_pot hp0 hx (by omega) (fun z2 M1 h1 => False.elim (by omega)) (fun z2 c2 M1 h1 => False.elim (by omega)) (fun z2 c2 M1 h1 => False.elim (by omega)) (fun z2 c2 M1 h1 => False.elim (by omega)) (fun z2 c2 M1 h1 => False.elim (by omega)) (fun z2 c2 M1 h1 => False.elim (by omega)) (fun z2 c2 M1 h1 => False.elim (by omega)) (fun z2 c2 M1 h1 => False.elim (by omega)) (fun z2 c2 M1 h1 => fn h1 (a10 z)) (fun z2 c2 M1 h1 => False.elim (by omega))
  · exact s_X12_pot hp0 hx (by omega) (fun z2 M1 h1 => False.elim (by omega)) (fun z2 c2 M1 h1 => False.elim (by omega)) (fun z2 c2 M1 h1 => False.elim (by omega)) (fun z2 c2 M1 h1 => False.elim (by omega)) (fun z2 c2 M1 h1 => False.elim (by omega)) (fun z2 c2 M1 h1 => False.elim (by omega)) (fun z2 c2 M1 h1 => False.elim (by omega)) (fun z2 c2 M1 h1 => False.elim (by omega)) (fun z2 c2 M1 h1 => False.elim (by omega)) (fun z2 c2 M1 h1 => fn h1 rfl)
theorem st_warm (h : Rel S Tw M P B) (hB : B ≤ 700000) {k n w : Int} (hk : R32 k) (hn : R32 n) (hw : R32 w) : stepI 95 145 [.int (iI k), .int (iI n), .int (iI w)] S Tw M P B := by
  obtain ⟨⟨hx1, hx2⟩, ⟨hp, ht⟩, ⟨hX, ha⟩, ⟨hr1, hr2, hr3, hr4⟩, hs, ⟨hc1, hc2⟩⟩ := id h
  have e4 : M 0 4 = Tw 0 1 5 := ha.1
  have e5 : M 0 5 = S 13 5 := ht.1.symm
  have b4 : 2 ≤ Tw 0 1 5 ∧ Tw 0 1 5 ≤ 5 := ⟨hX.1.1, hX.1.2.1⟩
  have b5 : 0 ≤ S 13 5 ∧ S 13 5 ≤ 5 := ⟨hp.1, hp.2.1⟩
  unfold stepI
  refine s_X11_warm hk hn hw hX.1 (by omega) (fun z => ⟨_, rfl, ⟨_, _, _, rfl⟩, ?_⟩) (fun z y => ⟨_, rfl, ⟨_, _, _, rfl⟩, ?_⟩) (fun z y Tw' f => ⟨_, rfl, ⟨_, _, _, rfl⟩, ?_⟩)
  · exact s_X12_warm hk hn hw ht hp ha hX (by omega) (fun _ M1 h1 => h.fin (fun _ _ _ => rfl) (fun _ _ => rfl) h1 rfl) (fun z2 _ _ _ => absurd z2 z) (fun z2 _ _ _ => absurd z2 z)
  · exact s_X12_warm hk hn hw ht hp ha hX (by omega) (fun z2 _ _ => absurd z z2) (fun _ _ M1 h1 => h.fin (fun _ _ _ => rfl) (fun _ _ => rfl) h1 rfl) (fun _ y2 _ _ => absurd y2 y)
  · exact s_X12_warm hk hn hw ht hp ha hX (by omega) (fun z2 _ _ => absurd z z2) (fun _ y2 _ _ => absurd y y2) (fun _ _ M1 h1 => h.fin (fun _ _ _ => rfl) (fr15 f) h1 rfl)
theorem st_then (h : Rel S Tw M P B) (hB : B ≤ 700000) {p n w : Int} (hp0 : R32 p) (hn : R32 n) (hw : R32 w) : stepI 96 146 [.int (iI p), .int (iI n), .int (iI w)] S Tw M P B := by
  obtain ⟨⟨hx1, hx2⟩, ⟨hp, ht⟩, ⟨hX, ha⟩, ⟨hr1, hr2, hr3, hr4⟩, hs, ⟨hc1, hc2⟩⟩ := id h
  have e4 : M 0 4 = Tw 0 1 5 := ha.1
  have e5 : M 0 5 = S 13 5 := ht.1.symm
  have b4 : 2 ≤ Tw 0 1 5 ∧ Tw 0 1 5 ≤ 5 := ⟨hX.1.1, hX.1.2.1⟩
  have b5 : 0 ≤ S 13 5 ∧ S 13 5 ≤ 5 := ⟨hp.1, hp.2.1⟩
  unfold stepI
  refine s_X11_then hp0 hn hw hp hX (by omega) (fun z => ⟨_, rfl, ⟨_, _, _, rfl⟩, ?_⟩) (fun z y => ⟨_, rfl, ⟨_, _, _, rfl⟩, ?_⟩) (fun z y Tw' f => ⟨_, rfl, ⟨_, _, _, rfl⟩, ?_⟩)
  · exact s_X12_then hp0 hn hw ht hp ha hX (by omega) (fun _ M1 h1 => h.fin (fun _ _ _ => rfl) (fun _ _ => rfl) h1 rfl) (fun z2 _ _ _ => absurd z2 z) (fun z2 _ _ _ => absurd z2 z)
  · exact s_X12_then hp0 hn hw ht hp ha hX (by omega) (fun z2 _ _ => absurd z z2) (fun _ _ M1 h1 => h.fin (fun _ _ _ => rfl) (fun _ _ => rfl) h1 rfl) (fun _ y2 _ _ => absurd y2 y)
  · exact s_X12_then hp0 hn hw ht hp ha hX (by omega) (fun z2 _ _ => absurd z z2) (fun _ y2 _ _ => absurd y y2) (fun _ _ M1 h1 => h.fin (fun _ _ _ => rfl) (fr15 f) h1 rfl)
theorem st_openFor (h : Rel S Tw M P B) (hB : B ≤ 700000) {k p n w : Int} (hk : R32 k) (hp0 : R32 p) (hn : R32 n) (hw : R32 w) : stepI 101 154 [.int (iI k), .int (iI p), .int (iI n), .int (iI w)] S Tw M P B := by
  obtain ⟨⟨hx1, hx2⟩, ⟨hp, ht⟩, ⟨hX, ha⟩, ⟨hr1, hr2, hr3, hr4⟩, hs, ⟨hc1, hc2⟩⟩ := id h
  have e4 : M 0 4 = Tw 0 1 5 := ha.1
  have e5 : M 0 5 = S 13 5 := ht.1.symm
  have b4 : 2 ≤ Tw 0 1 5 ∧ Tw 0 1 5 ≤ 5 := ⟨hX.1.1, hX.1.2.1⟩
  have b5 : 0 ≤ S 13 5 ∧ S 13 5 ≤ 5 := ⟨hp.1, hp.2.1⟩
  unfold stepI
  refine s_X11_openFor hk hp0 hn hw hp hX (by omega) (fun z => ⟨_, rfl, ⟨_, _, _, rfl⟩, ?_⟩) (fun z y => ⟨_, rfl, ⟨_, _, _, rfl⟩, ?_⟩) (fun z y Tw' f => ⟨_, rfl, ⟨_, _, _, rfl⟩, ?_⟩)
  · exact s_X12_openFor hk hp0 hn hw ht hp ha hX (by omega) (fun _ M1 h1 => h.fin (fun _ _ _ => rfl) (fun _ _ => rfl) h1 rfl) (fun z2 _ _ _ => absurd z2 z) (fun z2 _ _ _ => absurd z2 z)
  · exact s_X12_openFor hk hp0 hn hw ht hp ha hX (by omega) (fun z2 _ _ => absurd z z2) (fun _ _ M1 h1 => h.fin (fun _ _ _ => rfl) (fun _ _ => rfl) h1 rfl) (fun _ y2 _ _ => absurd y2 y)
  · exact s_X12_openFor hk hp0 hn hw ht hp ha hX (by omega) (fun z2 _ _ => absurd z z2) (fun _ y2 _ _ => absurd y y2) (fun _ _ M1 h1 => h.fin (fun _ _ _ => rfl) (fr15 f) h1 rfl)
theorem st_blame (h : Rel S Tw M P B) {k : Int} (hk : R32 k) : stepI 105 160 [.int (iI k)] S Tw M P B := by
  obtain ⟨⟨hx1, hx2⟩, ⟨hp, ht⟩, ⟨hX, ha⟩, ⟨hr1, hr2, hr3, hr4⟩, hs, ⟨hc1, hc2⟩⟩ := id h
  have e4 : M 0 4 = Tw 0 1 5 := ha.1
  have e5 : M 0 5 = S 13 5 := ht.1.symm
  have b4 : 2 ≤ Tw 0 1 5 ∧ Tw 0 1 5 ≤ 5 := ⟨hX.1.1, hX.1.2.1⟩
  have b5 : 0 ≤ S 13 5 ∧ S 13 5 ≤ 5 := ⟨hp.1, hp.2.1⟩
  unfold stepI
  refine s_X11_blame hk hc1 hX.1 (fun z => ⟨_, rfl, ⟨_, _, _, rfl⟩, ?_⟩) (fun z Tw' f => ⟨_, rfl, ⟨_, _, _, rfl⟩, ?_⟩)
  · exact s_X12_blame hk hc2 hc1 ha hX.1 (fun _ M1 h1 => h.fin (fun _ _ _ => rfl) (fun _ _ => rfl) h1 rfl) (fun z2 _ _ => absurd z2 z)
  · exact s_X12_blame hk hc2 hc1 ha hX.1 (fun z2 _ _ => absurd z z2) (fun _ M1 h1 => h.fin (fun _ _ _ => rfl) (fr15 f) h1 rfl)
theorem heat_le (hX : tOk (Tw 0) B) : 0 ≤ sumF (Tw 0 2) (Tw 0 1 5).toNat ∧ sumF (Tw 0 2) (Tw 0 1 5).toNat ≤ B := by
  obtain ⟨t1, t2, t3, t4⟩ := hX
  have z0 := (t3 0 (by decide) (by decide)).2.2.2
  have z1 := (t3 1 (by decide) (by decide)).2.2.2
  have z2 := (t3 2 (by decide) (by decide)).2.2.2
  have z3 := (t3 3 (by decide) (by decide)).2.2.2
  have z4 := (t3 4 (by decide) (by decide)).2.2.2
  have f5 : ∀ f : Int → Int, sumF f 2 = f 0 + f 1 ∧ sumF f 3 = f 0 + f 1 + f 2 ∧ sumF f 4 = f 0 + f 1 + f 2 + f 3 ∧ sumF f 5 = f 0 + f 1 + f 2 + f 3 + f 4 := fun f => by
    refine ⟨?_, ?_, ?_, ?_⟩
    · show 0 + f 0 + f 1 = _; omega
    · show 0 + f 0 + f 1 + f 2 = _; omega
    · show 0 + f 0 + f 1 + f 2 + f 3 = _; omega
    · show 0 + f 0 + f 1 + f 2 + f 3 + f 4 = _; omega
  obtain ⟨g2, g3, g4, g5⟩ := f5 (Tw 0 2)
  rcases (show Tw 0 1 5 = 2 ∨ Tw 0 1 5 = 3 ∨ Tw 0 1 5 = 4 ∨ Tw 0 1 5 = 5 by omega) with e | e | e | e <;> rw [e]
  · rw [show (2 : Int).toNat = 2 from rfl, g2]; omega
  · rw [show (3 : Int).toNat = 3 from rfl, g3]; omega
  · rw [show (4 : Int).toNat = 4 from rfl, g4]; omega
  · rw [show (5 : Int).toNat = 5 from rfl, g5]; omega
theorem st_owed (h : Rel S Tw M P B) (hB : B ≤ 700000) {k up : Int} (hk : R32 k) (hu : up = 0 ∨ up = 1) : stepI 106 161 [.int (iI k), .int (iI up)] S Tw M P B := by
  obtain ⟨⟨hx1, hx2⟩, ⟨hp, ht⟩, ⟨hX, ha⟩, ⟨hr1, hr2, hr3, hr4⟩, hs, ⟨hc1, hc2⟩⟩ := id h
  have e4 : M 0 4 = Tw 0 1 5 := ha.1
  have e5 : M 0 5 = S 13 5 := ht.1.symm
  have b4 : 2 ≤ Tw 0 1 5 ∧ Tw 0 1 5 ≤ 5 := ⟨hX.1.1, hX.1.2.1⟩
  have b5 : 0 ≤ S 13 5 ∧ S 13 5 ≤ 5 := ⟨hp.1, hp.2.1⟩
  have hle := heat_le hX.1
  unfold stepI
  refine s_X11_owed hk hu hX.1 (by omega) (by omega) (fun z => ⟨_, rfl, ⟨_, _, _, rfl⟩, ?_⟩) (fun z => ⟨_, rfl, ⟨_, _, _, rfl⟩, ?_⟩)
  · exact s_X12_owed hk hu ha hX.1 (by omega) (by omega) (fun _ M1 h1 => h.fin (fun _ _ _ => rfl) (fun _ _ => rfl) h1.q rfl) (fun z2 _ _ => absurd z2 z)
  · exact s_X12_owed hk hu ha hX.1 (by omega) (by omega) (fun z2 _ _ => absurd z z2) (fun _ M1 h1 => h.fin (fun _ _ _ => rfl) (fun _ _ => rfl) h1.q rfl)
theorem st_gales (h : Rel S Tw M P B) (hB : B ≤ 700000) {p n w x up : Int} (hp0 : R32 p) (hn : R32 n) (hw : R32 w) (hx : R32 x) (hu : up = 0 ∨ up = 1) : stepL 102 156 [.int (iI p), .int (iI n), .int (iI w), .int (iI x), .int (iI up)] S Tw M P B := by
  obtain ⟨⟨hx1, hx2⟩, ⟨hp, ht⟩, ⟨hX, ha⟩, ⟨hr1, hr2, hr3, hr4⟩, hs, ⟨hc1, hc2⟩⟩ := id h
  have e4 : M 0 4 = Tw 0 1 5 := ha.1
  have e5 : M 0 5 = S 13 5 := ht.1.symm
  have b4 : 2 ≤ Tw 0 1 5 ∧ Tw 0 1 5 ≤ 5 := ⟨hX.1.1, hX.1.2.1⟩
  have b5 : 0 ≤ S 13 5 ∧ S 13 5 ≤ 5 := ⟨hp.1, hp.2.1⟩
  unfold stepL
  refine s_X11_gales hp0 hn hw hx hu hp hX (by omega) (fun z => ⟨_, rfl, ⟨_, _, _, rfl⟩, ?_⟩) (fun z y => ⟨_, rfl, ⟨_, _, _, rfl⟩, ?_⟩) (fun z y Tw' f => ⟨_, rfl, ⟨_, _, _, rfl⟩, ?_⟩)
  · exact s_X12_gales hp0 hn hw hx hu ht hp ha hX (by omega) (fun _ M1 h1 => h.finL (fun _ _ _ => rfl) (fun _ _ => rfl) h1 rfl) (fun z2 _ _ _ => absurd z2 z) (fun z2 _ _ _ => absurd z2 z)
  · exact s_X12_gales hp0 hn hw hx hu ht hp ha hX (by omega) (fun z2 _ _ => absurd z z2) (fun _ _ M1 h1 => h.finL (fun _ _ _ => rfl) (fun _ _ => rfl) h1 rfl) (fun _ y2 _ _ => absurd y2 y)
  · exact s_X12_gales hp0 hn hw hx hu ht hp ha hX (by omega) (fun z2 _ _ => absurd z z2) (fun _ y2 _ _ => absurd y y2) (fun _ _ M1 h1 => h.finL (fun _ _ _ => rfl) (fr15 f) h1 rfl)
theorem st_least (h : Rel S Tw M P B) (hB : B ≤ 700000) {x n : Int} (hx : R32 x) (hn : R32 n) : stepI 97 149 [.int (iI x), .int (iI n)] S Tw M P B := by
  obtain ⟨⟨hx1, hx2⟩, ⟨hp, ht⟩, ⟨hX, ha⟩, ⟨hr1, hr2, hr3, hr4⟩, hs, ⟨hc1, hc2⟩⟩ := id h
  have e4 : M 0 4 = Tw 0 1 5 := ha.1
  have e5 : M 0 5 = S 13 5 := ht.1.symm
  have b4 : 2 ≤ Tw 0 1 5 ∧ Tw 0 1 5 ≤ 5 := ⟨hX.1.1, hX.1.2.1⟩
  have b5 : 0 ≤ S 13 5 ∧ S 13 5 ≤ 5 := ⟨hp.1, hp.2.1⟩
  unfold stepI
  refine s_X11_least hx hn hp hX (by omega) (fun z => ⟨_, rfl, ⟨_, _, _, rfl⟩, ?_⟩) (fun z S' Tw' f g => ⟨_, rfl, ⟨_, _, _, rfl⟩, ?_⟩)
  · exact s_X12_least (S 207) hx hn ht hp ha hX (by omega) (fun _ M1 h1 => h.fin (fun _ _ _ => rfl) (fun _ _ => rfl) h1 rfl) (fun z2 _ _ => absurd z2 z)
  · exact s_X12_least (S 207) hx hn ht hp ha hX (by omega) (fun z2 _ _ => absurd z z2) (fun _ M1 h1 => h.fin (fun c y1 y2 => f c (by omega) (by omega) (by omega)) (fun t y => g t (by omega)) h1 rfl)
theorem st_leastAt (h : Rel S Tw M P B) (hB : B ≤ 700000) {x n i : Int} (hx : R32 x) (hn : R32 n) (hi : R32 i) : stepI 98 150 [.int (iI x), .int (iI n), .int (iI i)] S Tw M P B := by
  obtain ⟨⟨hx1, hx2⟩, ⟨hp, ht⟩, ⟨hX, ha⟩, ⟨hr1, hr2, hr3, hr4⟩, hs, ⟨hc1, hc2⟩⟩ := id h
  have e4 : M 0 4 = Tw 0 1 5 := ha.1
  have e5 : M 0 5 = S 13 5 := ht.1.symm
  have b4 : 2 ≤ Tw 0 1 5 ∧ Tw 0 1 5 ≤ 5 := ⟨hX.1.1, hX.1.2.1⟩
  have b5 : 0 ≤ S 13 5 ∧ S 13 5 ≤ 5 := ⟨hp.1, hp.2.1⟩
  unfold stepI
  refine s_X11_leastAt hx hn hi hp hX (by omega) (fun z => ⟨_, rfl, ⟨_, _, _, rfl⟩, ?_⟩) (fun z y => ⟨_, rfl, ⟨_, _, _, rfl⟩, ?_⟩) (fun z y S' Tw' f g => ⟨_, rfl, ⟨_, _, _, rfl⟩, ?_⟩)
  · exact s_X12_leastAt (S 207) hx hn hi ht hp ha hX (by omega) (fun _ M1 h1 => h.fin (fun _ _ _ => rfl) (fun _ _ => rfl) h1 rfl) (fun z2 _ _ _ => absurd z2 z) (fun z2 _ _ _ => absurd z2 z)
  · exact s_X12_leastAt (S 207) hx hn hi ht hp ha hX (by omega) (fun z2 _ _ => absurd z z2) (fun _ _ M1 h1 => h.fin (fun _ _ _ => rfl) (fun _ _ => rfl) h1 rfl) (fun _ y2 _ _ => absurd y2 y)
  · exact s_X12_leastAt (S 207) hx hn hi ht hp ha hX (by omega) (fun z2 _ _ => absurd z z2) (fun _ y2 _ _ => absurd y y2) (fun _ _ M1 h1 => h.fin (fun c y1 y2 => f c (by omega) (by omega) (by omega)) (fun t y => g t (by omega)) h1 rfl)
/-- the two searches for floors -/
theorem fl_ref {S' : Nat → Int → Int} {X : Nat → Int → Int} {n : Nat} {w : Int} {pl b be : Int → Int} (hp : pOk S) (hX : twOk S X B) (hw : 0 ≤ w ∧ w ≤ 9) (hg : ∀ j, 0 ≤ j → j < S 13 5 → S' 246 j = rbF S X j 0 n w (X 1 5).toNat ∧ S' 247 j = rbF S X j 1 n w (X 1 5).toNat) (hpl : ∀ j, 0 ≤ j → j < S 13 5 → pl j = if X 10 j = 0 then 0 else X 8 j) :
    (flL S (S' 246) (S' 247) X (mpF S' (S 13 5).toNat) (S 13 5).toNat 3125 (-1) b pl).1 = (rfL S X n w (S 13 5).toNat (frN X (S 13 5).toNat).toNat 0 (-9) be).1 ∧ ∀ j : Int, 0 ≤ j → j < S 13 5 → (flL S (S' 246) (S' 247) X (mpF S' (S 13 5).toNat) (S 13 5).toNat 3125 (-1) b pl).2 j = (rfL S X n w (S 13 5).toNat (frN X (S 13 5).toNat).toNat 0 (-9) be).2 j := by
  have p1 := hp.1
  have p2 := hp.2.1
  have hk : 2 ≤ X 1 5 ∧ X 1 5 ≤ 5 := ⟨hX.1.1, hX.1.2.1⟩
  have hN : S 13 5 = (((S 13 5).toNat : Nat) : Int) := by omega
  have pw5 : ∀ i : Fin 6, pwF 5 i.val ≤ 3125 := by decide
  have h1 := frN_in hk (S 13 5).toNat
  have h2 := Int.le_trans h1.2 (pw5 ⟨(S 13 5).toNat, by omega⟩)
  generalize hNN : (S 13 5).toNat = N at *
  have h3 := fl_rf (S' := S') (n := n) (w := w) hp hN hX hw (fun j a c => hg j a (by omega)) 3125 (frN X N).toNat 0 (-1) b b pl (by omega) (by omega) (by omega) (by omega) (fun j a c => by rw [plR_0 N j a c]; exact hpl j a (by omega)) (fun _ _ _ => rfl)
  have hst : rfL S X n w N (frN X N).toNat 0 (-1) b = rfL S X n w N (frN X N).toNat 0 (-9) be := by
    obtain ⟨m, hm⟩ : ∃ m, (frN X N).toNat = m + 1 := ⟨(frN X N).toNat - 1, by omega⟩
    have hr := rdC_in (S := S) (X := X) (n := n) (w := w) (pl := plR X N 0) (N := N)
    rw [hm, rfL, rfL, if_pos (by omega), if_pos (by omega)]
  rw [hst] at h3
  exact ⟨h3.1, fun j a c => h3.2 j a (by omega)⟩
theorem st_floors (h : Rel S Tw M P B) (hB : B ≤ 700000) {n w : Int} (hn : R32 n) (hw : R32 w) : stepI 99 152 [.int (iI n), .int (iI w)] S Tw M P B := by
  obtain ⟨⟨hx1, hx2⟩, ⟨hp, ht⟩, ⟨hX, ha⟩, ⟨hr1, hr2, hr3, hr4⟩, hs, ⟨hc1, hc2⟩⟩ := id h
  have e4 : M 0 4 = Tw 0 1 5 := ha.1
  have e5 : M 0 5 = S 13 5 := ht.1.symm
  have b4 : 2 ≤ Tw 0 1 5 ∧ Tw 0 1 5 ≤ 5 := ⟨hX.1.1, hX.1.2.1⟩
  have b5 : 0 ≤ S 13 5 ∧ S 13 5 ≤ 5 := ⟨hp.1, hp.2.1⟩
  have hN : S 13 5 = (((S 13 5).toNat : Nat) : Int) := by omega
  unfold stepI
  refine s_X11_floors hn hw hp hX (by omega) (fun y => ⟨_, rfl, ⟨_, _, _, rfl⟩, ?_⟩) (fun y S' Tw' pl b a1 a2 a3 a4 a5 => ⟨_, rfl, ⟨_, _, _, rfl⟩, ?_⟩)
  · exact s_X12_floors (fun _ => 0) hN hn hw ht hp ha hX (by omega) (fun _ M1 h1 => h.fin (fun _ _ _ => rfl) (fun _ _ => rfl) h1 rfl) (fun y2 _ _ _ => absurd y2 y)
  · exact s_X12_floors (fun _ => 0) hN hn hw ht hp ha hX (by omega) (fun y2 _ _ => absurd y y2) (fun _ M1 h1 be => h.fin (fun c y1 y2 => a1 c (by omega)) (fr15 a2) h1 (fl_ref hp hX y.2 a3 a4).1.symm)
theorem st_floorAt (h : Rel S Tw M P B) (hB : B ≤ 700000) {p n w : Int} (hp0 : R32 p) (hn : R32 n) (hw : R32 w) : stepI 100 153 [.int (iI p), .int (iI n), .int (iI w)] S Tw M P B := by
  obtain ⟨⟨hx1, hx2⟩, ⟨hp, ht⟩, ⟨hX, ha⟩, ⟨hr1, hr2, hr3, hr4⟩, hs, ⟨hc1, hc2⟩⟩ := id h
  have e4 : M 0 4 = Tw 0 1 5 := ha.1
  have e5 : M 0 5 = S 13 5 := ht.1.symm
  have b4 : 2 ≤ Tw 0 1 5 ∧ Tw 0 1 5 ≤ 5 := ⟨hX.1.1, hX.1.2.1⟩
  have b5 : 0 ≤ S 13 5 ∧ S 13 5 ≤ 5 := ⟨hp.1, hp.2.1⟩
  have hN : S 13 5 = (((S 13 5).toNat : Nat) : Int) := by omega
  unfold stepI
  refine s_X11_floorAt hp0 hn hw hp hX (by omega) (fun z => ⟨_, rfl, ⟨_, _, _, rfl⟩, ?_⟩) (fun z y => ⟨_, rfl, ⟨_, _, _, rfl⟩, ?_⟩) (fun z y S' Tw' pl b a1 a2 a3 a4 a5 => ⟨_, rfl, ⟨_, _, _, rfl⟩, ?_⟩)
  · exact s_X12_floorAt hN hp0 hn hw ht hp ha hX (by omega) (fun _ M1 h1 => h.fin (fun _ _ _ => rfl) (fun _ _ => rfl) h1 rfl) (fun z2 _ _ _ => absurd z2 z) (fun z2 _ _ _ _ => absurd z2 z)
  · exact s_X12_floorAt hN hp0 hn hw ht hp ha hX (by omega) (fun z2 _ _ => absurd z z2) (fun _ _ M1 h1 => h.fin (fun _ _ _ => rfl) (fun _ _ => rfl) h1 rfl) (fun _ y2 _ _ _ => absurd y2 y)
  · refine s_X12_floorAt hN hp0 hn hw ht hp ha hX (by omega) (fun z2 _ _ => absurd z z2) (fun _ y2 _ _ => absurd y y2) (fun _ _ M1 h1 be => h.fin (fun c y1 y2 => a1 c (by omega)) (fr15 a2) h1 ?_)
    rw [a5]
    exact ((fl_ref hp hX y.2 a3 a4).2 p z.1 z.2).symm
theorem st_fault (h : Rel S Tw M P B) : stepI 85 126 [] S Tw M P B := by
  obtain ⟨⟨hx1, hx2⟩, ⟨hp, ht⟩, ⟨hX, ha⟩, ⟨hr1, hr2, hr3, hr4⟩, hs, ⟨hc1, hc2⟩⟩ := id h
  have e4 : M 0 4 = Tw 0 1 5 := ha.1
  have e5 : M 0 5 = S 13 5 := ht.1.symm
  have b4 : 2 ≤ Tw 0 1 5 ∧ Tw 0 1 5 ≤ 5 := ⟨hX.1.1, hX.1.2.1⟩
  have b5 : 0 ≤ S 13 5 ∧ S 13 5 ≤ 5 := ⟨hp.1, hp.2.1⟩
  unfold stepI
  have r0 : ∃ R : Nat → Int → Int, rd0 (dgF (S 1 1) (S 2) 1) R := ⟨fun c j => if c = 3 ∧ j = 3 then dgF (S 1 1) (S 2) 1 else if c = 4 then 5 else 0, rfl, rfl, rfl, fun _ _ _ => ⟨rfl, rfl, rfl⟩⟩
  obtain ⟨R, hR⟩ := r0
  refine s_X11_fault hx1 (fun z => ⟨_, rfl, ⟨_, _, _, rfl⟩, ?_⟩) (fun z y => ⟨_, rfl, ⟨_, _, _, rfl⟩, ?_⟩) (fun z y S' f g => ⟨_, rfl, ⟨_, _, _, rfl⟩, ?_⟩)
  · exact s_X12_fault (R := R) hx1 hx2 (fun _ => hR) (fun _ M1 h1 => h.fin (fun _ _ _ => rfl) (fun _ _ => rfl) h1 rfl) (fun z2 _ _ _ => absurd z2 z) (fun z2 _ _ _ => absurd z2 z)
  · exact s_X12_fault (R := R) hx1 hx2 (fun _ => hR) (fun z2 _ _ => absurd z z2) (fun _ _ M1 h1 => h.fin (fun _ _ _ => rfl) (fun _ _ => rfl) h1 rfl) (fun _ y2 _ _ => absurd y2 y)
  · have hok := prL_ok hx1 11 2 S' (by decide) (by decide) (rd0_ok y g)
    refine s_X12_fault (R := S') hx1 hx2 (fun _ => g) (fun z2 _ _ => absurd z z2) (fun _ y2 _ _ => absurd y y2) (fun _ _ M1 h1 => h.fin (fun c y1 y2 => ?_) (fun _ _ => rfl) h1 rfl)
    rw [hok.2.1 c y1, f c y1]
end ST
