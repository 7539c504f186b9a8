/-! the steps that change what stands -/
section SC
variable {S S' : Nat → Int → Int} {Tw Tw' : Nat → Nat → Int → Int} {M M' : Nat → Int → Int} {P : Nat → Nat} {B : Int}
def RcT (S M : Nat → Int → Int) : Prop := xOk (S 1 1) (S 2) ∧ txP (S 1 1) (S 2) M
def RcP (S M : Nat → Int → Int) : Prop := pOk S ∧ tdP S M
def RcN (S X M : Nat → Int → Int) (B : Int) : Prop := twOk S X B ∧ agr S (nX M) X
def RcR (S : Nat → Int → Int) (Tw : Nat → Nat → Int → Int) (M : Nat → Int → Int) (P : Nat → Nat) (B : Int) : Prop := rowP P ∧ (0 ≤ S 30 1 ∧ S 30 1 ≤ 12) ∧ M 0 25 = S 30 1 ∧ ∀ i : Int, 0 ≤ i → i < S 30 1 → pgP S (Tw (P i.toNat)) M i B
def RcS (S : Nat → Int → Int) (Tw : Nat → Nat → Int → Int) (M : Nat → Int → Int) (B : Int) : Prop := ∀ s : Int, 0 ≤ s → s < 2 → (S 187 s = 0 ∨ S 187 s = 1) ∧ M 18 s = S 187 s ∧ (S 187 s = 1 → slP S (Tw (13 + s.toNat)) (Tw 0) M s B)
def RcC (S M : Nat → Int → Int) : Prop := nOk S ∧ cnP S M
theorem Rel_6 : Rel S Tw M P B = (RcT S M ∧ RcP S M ∧ RcN S (Tw 0) M B ∧ RcR S Tw M P B ∧ RcS S Tw M B ∧ RcC S M) := rfl
theorem RcT.c (h : RcT S M) (a1 : S' 1 = S 1) (a2 : S' 2 = S 2) (m2 : M' 0 2 = M 0 2) (m1 : M' 1 = M 1) : RcT S' M' := by
  unfold RcT txP at *
  rw [a1, a2, m2, m1]
  exact h
theorem RcP.c (h : RcP S M) (t : tEq S' S) (m5 : M' 0 5 = M 0 5) (m : ∀ c, 6 ≤ c → c ≤ 10 → M' c = M c) : RcP S' M' := by
  obtain ⟨e1, e2, e3, e4, e5, e6⟩ := t
  unfold RcP pOk tdP at *
  rw [e1, e2, e3, e4, e5, e6, m5, m 6 (by decide) (by decide), m 7 (by decide) (by decide), m 8 (by decide) (by decide), m 9 (by decide) (by decide), m 10 (by decide) (by decide)]
  exact h
theorem agr_t {X Y : Nat → Int → Int} (t : S' 13 = S 13) (h : agr S X Y) : agr S' X Y := by
  unfold agr at *
  rw [t]
  exact h
theorem twOk_t {X : Nat → Int → Int} (t : S' 13 = S 13) (t17 : S' 17 = S 17) (h : twOk S X B) : twOk S' X B := by
  unfold twOk qOk at *
  rw [t, t17]
  exact h
theorem RcN.c {X : Nat → Int → Int} (h : RcN S X M B) (t : S' 13 = S 13) (t17 : S' 17 = S 17) (m4 : M' 0 4 = M 0 4) (m17 : M' 0 17 = M 0 17) (m : ∀ c, c = 2 ∨ c = 3 ∨ c = 4 ∨ c = 5 ∨ c = 11 ∨ c = 12 → M' c = M c) : RcN S' X M' B := by
  refine ⟨twOk_t t t17 h.1, agr_t t ?_⟩
  have e : nX M' = nX M := by
    funext o k
    unfold nX
    rw [m4, m17, m 2 (by decide), m 3 (by decide), m 4 (by decide), m 5 (by decide), m 11 (by decide), m 12 (by decide)]
  rw [e]
  exact h.2
theorem pgP.c {U : Nat → Int → Int} {i : Int} (h : pgP S U M i B) (t : S' 13 = S 13) (t17 : S' 17 = S 17) (m : M' 16 = M 16) : pgP S' U M' i B := by
  unfold pgP at *
  rw [t, t17, m]
  exact h
theorem RcR.c (h : RcR S Tw M P B) (t : S' 13 = S 13) (t17 : S' 17 = S 17) (t30 : S' 30 1 = S 30 1) (ht : ∀ u, 1 ≤ u → u ≤ 12 → Tw' u = Tw u) (m25 : M' 0 25 = M 0 25) (m : M' 16 = M 16) : RcR S' Tw' M' P B := by
  obtain ⟨h1, h2, h3, h4⟩ := h
  refine ⟨h1, by rw [t30]; exact h2, by rw [t30, m25]; exact h3, fun i a b => ?_⟩
  rw [t30] at b
  have := h1.1 i.toNat (by omega)
  rw [ht _ this.1 this.2]
  exact (h4 i a b).c t t17 m
theorem slP.c {U T0 T1 : Nat → Int → Int} {s : Int} (h : slP S U T0 M s B) (t : S' 13 = S 13) (t17 : S' 17 = S 17) (e : T1 1 5 = T0 1 5) (m : M' 17 = M 17) : slP S' U T1 M' s B := by
  unfold slP at *
  rw [t, e, m]
  exact ⟨twOk_t t t17 h.1, h.2⟩
theorem RcS.c (h : RcS S Tw M B) (t : S' 13 = S 13) (t17 : S' 17 = S 17) (t187 : S' 187 = S 187) (ht : ∀ u, 13 ≤ u → u ≤ 14 → Tw' u = Tw u) (e : Tw' 0 1 5 = Tw 0 1 5) (m17 : M' 17 = M 17) (m18 : M' 18 = M 18) : RcS S' Tw' M' B := by
  intro s a b
  obtain ⟨h1, h2, h3⟩ := h s a b
  rw [t187, m18]
  refine ⟨h1, h2, fun q => ?_⟩
  rw [ht _ (by omega) (by omega)]
  exact (h3 q).c t t17 e m17
theorem RcC.c (h : RcC S M) (t : ∀ c, 199 ≤ c → c ≤ 204 → S' c = S c) (m35 : M' 0 35 = M 0 35) (m : ∀ c, 25 ≤ c → c ≤ 29 → M' c = M c) : RcC S' M' := by
  unfold RcC nOk cnP at *
  rw [t 199 (by decide) (by decide), t 200 (by decide) (by decide), t 201 (by decide) (by decide), t 202 (by decide) (by decide), t 203 (by decide) (by decide), t 204 (by decide) (by decide), m35, m 25 (by decide) (by decide), m 26 (by decide) (by decide), m 27 (by decide) (by decide), m 28 (by decide) (by decide), m 29 (by decide) (by decide)]
  exact h
/-- told anew: nothing -/
theorem tEq_w {c : Nat} {j v : Int} (h : ¬ (13 ≤ c ∧ c ≤ 18)) : tEq (wS S c j v) S := ⟨wS_o (by omega), wS_o (by omega), wS_o (by omega), wS_o (by omega), wS_o (by omega), wS_o (by omega)⟩
theorem st_wipe (h : Rel S Tw M P B) : stepI 84 120 [] S Tw M P B := by
  have h2 := h.le (show B ≤ B + 180 by omega)
  rw [Rel_6] at h2
  obtain ⟨g1, g2, g3, g4, g5, g6⟩ := h2
  unfold stepI
  refine s_X11_wipe ⟨_, rfl, ⟨_, _, _, rfl⟩, s_X12_wipe ⟨by rw [g1.2.1], _, _, _, _, rfl, ?_⟩⟩
  have m0 : ∀ c, c ≠ 0 → wS (wS M 0 0 0) 0 2 0 c = M c := fun c hc => by rw [wS_o hc, wS_o hc]
  have mj : ∀ j, j ≠ 0 → j ≠ 2 → wS (wS M 0 0 0) 0 2 0 0 j = M 0 j := fun j y1 y2 => by rw [wS_s, if_neg y2, wS_s, if_neg y1]
  have s1 : ∀ c, c ≠ 1 → wS S 1 1 0 c = S c := fun c hc => wS_o hc
  rw [Rel_6]
  refine ⟨⟨?_, ?_, fun j a b => ?_⟩, g2.c (tEq_w (by decide)) (mj 5 (by decide) (by decide)) (fun c a b => m0 c (by omega)), g3.c (s1 13 (by decide)) (s1 17 (by decide)) (mj 4 (by decide) (by decide)) (mj 17 (by decide) (by decide)) (fun c hc => m0 c (by omega)), g4.c (s1 13 (by decide)) (s1 17 (by decide)) (by rw [s1 30 (by decide)]) (fun _ _ _ => rfl) (mj 25 (by decide) (by decide)) (m0 16 (by decide)), g5.c (s1 13 (by decide)) (s1 17 (by decide)) (s1 187 (by decide)) (fun _ _ _ => rfl) rfl (m0 17 (by decide)) (m0 18 (by decide)), g6.c (fun c a b => s1 c (by omega)) (mj 35 (by decide) (by decide)) (fun c a b => m0 c (by omega))⟩
  · rw [wS_e, s1 2 (by decide)]
    exact ⟨by decide, by decide, g1.1.2.2⟩
  · rw [wS_e, wS_e]
  · rw [wS_e] at b; omega
theorem st_write (h : Rel S Tw M P B) {n : Int} {v : Int64} (hn : R32 n) : stepI 83 119 [.int (iI n), .long v] S Tw M P B := by
  have h2 := h.le (show B ≤ B + 180 by omega)
  rw [Rel_6] at h2
  obtain ⟨g1, g2, g3, g4, g5, g6⟩ := h2
  have hx : 0 ≤ S 1 1 ∧ S 1 1 ≤ 64 := ⟨g1.1.1, g1.1.2.1⟩
  unfold stepI
  refine s_X11_write hn hx (fun z => ⟨_, rfl, ⟨_, _, _, rfl⟩, ?_⟩) (fun z y => ⟨_, rfl, ⟨_, _, _, rfl⟩, ?_⟩) (fun z y S' a1 a2 a3 a4 => ⟨_, rfl, ⟨_, _, _, rfl⟩, ?_⟩)
  · exact s_X12_write hn hx g1.2 (fun _ M1 h1 => h.fin (fun _ _ _ => rfl) (fun _ _ => rfl) h1.q rfl) (fun z2 _ _ _ => absurd z2 z) (fun z2 _ _ _ _ _ => absurd z2 z)
  · exact s_X12_write hn hx g1.2 (fun z2 _ _ => absurd z z2) (fun _ _ M1 h1 => h.fin (fun _ _ _ => rfl) (fun _ _ => rfl) h1.q rfl) (fun _ y2 _ _ _ _ => by omega)
  · refine s_X12_write hn hx g1.2 (fun z2 _ _ => absurd z z2) (fun _ y2 _ _ => by omega) (fun _ _ M1 m0 mj mt => ⟨by rw [a3], S', Tw, M1, P, rfl, ?_⟩)
    have xo := apL_in (v := v) n.toNat (S 1 1) (S 2) hx.1 hx.2 g1.1.2.2
    have t : tEq S' S := ⟨a1 13 (by decide) (by decide), a1 14 (by decide) (by decide), a1 15 (by decide) (by decide), a1 16 (by decide) (by decide), a1 17 (by decide) (by decide), a1 18 (by decide) (by decide)⟩
    rw [Rel_6]
    refine ⟨⟨by rw [a3, a4]; exact xo, by rw [a3, a4]; exact mt⟩, g2.c t (mj 5 (by decide) (by decide)) (fun c a b => m0 c (by omega) (by omega)), g3.c (a1 13 (by decide) (by decide)) (a1 17 (by decide) (by decide)) (mj 4 (by decide) (by decide)) (mj 17 (by decide) (by decide)) (fun c hc => m0 c (by omega) (by omega)), g4.c (a1 13 (by decide) (by decide)) (a1 17 (by decide) (by decide)) (by rw [a1 30 (by decide) (by decide)]) (fun _ _ _ => rfl) (mj 25 (by decide) (by decide)) (m0 16 (by decide) (by decide)), g5.c (a1 13 (by decide) (by decide)) (a1 17 (by decide) (by decide)) (a1 187 (by decide) (by decide)) (fun _ _ _ => rfl) rfl (m0 17 (by decide) (by decide)) (m0 18 (by decide) (by decide)), g6.c (fun c a b => a1 c (by omega) (by omega)) (mj 35 (by decide) (by decide)) (fun c a b => m0 c (by omega) (by omega))⟩
theorem st_uncone (h : Rel S Tw M P B) : stepI 104 158 [] S Tw M P B := by
  have h2 := h.le (show B ≤ B + 180 by omega)
  rw [Rel_6] at h2
  obtain ⟨g1, g2, g3, g4, g5, g6⟩ := h2
  unfold stepI
  refine s_X11_uncone ⟨_, rfl, ⟨_, _, _, rfl⟩, s_X12_uncone (fun M1 h1 => ⟨by rw [g6.2.1], _, _, _, _, rfl, ?_⟩)⟩
  have m0 : ∀ c, c ≠ 0 → wS M1 0 35 0 c = M c := fun c hc => by rw [wS_o hc]; exact h1.1 c hc
  have mj : ∀ j, j ≠ 0 → j ≠ 35 → wS M1 0 35 0 0 j = M 0 j := fun j y1 y2 => by rw [wS_s, if_neg y2]; exact h1.2 j y1
  have s1 : ∀ c, c ≠ 199 → wS S 199 7 0 c = S c := fun c hc => wS_o hc
  rw [Rel_6]
  refine ⟨g1.c (s1 1 (by decide)) (s1 2 (by decide)) (mj 2 (by decide) (by decide)) (m0 1 (by decide)), g2.c (tEq_w (by decide)) (mj 5 (by decide) (by decide)) (fun c a b => m0 c (by omega)), g3.c (s1 13 (by decide)) (s1 17 (by decide)) (mj 4 (by decide) (by decide)) (mj 17 (by decide) (by decide)) (fun c hc => m0 c (by omega)), g4.c (s1 13 (by decide)) (s1 17 (by decide)) (by rw [s1 30 (by decide)]) (fun _ _ _ => rfl) (mj 25 (by decide) (by decide)) (m0 16 (by decide)), g5.c (s1 13 (by decide)) (s1 17 (by decide)) (s1 187 (by decide)) (fun _ _ _ => rfl) rfl (m0 17 (by decide)) (m0 18 (by decide)), ⟨?_, ?_, fun i a b => ?_⟩⟩
  · refine ⟨by rw [wS_e]; decide, by rw [wS_e]; decide, fun i a b => ?_⟩
    rw [wS_e] at b; omega
  · rw [wS_e, wS_e]
  · rw [wS_e] at b; omega
set_option maxHeartbeats 1000000 in
theorem st_cone (h : Rel S Tw M P B) {k n w c b : Int} (hk : R32 k) (hn : R32 n) (hw : R32 w) (hc : R32 c) (hb : b = 0 ∨ b = 1) : stepI 103 157 [.int (iI k), .int (iI n), .int (iI w), .int (iI c), .int (iI b)] S Tw M P B := by
  have h2 := h.le (show B ≤ B + 180 by omega)
  rw [Rel_6] at h2
  obtain ⟨g1, g2, g3, g4, g5, g6⟩ := h2
  have e4 : M 0 4 = Tw 0 1 5 := g3.2.1
  have b4 : 2 ≤ Tw 0 1 5 ∧ Tw 0 1 5 ≤ 5 := ⟨g3.1.1.1, g3.1.1.2.1⟩
  have e35 : M 0 35 = S 199 7 := g6.2.1
  have b35 : 0 ≤ S 199 7 ∧ S 199 7 ≤ 8 := ⟨g6.1.1, g6.1.2.1⟩
  unfold stepI
  refine s_X11_cone hk hn hw hc hb b4 b35 (fun z => ⟨_, rfl, ⟨_, _, _, rfl⟩, ?_⟩) (fun z y => ⟨_, rfl, ⟨_, _, _, rfl⟩, ?_⟩) (fun z y x => ⟨_, rfl, ⟨_, _, _, rfl⟩, ?_⟩) (fun z y x => ⟨_, rfl, ⟨_, _, _, rfl⟩, ?_⟩)
  · exact s_X12_cone hk hn hw hc hb (by omega) (by omega) (fun _ M1 h1 => h.fin (fun _ _ _ => rfl) (fun _ _ => rfl) h1.q rfl) (fun z2 _ _ _ => absurd z2 (by omega)) (fun z2 _ _ _ _ => absurd z2 (by omega)) (fun z2 _ _ _ _ => absurd z2 (by omega))
  · exact s_X12_cone hk hn hw hc hb (by omega) (by omega) (fun z2 _ _ => absurd z (by omega)) (fun _ _ M1 h1 => h.fin (fun _ _ _ => rfl) (fun _ _ => rfl) h1.q rfl) (fun _ y2 _ _ _ => absurd y2 y) (fun _ y2 _ _ _ => absurd y2 y)
  · exact s_X12_cone hk hn hw hc hb (by omega) (by omega) (fun z2 _ _ => absurd z (by omega)) (fun _ y2 _ _ => absurd y y2) (fun _ _ _ M1 h1 => h.fin (fun _ _ _ => rfl) (fun _ _ => rfl) h1.q rfl) (fun _ _ x2 _ _ => absurd x2 (by omega))
  · refine s_X12_cone hk hn hw hc hb (by omega) (by omega) (fun z2 _ _ => absurd z (by omega)) (fun _ y2 _ _ => absurd y y2) (fun _ _ x2 _ _ => absurd x2 (by omega)) (fun _ _ _ M1 h1 => ⟨by rw [e35], _, _, _, _, rfl, ?_⟩)
    rw [e35]
    generalize hN : S 199 7 = N at *
    have m0 : ∀ c', c' ≠ 0 → ¬ (25 ≤ c' ∧ c' ≤ 29) → wS (wS (wS (wS (wS (wS M1 25 N k) 26 N n) 27 N w) 28 N (10 * c)) 29 N b) 0 35 (N + 1) c' = M c' := fun c' y1 y2 => by rw [wS_o y1, wS_o (by omega), wS_o (by omega), wS_o (by omega), wS_o (by omega), wS_o (by omega)]; exact h1.1 c' y1
    have mj : ∀ j, j ≠ 0 → j ≠ 35 → wS (wS (wS (wS (wS (wS M1 25 N k) 26 N n) 27 N w) 28 N (10 * c)) 29 N b) 0 35 (N + 1) 0 j = M 0 j := fun j y1 y2 => by rw [wS_s, if_neg y2, wS_o (by decide), wS_o (by decide), wS_o (by decide), wS_o (by decide), wS_o (by decide)]; exact h1.2 j y1
    have s1 : ∀ c', ¬ (199 ≤ c' ∧ c' ≤ 204) → wS (wS (wS (wS (wS (wS S 200 N k) 201 N n) 202 N w) 203 N (10 * c)) 204 N b) 199 7 (N + 1) c' = S c' := fun c' y => by rw [wS_o (by omega), wS_o (by omega), wS_o (by omega), wS_o (by omega), wS_o (by omega), wS_o (by omega)]
    have v200 : ∀ i, wS (wS (wS (wS (wS (wS S 200 N k) 201 N n) 202 N w) 203 N (10 * c)) 204 N b) 199 7 (N + 1) 200 i = if i = N then k else S 200 i := fun i => by rw [wS_o (by decide), wS_o (by decide), wS_o (by decide), wS_o (by decide), wS_o (by decide), wS_s]
    have v201 : ∀ i, wS (wS (wS (wS (wS (wS S 200 N k) 201 N n) 202 N w) 203 N (10 * c)) 204 N b) 199 7 (N + 1) 201 i = if i = N then n else S 201 i := fun i => by rw [wS_o (by decide), wS_o (by decide), wS_o (by decide), wS_o (by decide), wS_s, wS_o (by decide)]
    have v202 : ∀ i, wS (wS (wS (wS (wS (wS S 200 N k) 201 N n) 202 N w) 203 N (10 * c)) 204 N b) 199 7 (N + 1) 202 i = if i = N then w else S 202 i := fun i => by rw [wS_o (by decide), wS_o (by decide), wS_o (by decide), wS_s, wS_o (by decide), wS_o (by decide)]
    have v203 : ∀ i, wS (wS (wS (wS (wS (wS S 200 N k) 201 N n) 202 N w) 203 N (10 * c)) 204 N b) 199 7 (N + 1) 203 i = if i = N then 10 * c else S 203 i := fun i => by rw [wS_o (by decide), wS_o (by decide), wS_s, wS_o (by decide), wS_o (by decide), wS_o (by decide)]
    have v204 : ∀ i, wS (wS (wS (wS (wS (wS S 200 N k) 201 N n) 202 N w) 203 N (10 * c)) 204 N b) 199 7 (N + 1) 204 i = if i = N then b else S 204 i := fun i => by rw [wS_o (by decide), wS_s, wS_o (by decide), wS_o (by decide), wS_o (by decide), wS_o (by decide)]
    have v199 : wS (wS (wS (wS (wS (wS S 200 N k) 201 N n) 202 N w) 203 N (10 * c)) 204 N b) 199 7 (N + 1) 199 7 = N + 1 := wS_e
    have u25 : ∀ i, wS (wS (wS (wS (wS (wS M1 25 N k) 26 N n) 27 N w) 28 N (10 * c)) 29 N b) 0 35 (N + 1) 25 i = if i = N then k else M 25 i := fun i => by rw [wS_o (by decide), wS_o (by decide), wS_o (by decide), wS_o (by decide), wS_o (by decide), wS_s, h1.1 25 (by decide)]
    have u26 : ∀ i, wS (wS (wS (wS (wS (wS M1 25 N k) 26 N n) 27 N w) 28 N (10 * c)) 29 N b) 0 35 (N + 1) 26 i = if i = N then n else M 26 i := fun i => by rw [wS_o (by decide), wS_o (by decide), wS_o (by decide), wS_o (by decide), wS_s, wS_o (by decide), h1.1 26 (by decide)]
    have u27 : ∀ i, wS (wS (wS (wS (wS (wS M1 25 N k) 26 N n) 27 N w) 28 N (10 * c)) 29 N b) 0 35 (N + 1) 27 i = if i = N then w else M 27 i := fun i => by rw [wS_o (by decide), wS_o (by decide), wS_o (by decide), wS_s, wS_o (by decide), wS_o (by decide), h1.1 27 (by decide)]
    have u28 : ∀ i, wS (wS (wS (wS (wS (wS M1 25 N k) 26 N n) 27 N w) 28 N (10 * c)) 29 N b) 0 35 (N + 1) 28 i = if i = N then 10 * c else M 28 i := fun i => by rw [wS_o (by decide), wS_o (by decide), wS_s, wS_o (by decide), wS_o (by decide), wS_o (by decide), h1.1 28 (by decide)]
    have u29 : ∀ i, wS (wS (wS (wS (wS (wS M1 25 N k) 26 N n) 27 N w) 28 N (10 * c)) 29 N b) 0 35 (N + 1) 29 i = if i = N then b else M 29 i := fun i => by rw [wS_o (by decide), wS_s, wS_o (by decide), wS_o (by decide), wS_o (by decide), wS_o (by decide), h1.1 29 (by decide)]
    have u35 : wS (wS (wS (wS (wS (wS M1 25 N k) 26 N n) 27 N w) 28 N (10 * c)) 29 N b) 0 35 (N + 1) 0 35 = N + 1 := wS_e
    generalize wS (wS (wS (wS (wS (wS M1 25 N k) 26 N n) 27 N w) 28 N (10 * c)) 29 N b) 0 35 (N + 1) = M2 at *
    generalize wS (wS (wS (wS (wS (wS S 200 N k) 201 N n) 202 N w) 203 N (10 * c)) 204 N b) 199 7 (N + 1) = S2 at *
    have t : tEq S2 S := ⟨s1 13 (by decide), s1 14 (by decide), s1 15 (by decide), s1 16 (by decide), s1 17 (by decide), s1 18 (by decide)⟩
    rw [Rel_6]
    refine ⟨g1.c (s1 1 (by decide)) (s1 2 (by decide)) (mj 2 (by decide) (by decide)) (m0 1 (by decide) (by decide)), g2.c t (mj 5 (by decide) (by decide)) (fun c a b => m0 c (by omega) (by omega)), g3.c (s1 13 (by decide)) (s1 17 (by decide)) (mj 4 (by decide) (by decide)) (mj 17 (by decide) (by decide)) (fun c hc => m0 c (by omega) (by omega)), g4.c (s1 13 (by decide)) (s1 17 (by decide)) (by rw [s1 30 (by decide)]) (fun _ _ _ => rfl) (mj 25 (by decide) (by decide)) (m0 16 (by decide) (by decide)), g5.c (s1 13 (by decide)) (s1 17 (by decide)) (s1 187 (by decide)) (fun _ _ _ => rfl) rfl (m0 17 (by decide) (by decide)) (m0 18 (by decide) (by decide)), ⟨⟨?_, ?_, fun i y1 y2 => ?_⟩, ?_, fun i y1 y2 => ?_⟩⟩
    · rw [v199]; omega
    · rw [v199]; omega
    · rw [v199] at y2
      rw [v200, v201, v202, v203, v204]
      by_cases e : i = N
      · rw [if_pos e, if_pos e, if_pos e, if_pos e, if_pos e]
        omega
      · rw [if_neg e, if_neg e, if_neg e, if_neg e, if_neg e]
        exact g6.1.2.2 i y1 (by omega)
    · rw [v199, u35]
    · rw [v199] at y2
      rw [v200, v201, v202, v203, v204, u25, u26, u27, u28, u29]
      by_cases e : i = N
      · rw [if_pos e, if_pos e, if_pos e, if_pos e, if_pos e, if_pos e, if_pos e, if_pos e, if_pos e, if_pos e]
        exact ⟨rfl, rfl, rfl, rfl, rfl⟩
      · rw [if_neg e, if_neg e, if_neg e, if_neg e, if_neg e, if_neg e, if_neg e, if_neg e, if_neg e, if_neg e]
        exact g6.2.2 i y1 (by omega)
/-- a tower with kiln k's damper set -/
def dmX (k s : Int) (X : Nat → Int → Int) : Nat → Int → Int := fun o j => if o = 4 ∧ j = k then s else X o j
theorem dmX_ok {X : Nat → Int → Int} {k s : Int} (h : twOk S X B) (hs : 0 ≤ s ∧ s ≤ 10 - X 3 k) : twOk S (dmX k s X) B := by
  obtain ⟨⟨t1, t2, t3, t4⟩, q, r⟩ := h
  refine ⟨⟨t1, t2, fun j a b => ?_, t4⟩, fun p a b => q p a b, fun p a b => r p a b⟩
  have := t3 j a b
  show 0 ≤ X 3 j ∧ 0 ≤ (if (4 : Nat) = 4 ∧ j = k then s else X 4 j) ∧ X 3 j + (if (4 : Nat) = 4 ∧ j = k then s else X 4 j) ≤ 10 ∧ 0 ≤ X 2 j
  by_cases c : j = k
  · subst c
    rw [if_pos ⟨rfl, rfl⟩]
    omega
  · rw [if_neg (fun z => c z.2)]; exact this
theorem wT_0 {o : Nat} {j v : Int} : wT Tw 0 o j v 0 = fun o' j' => if o' = o ∧ j' = j then v else Tw 0 o' j' := by
  funext o' j'
  unfold wT
  by_cases c : o' = o ∧ j' = j
  · rw [if_pos ⟨rfl, c⟩, if_pos c]
  · rw [if_neg (fun q => c q.2), if_neg c]
theorem st_open (h : Rel S Tw M P B) {k s : Int} (hk : R32 k) (hs : R32 s) : stepI 90 133 [.int (iI k), .int (iI s)] S Tw M P B := by
  have h2 := h.le (show B ≤ B + 180 by omega)
  rw [Rel_6] at h2
  obtain ⟨g1, g2, g3, g4, g5, g6⟩ := h2
  have e4 : M 0 4 = Tw 0 1 5 := g3.2.1
  have b4 : 2 ≤ Tw 0 1 5 ∧ Tw 0 1 5 ≤ 5 := ⟨g3.1.1.1, g3.1.1.2.1⟩
  have e3 : ∀ k, 0 ≤ k → k < 5 → M 3 k = Tw 0 4 k := fun k a b => (g3.2.2.2.1 k a b).2.2
  have e2 : ∀ k, 0 ≤ k → k < 5 → M 2 k = Tw 0 3 k := fun k a b => (g3.2.2.2.1 k a b).2.1
  have r3 : ∀ k, 0 ≤ k → k < 5 → 0 ≤ M 3 k ∧ M 3 k ≤ 10 := fun k a b => by
    rw [e3 k a b]
    have := g3.1.1.2.2.1 k a b
    omega
  have fn : ∀ {a b : Int} {M1 : Nat → Int → Int}, thP M M1 → b = a → okI B a (some (.int (iI b))) (hO S Tw M1 P) := fun h1 e => h.fin (fun _ _ _ => rfl) (fun _ _ => rfl) h1.q e
  unfold stepI
  refine s_X11_open hk hs g3.1.1 (fun z => ⟨_, rfl, ⟨_, _, _, rfl⟩, ?_⟩) (fun z y => ⟨_, rfl, ⟨_, _, _, rfl⟩, ?_⟩) (fun z y => ⟨_, rfl, ⟨_, _, _, rfl⟩, ?_⟩)
  · exact s_X12_open hk hs (by omega) r3 (fun _ M1 h1 => fn h1 rfl) (fun z2 _ _ _ => absurd z2 (by omega)) (fun z2 _ _ _ => absurd z2 (by omega))
  · have ek := e3 k z.1 (by omega)
    exact s_X12_open hk hs (by omega) r3 (fun z2 _ _ => absurd z (by omega)) (fun _ _ M1 h1 => fn h1 rfl) (fun _ y2 _ _ => absurd y2 (by omega))
  · have ek := e3 k z.1 (by omega)
    refine s_X12_open hk hs (by omega) r3 (fun z2 _ _ => absurd z (by omega)) (fun _ y2 _ _ => absurd y (by omega)) (fun _ _ M1 h1 => ⟨by rw [e2 k z.1 (by omega)], _, _, _, _, rfl, ?_⟩)
    have m0 : ∀ c, c ≠ 0 → c ≠ 2 → wS M1 2 k s c = M c := fun c y1 y2 => by rw [wS_o y2]; exact h1.1 c y1
    have mj : ∀ j, j ≠ 0 → wS M1 2 k s 0 j = M 0 j := fun j y1 => by rw [wS_o (by decide)]; exact h1.2 j y1
    have tu : ∀ u, u ≠ 0 → wT Tw 0 3 k s u = Tw u := fun u hu => wT_u hu
    have t0 : wT Tw 0 3 k s 0 = shX k s (Tw 0) := wT_0
    rw [Rel_6]
    refine ⟨g1.c rfl rfl (mj 2 (by decide)) (m0 1 (by decide) (by decide)), g2.c ⟨rfl, rfl, rfl, rfl, rfl, rfl⟩ (mj 5 (by decide)) (fun c a b => m0 c (by omega) (by omega)), ?_, g4.c rfl rfl rfl (fun u a b => tu u (by omega)) (mj 25 (by decide)) (m0 16 (by decide) (by decide)), g5.c rfl rfl rfl (fun u a b => tu u (by omega)) (by rw [t0]; rfl) (m0 17 (by decide) (by decide)) (m0 18 (by decide) (by decide)), g6.c (fun _ _ _ => rfl) (mj 35 (by decide)) (fun c a b => m0 c (by omega) (by omega))⟩
    rw [t0]
    obtain ⟨n1, n2, n3, n4, n5⟩ := g3
    refine ⟨shX_ok n1 y, ?_, ?_, fun j a b => ⟨?_, ?_, ?_⟩, fun p a b => ⟨?_, ?_, ?_⟩⟩
    · show wS M1 2 k s 0 4 = _; rw [mj 4 (by decide)]; exact n2
    · show wS M1 2 k s 0 17 = _; rw [mj 17 (by decide)]; exact n3
    · show wS M1 2 k s 4 j = _; rw [m0 4 (by decide) (by decide)]; exact (n4 j a b).1
    · show wS M1 2 k s 2 j = (if (3 : Nat) = 3 ∧ j = k then s else Tw 0 3 j)
      rw [wS_s, h1.1 2 (by decide)]
      by_cases c : j = k
      · rw [if_pos c, if_pos ⟨rfl, c⟩]
      · rw [if_neg c, if_neg (fun q => c q.2)]; exact (n4 j a b).2.1
    · show wS M1 2 k s 3 j = _; rw [m0 3 (by decide) (by decide)]; exact (n4 j a b).2.2
    · show wS M1 2 k s 5 p = _; rw [m0 5 (by decide) (by decide)]; exact (n5 p a b).1
    · show wS M1 2 k s 11 p = _; rw [m0 11 (by decide) (by decide)]; exact (n5 p a b).2.1
    · show wS M1 2 k s 12 p = _; rw [m0 12 (by decide) (by decide)]; exact (n5 p a b).2.2
theorem st_damp (h : Rel S Tw M P B) {k s : Int} (hk : R32 k) (hs : R32 s) : stepI 91 134 [.int (iI k), .int (iI s)] S Tw M P B := by
  have h2 := h.le (show B ≤ B + 180 by omega)
  rw [Rel_6] at h2
  obtain ⟨g1, g2, g3, g4, g5, g6⟩ := h2
  have e4 : M 0 4 = Tw 0 1 5 := g3.2.1
  have b4 : 2 ≤ Tw 0 1 5 ∧ Tw 0 1 5 ≤ 5 := ⟨g3.1.1.1, g3.1.1.2.1⟩
  have e3 : ∀ k, 0 ≤ k → k < 5 → M 3 k = Tw 0 4 k := fun k a b => (g3.2.2.2.1 k a b).2.2
  have e2 : ∀ k, 0 ≤ k → k < 5 → M 2 k = Tw 0 3 k := fun k a b => (g3.2.2.2.1 k a b).2.1
  have r2 : ∀ k, 0 ≤ k → k < 5 → 0 ≤ M 2 k ∧ M 2 k ≤ 10 := fun k a b => by
    rw [e2 k a b]
    have := g3.1.1.2.2.1 k a b
    omega
  have fn : ∀ {a b : Int} {M1 : Nat → Int → Int}, thP M M1 → b = a → okI B a (some (.int (iI b))) (hO S Tw M1 P) := fun h1 e => h.fin (fun _ _ _ => rfl) (fun _ _ => rfl) h1.q e
  unfold stepI
  refine s_X11_damp hk hs g3.1.1 (fun z => ⟨_, rfl, ⟨_, _, _, rfl⟩, ?_⟩) (fun z y => ⟨_, rfl, ⟨_, _, _, rfl⟩, ?_⟩) (fun z y => ⟨_, rfl, ⟨_, _, _, rfl⟩, ?_⟩)
  · exact s_X12_damp hk hs (by omega) r2 (fun _ M1 h1 => fn h1 rfl) (fun z2 _ _ _ => absurd z2 (by omega)) (fun z2 _ _ _ => absurd z2 (by omega))
  · have ek := e2 k z.1 (by omega)
    exact s_X12_damp hk hs (by omega) r2 (fun z2 _ _ => absurd z (by omega)) (fun _ _ M1 h1 => fn h1 rfl) (fun _ y2 _ _ => absurd y2 (by omega))
  · have ek := e2 k z.1 (by omega)
    refine s_X12_damp hk hs (by omega) r2 (fun z2 _ _ => absurd z (by omega)) (fun _ y2 _ _ => absurd y (by omega)) (fun _ _ M1 h1 => ⟨by rw [e3 k z.1 (by omega)], _, _, _, _, rfl, ?_⟩)
    have m0 : ∀ c, c ≠ 0 → c ≠ 3 → wS M1 3 k s c = M c := fun c y1 y2 => by rw [wS_o y2]; exact h1.1 c y1
    have mj : ∀ j, j ≠ 0 → wS M1 3 k s 0 j = M 0 j := fun j y1 => by rw [wS_o (by decide)]; exact h1.2 j y1
    have tu : ∀ u, u ≠ 0 → wT Tw 0 4 k s u = Tw u := fun u hu => wT_u hu
    have t0 : wT Tw 0 4 k s 0 = dmX k s (Tw 0) := wT_0
    rw [Rel_6]
    refine ⟨g1.c rfl rfl (mj 2 (by decide)) (m0 1 (by decide) (by decide)), g2.c ⟨rfl, rfl, rfl, rfl, rfl, rfl⟩ (mj 5 (by decide)) (fun c a b => m0 c (by omega) (by omega)), ?_, g4.c rfl rfl rfl (fun u a b => tu u (by omega)) (mj 25 (by decide)) (m0 16 (by decide) (by decide)), g5.c rfl rfl rfl (fun u a b => tu u (by omega)) (by rw [t0]; rfl) (m0 17 (by decide) (by decide)) (m0 18 (by decide) (by decide)), g6.c (fun _ _ _ => rfl) (mj 35 (by decide)) (fun c a b => m0 c (by omega) (by omega))⟩
    rw [t0]
    obtain ⟨n1, n2, n3, n4, n5⟩ := g3
    refine ⟨dmX_ok n1 y, ?_, ?_, fun j a b => ⟨?_, ?_, ?_⟩, fun p a b => ⟨?_, ?_, ?_⟩⟩
    · show wS M1 3 k s 0 4 = _; rw [mj 4 (by decide)]; exact n2
    · show wS M1 3 k s 0 17 = _; rw [mj 17 (by decide)]; exact n3
    · show wS M1 3 k s 4 j = _; rw [m0 4 (by decide) (by decide)]; exact (n4 j a b).1
    · show wS M1 3 k s 2 j = _; rw [m0 2 (by decide) (by decide)]; exact (n4 j a b).2.1
    · show wS M1 3 k s 3 j = (if (4 : Nat) = 4 ∧ j = k then s else Tw 0 4 j)
      rw [wS_s, h1.1 3 (by decide)]
      by_cases c : j = k
      · rw [if_pos c, if_pos ⟨rfl, c⟩]
      · rw [if_neg c, if_neg (fun q => c q.2)]; exact (n4 j a b).2.2
    · show wS M1 3 k s 5 p = _; rw [m0 5 (by decide) (by decide)]; exact (n5 p a b).1
    · show wS M1 3 k s 11 p = _; rw [m0 11 (by decide) (by decide)]; exact (n5 p a b).2.1
    · show wS M1 3 k s 12 p = _; rw [m0 12 (by decide) (by decide)]; exact (n5 p a b).2.2
theorem st_put (h : Rel S Tw M P B) {p k : Int} (hp0 : R32 p) (hk : R32 k) : stepI 92 135 [.int (iI p), .int (iI k)] S Tw M P B := by
  have h2 := h.le (show B ≤ B + 180 by omega)
  rw [Rel_6] at h2
  obtain ⟨g1, g2, g3, g4, g5, g6⟩ := h2
  have e4 : M 0 4 = Tw 0 1 5 := g3.2.1
  have b4 : 2 ≤ Tw 0 1 5 ∧ Tw 0 1 5 ≤ 5 := ⟨g3.1.1.1, g3.1.1.2.1⟩
  have e5 : M 0 5 = S 13 5 := g2.2.1.symm
  have b5 : 0 ≤ S 13 5 ∧ S 13 5 ≤ 5 := ⟨g2.1.1, g2.1.2.1⟩
  have e12 : ∀ p, 0 ≤ p → p < S 13 5 → M 12 p = Tw 0 10 p := fun p a b => (g3.2.2.2.2 p a b).2.2
  have e8 : ∀ p, 0 ≤ p → p < S 13 5 → M 5 p = Tw 0 8 p := fun p a b => (g3.2.2.2.2 p a b).1
  have r10 : ∀ i, 0 ≤ i → i < S 13 5 → R32 (Tw 0 10 i) := fun i a b => by
    have := (g3.1.2.1 i a b).2.2.1
    omega
  have r12 : ∀ i, 0 ≤ i → i < M 0 5 → R32 (M 12 i) := fun i a b => by
    rw [e12 i a (by omega)]; exact r10 i a (by omega)
  have fn : ∀ {a b : Int} {M1 : Nat → Int → Int}, thP M M1 → b = a → okI B a (some (.int (iI b))) (hO S Tw M1 P) := fun h1 e => h.fin (fun _ _ _ => rfl) (fun _ _ => rfl) h1.q e
  unfold stepI
  refine s_X11_put hp0 hk b5 b4 r10 (fun z => ⟨_, rfl, ⟨_, _, _, rfl⟩, ?_⟩) (fun z y x => ⟨_, rfl, ⟨_, _, _, rfl⟩, ?_⟩) (fun z y x => ⟨_, rfl, ⟨_, _, _, rfl⟩, ?_⟩)
  · exact s_X12_put hp0 hk (by omega) (by omega) r12 (fun _ M1 h1 => fn h1 rfl) (fun z2 y2 _ _ _ => absurd z (by omega)) (fun z2 y2 _ _ _ => absurd z (by omega))
  · have ep := e12 p z.1 z.2
    exact s_X12_put hp0 hk (by omega) (by omega) r12 (fun z2 _ _ => absurd z2 (by omega)) (fun _ _ _ M1 h1 => fn h1 rfl) (fun _ _ x2 _ _ => absurd x2 (by omega))
  · have ep := e12 p z.1 z.2
    refine s_X12_put hp0 hk (by omega) (by omega) r12 (fun z2 _ _ => absurd z2 (by omega)) (fun _ _ x2 _ _ => absurd x2 (by omega)) (fun _ _ _ M1 h1 => ⟨by rw [e8 p z.1 z.2], _, _, _, _, rfl, ?_⟩)
    have m0 : ∀ c, c ≠ 0 → c ≠ 5 → wS M1 5 p k c = M c := fun c y1 y2 => by rw [wS_o y2]; exact h1.1 c y1
    have mj : ∀ j, j ≠ 0 → wS M1 5 p k 0 j = M 0 j := fun j y1 => by rw [wS_o (by decide)]; exact h1.2 j y1
    have tu : ∀ u, u ≠ 0 → wT Tw 0 8 p k u = Tw u := fun u hu => wT_u hu
    have t0 : wT Tw 0 8 p k 0 = plX p k (Tw 0) := wT_0
    rw [Rel_6]
    refine ⟨g1.c rfl rfl (mj 2 (by decide)) (m0 1 (by decide) (by decide)), g2.c ⟨rfl, rfl, rfl, rfl, rfl, rfl⟩ (mj 5 (by decide)) (fun c a b => m0 c (by omega) (by omega)), ?_, g4.c rfl rfl rfl (fun u a b => tu u (by omega)) (mj 25 (by decide)) (m0 16 (by decide) (by decide)), g5.c rfl rfl rfl (fun u a b => tu u (by omega)) (by rw [t0]; rfl) (m0 17 (by decide) (by decide)) (m0 18 (by decide) (by decide)), g6.c (fun _ _ _ => rfl) (mj 35 (by decide)) (fun c a b => m0 c (by omega) (by omega))⟩
    rw [t0]
    obtain ⟨n1, n2, n3, n4, n5⟩ := g3
    refine ⟨plX_ok n1 y, ?_, ?_, fun j a b => ⟨?_, ?_, ?_⟩, fun i a b => ⟨?_, ?_, ?_⟩⟩
    · show wS M1 5 p k 0 4 = _; rw [mj 4 (by decide)]; exact n2
    · show wS M1 5 p k 0 17 = _; rw [mj 17 (by decide)]; exact n3
    · show wS M1 5 p k 4 j = _; rw [m0 4 (by decide) (by decide)]; exact (n4 j a b).1
    · show wS M1 5 p k 2 j = _; rw [m0 2 (by decide) (by decide)]; exact (n4 j a b).2.1
    · show wS M1 5 p k 3 j = _; rw [m0 3 (by decide) (by decide)]; exact (n4 j a b).2.2
    · show wS M1 5 p k 5 i = (if (8 : Nat) = 8 ∧ i = p then k else Tw 0 8 i)
      rw [wS_s, h1.1 5 (by decide)]
      by_cases c : i = p
      · rw [if_pos c, if_pos ⟨rfl, c⟩]
      · rw [if_neg c, if_neg (fun q => c q.2)]; exact (n5 i a b).1
    · show wS M1 5 p k 11 i = _; rw [m0 11 (by decide) (by decide)]; exact (n5 i a b).2.1
    · show wS M1 5 p k 12 i = _; rw [m0 12 (by decide) (by decide)]; exact (n5 i a b).2.2
end SC
