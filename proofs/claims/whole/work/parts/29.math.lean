/-! numbers of a quarter -/
def upF (s h : Int → Int) (k : Int) : Int := h k * s k / 10
def awF (dm h : Int → Int) (k : Int) : Int := h k * dm k / 10
def cmF (s h : Int → Int) (w k : Int) : Int := if k = 0 then 20 * w else upF s h (k - 1)
/-- the heat behind a quarter -/
def nhF (n : Int) (s dm : Int → Int) (w : Int) (h : Int → Int) : Int → Int := fun k => if 0 ≤ k ∧ k < n then h k + (cmF s h w k - upF s h k - awF dm h k) else h k
def sumF (f : Int → Int) : Nat → Int
  | 0 => 0
  | n + 1 => sumF f n + f n
/-- what goes out in a quarter -/
def outF (n : Int) (s dm h : Int → Int) : Int := sumF (awF dm h) n.toNat + upF s h (n - 1)
theorem prodB {a b : Int} (h1 : 0 ≤ a ∧ a ≤ 10000000) (h2 : 0 ≤ b ∧ b ≤ 10) : 0 ≤ a * b ∧ a * b < 2147483648 := by
  have h3 := Int.mul_nonneg h1.1 h2.1
  have h4 := Int.mul_le_mul h1.2 h2.2 h2.1 (by omega : (0 : Int) ≤ 10000000)
  omega
section WT
variable {Tw : Nat → Nat → Int → Int} {S : Nat → Int → Int}
theorem wT_s {t o : Nat} {j v k : Int} : wT Tw t o j v t o k = if k = j then v else Tw t o k := by
  unfold wT
  by_cases h : k = j <;> simp [h]
theorem wT_e {t o : Nat} {j v : Int} : wT Tw t o j v t o j = v := by rw [wT_s, if_pos rfl]
theorem wT_o {t o o' : Nat} {j v : Int} (h : o' ≠ o) : wT Tw t o j v t o' = Tw t o' := by
  funext k
  unfold wT
  rw [if_neg (fun q => h q.2.1)]
theorem wT_u {t u o : Nat} {j v : Int} (h : u ≠ t) : wT Tw t o j v u = Tw u := by
  funext o' k
  unfold wT
  rw [if_neg (fun q => h q.1)]
theorem rT_s {t o : Nat} {g : Int → Int} : rT Tw t o g t o = g := by
  unfold rT
  rw [if_pos ⟨rfl, rfl⟩]
theorem rT_o {t o o' : Nat} {g : Int → Int} (h : o' ≠ o) : rT Tw t o g t o' = Tw t o' := by
  unfold rT
  rw [if_neg (fun q => h q.2)]
theorem rT_u {t u o : Nat} {g : Int → Int} (h : u ≠ t) : rT Tw t o g u = Tw u := by
  funext o'
  unfold rT
  rw [if_neg (fun q => h q.1)]
theorem wS_s {c : Nat} {j v k : Int} : wS S c j v c k = if k = j then v else S c k := by
  unfold wS
  by_cases h : k = j <;> simp [h]
theorem wS_e {c : Nat} {j v : Int} : wS S c j v c j = v := by rw [wS_s, if_pos rfl]
theorem wS_o {c c' : Nat} {j v : Int} (h : c' ≠ c) : wS S c j v c' = S c' := by
  funext k
  unfold wS
  rw [if_neg (fun q => h q.1)]
theorem rS_s {c : Nat} {g : Int → Int} : rS S c g c = g := by
  unfold rS
  rw [if_pos rfl]
theorem rS_o {c c' : Nat} {g : Int → Int} (h : c' ≠ c) : rS S c g c' = S c' := by
  unfold rS
  rw [if_neg h]
end WT
/-- the other towers stay -/
def frT (t : Nat) (Tw Tw' : Nat → Nat → Int → Int) : Prop := ∀ u, u ≠ t → Tw' u = Tw u
theorem frT.rf {t : Nat} {Tw : Nat → Nat → Int → Int} : frT t Tw Tw := fun _ _ => rfl
theorem frT.w {t o : Nat} {j v : Int} {Tw Tw' : Nat → Nat → Int → Int} (h : frT t Tw Tw') : frT t Tw (wT Tw' t o j v) := fun u hu => (wT_u hu).trans (h u hu)
theorem frT.r {t o : Nat} {g : Int → Int} {Tw Tw' : Nat → Nat → Int → Int} (h : frT t Tw Tw') : frT t Tw (rT Tw' t o g) := fun u hu => (rT_u hu).trans (h u hu)
theorem frT.tr {t : Nat} {Tw Tw' Tw2 : Nat → Nat → Int → Int} (h : frT t Tw Tw') (h2 : frT t Tw' Tw2) : frT t Tw Tw2 := fun u hu => (h2 u hu).trans (h u hu)
/-- burn's post: what a quarter makes of the kilns -/
def burnP (t : Nat) (w : Int) (Tw Tw' : Nat → Nat → Int → Int) : Prop := frT t Tw Tw' ∧
  (∀ k, 0 ≤ k → k < 5 → Tw' t 2 k = nhF (Tw t 1 5) (Tw t 3) (Tw t 4) w (Tw t 2) k) ∧ (∀ k, 0 ≤ k → k < Tw t 1 5 → Tw' t 5 k = Tw t 2 k) ∧ (∀ k, 0 ≤ k → k < Tw t 1 5 → Tw' t 6 k = cmF (Tw t 3) (Tw t 2) w k) ∧
  Tw' t 1 5 = Tw t 1 5 ∧ Tw' t 1 6 = Tw t 1 6 + outF (Tw t 1 5) (Tw t 3) (Tw t 4) (Tw t 2) ∧ Tw' t 3 = Tw t 3 ∧ Tw' t 4 = Tw t 4 ∧ (∀ o, 7 ≤ o → Tw' t o = Tw t o)
/-- kilns that burn well -/
def kOk (X : Nat → Int → Int) : Prop := 2 ≤ X 1 5 ∧ X 1 5 ≤ 5 ∧ ∀ k, 0 ≤ k → k < 5 → (0 ≤ X 2 k ∧ X 2 k ≤ 10000000) ∧ (0 ≤ X 3 k ∧ X 3 k ≤ 10) ∧ (0 ≤ X 4 k ∧ X 4 k ≤ 10)
/-- .. and no more than B of heat in all -/
def tOk (X : Nat → Int → Int) (B : Int) : Prop := 2 ≤ X 1 5 ∧ X 1 5 ≤ 5 ∧ (∀ k, 0 ≤ k → k < 5 → 0 ≤ X 3 k ∧ 0 ≤ X 4 k ∧ X 3 k + X 4 k ≤ 10 ∧ 0 ≤ X 2 k) ∧ X 2 0 + X 2 1 + X 2 2 + X 2 3 + X 2 4 ≤ B
theorem tOk.k {X : Nat → Int → Int} {B : Int} (h : tOk X B) (hB : B ≤ 10000000) : kOk X := by
  obtain ⟨h1, h2, h3, h4⟩ := h
  refine ⟨h1, h2, fun k a b => ?_⟩
  have z0 := h3 0 (by omega) (by omega)
  have z1 := h3 1 (by omega) (by omega)
  have z2 := h3 2 (by omega) (by omega)
  have z3 := h3 3 (by omega) (by omega)
  have z4 := h3 4 (by omega) (by omega)
  rcases (show k = 0 ∨ k = 1 ∨ k = 2 ∨ k = 3 ∨ k = 4 by omega) with rfl | rfl | rfl | rfl | rfl <;> omega
/-- heat behind m quarters of w wood each -/
def hIt (n : Int) (s dm : Int → Int) (w : Int) (h : Int → Int) : Nat → Int → Int
  | 0 => h
  | m + 1 => nhF n s dm w (hIt n s dm w h m)
/-- a gale -/
def blF (n : Int) (h : Int → Int) : Int → Int := fun k => if 0 ≤ k ∧ k < n then h k - h k / 10 else h k
theorem nhF_congr {n w : Int} {s dm h h' : Int → Int} (hn : n ≤ 5) (hh : ∀ k, 0 ≤ k → k < 5 → h k = h' k) : ∀ k, 0 ≤ k → k < 5 → nhF n s dm w h k = nhF n s dm w h' k := by
  intro k a b
  unfold nhF cmF upF awF
  by_cases h1 : 0 ≤ k ∧ k < n
  · rw [if_pos h1, if_pos h1, hh k a b]
    by_cases h2 : k = 0
    · rw [if_pos h2, if_pos h2]
    · rw [if_neg h2, if_neg h2, hh (k - 1) (by omega) (by omega)]
  · rw [if_neg h1, if_neg h1, hh k a b]
/-- what leaves a kiln is at most its heat -/
theorem leave_le {h s dm : Int} (h0 : 0 ≤ h) (h1 : 0 ≤ s) (h2 : 0 ≤ dm) (h3 : s + dm ≤ 10) : 0 ≤ h * s / 10 ∧ 0 ≤ h * dm / 10 ∧ h * s / 10 + h * dm / 10 ≤ h := by
  have a := Int.mul_nonneg h0 h1
  have b := Int.mul_nonneg h0 h2
  have c : h * s + h * dm ≤ h * 10 := by rw [← Int.mul_add]; exact Int.mul_le_mul_of_nonneg_left h3 h0
  omega
theorem nhF_sum {n w B : Int} {s dm h : Int → Int} (hn : 2 ≤ n ∧ n ≤ 5) (hw : 0 ≤ w ∧ w ≤ 9) (hk : ∀ k, 0 ≤ k → k < 5 → 0 ≤ s k ∧ 0 ≤ dm k ∧ s k + dm k ≤ 10 ∧ 0 ≤ h k) (hB : h 0 + h 1 + h 2 + h 3 + h 4 ≤ B) :
    (∀ k, 0 ≤ k → k < 5 → 0 ≤ nhF n s dm w h k) ∧ nhF n s dm w h 0 + nhF n s dm w h 1 + nhF n s dm w h 2 + nhF n s dm w h 3 + nhF n s dm w h 4 ≤ B + 180 := by
  have L : ∀ k, 0 ≤ k → k < 5 → 0 ≤ upF s h k ∧ 0 ≤ awF dm h k ∧ upF s h k + awF dm h k ≤ h k := fun k a b => by
    obtain ⟨z1, z2, z3, z4⟩ := hk k a b
    exact leave_le z4 z1 z2 z3
  have l0 := L 0 (by omega) (by omega)
  have l1 := L 1 (by omega) (by omega)
  have l2 := L 2 (by omega) (by omega)
  have l3 := L 3 (by omega) (by omega)
  have l4 := L 4 (by omega) (by omega)
  have c0 : cmF s h w 0 = 20 * w := if_pos rfl
  have c1 : cmF s h w 1 = upF s h 0 := if_neg (by decide)
  have c2 : cmF s h w 2 = upF s h 1 := if_neg (by decide)
  have c3 : cmF s h w 3 = upF s h 2 := if_neg (by decide)
  have c4 : cmF s h w 4 = upF s h 3 := if_neg (by decide)
  have z0 := (hk 0 (by omega) (by omega)).2.2.2
  have z1 := (hk 1 (by omega) (by omega)).2.2.2
  have z2 := (hk 2 (by omega) (by omega)).2.2.2
  have z3 := (hk 3 (by omega) (by omega)).2.2.2
  have z4 := (hk 4 (by omega) (by omega)).2.2.2
  have e0 : nhF n s dm w h 0 = h 0 + (20 * w - upF s h 0 - awF dm h 0) := by unfold nhF; rw [if_pos (by omega), c0]
  have e1 : nhF n s dm w h 1 = h 1 + (upF s h 0 - upF s h 1 - awF dm h 1) := by unfold nhF; rw [if_pos (by omega), c1]
  have e2 : nhF n s dm w h 2 = if 2 < n then h 2 + (upF s h 1 - upF s h 2 - awF dm h 2) else h 2 := by
    unfold nhF; rw [c2]; by_cases q : 2 < n
    · rw [if_pos ⟨by omega, q⟩, if_pos q]
    · rw [if_neg (fun z => q z.2), if_neg q]
  have e3 : nhF n s dm w h 3 = if 3 < n then h 3 + (upF s h 2 - upF s h 3 - awF dm h 3) else h 3 := by
    unfold nhF; rw [c3]; by_cases q : 3 < n
    · rw [if_pos ⟨by omega, q⟩, if_pos q]
    · rw [if_neg (fun z => q z.2), if_neg q]
  have e4 : nhF n s dm w h 4 = if 4 < n then h 4 + (upF s h 3 - upF s h 4 - awF dm h 4) else h 4 := by
    unfold nhF; rw [c4]; by_cases q : 4 < n
    · rw [if_pos ⟨by omega, q⟩, if_pos q]
    · rw [if_neg (fun z => q z.2), if_neg q]
  rw [e0, e1, e2, e3, e4]
  refine ⟨fun k a b => ?_, ?_⟩
  · rcases (show k = 0 ∨ k = 1 ∨ k = 2 ∨ k = 3 ∨ k = 4 by omega) with rfl | rfl | rfl | rfl | rfl
    · rw [e0]; omega
    · rw [e1]; omega
    · rw [e2]; split <;> omega
    · rw [e3]; split <;> omega
    · rw [e4]; split <;> omega
  · by_cases q2 : 2 < n <;> by_cases q3 : 3 < n <;> by_cases q4 : 4 < n <;> simp only [q2, q3, q4, if_true, if_false] <;> omega
theorem tOk.burn {t : Nat} {w B : Int} {Tw Tw' : Nat → Nat → Int → Int} (h : tOk (Tw t) B) (hb : burnP t w Tw Tw') (hw : 0 ≤ w ∧ w ≤ 9) : tOk (Tw' t) (B + 180) := by
  obtain ⟨h1, h2, h3, h4⟩ := h
  obtain ⟨g1, g2, g3, g4, g5, g6, g7, g8, g9⟩ := hb
  obtain ⟨s1, s2⟩ := nhF_sum ⟨h1, h2⟩ hw h3 h4
  refine ⟨by rw [g5]; exact h1, by rw [g5]; exact h2, fun k a b => ?_, ?_⟩
  · obtain ⟨z1, z2, z3, z4⟩ := h3 k a b
    rw [g7, g8, g2 k a b]
    exact ⟨z1, z2, z3, s1 k a b⟩
  · rw [g2 0 (by omega) (by omega), g2 1 (by omega) (by omega), g2 2 (by omega) (by omega), g2 3 (by omega) (by omega), g2 4 (by omega) (by omega)]
    exact s2
