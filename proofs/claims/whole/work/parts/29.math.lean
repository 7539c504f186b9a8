/-! numbers of a quarter -/
def upF (s h : Int → Int) (k : Int) : Int := h k * s k / 10
def awF (dm h : Int → Int) (k : Int) : Int := h k * dm k / 10
def cmF (s h : Int → Int) (w k : Int) : Int := if k = 0 then 20 * w else upF s h (k - 1)
/-- the heat behind a quarter -/
def nhF (n : Int) (s dm : Int → Int) (w : Int) (h : Int → Int) : Int → Int := fun k => if 0 ≤ k ∧ k < n then h k + (cmF s h w k - upF s h k - awF dm h k) else h k
def sumF (f : Int → Int) : Nat → Int
  | 0 => 0
  | n + 1 => sumF f n + f n
/-- what goes out in a quarter -/
def outF (n : Int) (s dm h : Int → Int) : Int := sumF (awF dm h) n.toNat + upF s h (n - 1)
theorem prodB {a b : Int} (h1 : 0 ≤ a ∧ a ≤ 10000000) (h2 : 0 ≤ b ∧ b ≤ 10) : 0 ≤ a * b ∧ a * b < 2147483648 := by
  have h3 := Int.mul_nonneg h1.1 h2.1
  have h4 := Int.mul_le_mul h1.2 h2.2 h2.1 (by omega : (0 : Int) ≤ 10000000)
  omega
section WT
variable {Tw : Nat → Nat → Int → Int} {S : Nat → Int → Int}
theorem wT_s {t o : Nat} {j v k : Int} : wT Tw t o j v t o k = if k = j then v else Tw t o k := by
  unfold wT
  by_cases h : k = j <;> simp [h]
theorem wT_e {t o : Nat} {j v : Int} : wT Tw t o j v t o j = v := by rw [wT_s, if_pos rfl]
theorem wT_o {t o o' : Nat} {j v : Int} (h : o' ≠ o) : wT Tw t o j v t o' = Tw t o' := by
  funext k
  unfold wT
  rw [if_neg (fun q => h q.2.1)]
theorem wT_u {t u o : Nat} {j v : Int} (h : u ≠ t) : wT Tw t o j v u = Tw u := by
  funext o' k
  unfold wT
  rw [if_neg (fun q => h q.1)]
theorem rT_s {t o : Nat} {g : Int → Int} : rT Tw t o g t o = g := by
  unfold rT
  rw [if_pos ⟨rfl, rfl⟩]
theorem rT_o {t o o' : Nat} {g : Int → Int} (h : o' ≠ o) : rT Tw t o g t o' = Tw t o' := by
  unfold rT
  rw [if_neg (fun q => h q.2)]
theorem rT_u {t u o : Nat} {g : Int → Int} (h : u ≠ t) : rT Tw t o g u = Tw u := by
  funext o'
  unfold rT
  rw [if_neg (fun q => h q.1)]
theorem wS_s {c : Nat} {j v k : Int} : wS S c j v c k = if k = j then v else S c k := by
  unfold wS
  by_cases h : k = j <;> simp [h]
theorem wS_e {c : Nat} {j v : Int} : wS S c j v c j = v := by rw [wS_s, if_pos rfl]
theorem wS_o {c c' : Nat} {j v : Int} (h : c' ≠ c) : wS S c j v c' = S c' := by
  funext k
  unfold wS
  rw [if_neg (fun q => h q.1)]
theorem rS_s {c : Nat} {g : Int → Int} : rS S c g c = g := by
  unfold rS
  rw [if_pos rfl]
theorem rS_o {c c' : Nat} {g : Int → Int} (h : c' ≠ c) : rS S c g c' = S c' := by
  unfold rS
  rw [if_neg h]
end WT
/-- the other towers stay -/
def frT (t : Nat) (Tw Tw' : Nat → Nat → Int → Int) : Prop := ∀ u, u ≠ t → Tw' u = Tw u
theorem frT.rf {t : Nat} {Tw : Nat → Nat → Int → Int} : frT t Tw Tw := fun _ _ => rfl
theorem frT.w {t o : Nat} {j v : Int} {Tw Tw' : Nat → Nat → Int → Int} (h : frT t Tw Tw') : frT t Tw (wT Tw' t o j v) := fun u hu => (wT_u hu).trans (h u hu)
theorem frT.r {t o : Nat} {g : Int → Int} {Tw Tw' : Nat → Nat → Int → Int} (h : frT t Tw Tw') : frT t Tw (rT Tw' t o g) := fun u hu => (rT_u hu).trans (h u hu)
theorem frT.tr {t : Nat} {Tw Tw' Tw2 : Nat → Nat → Int → Int} (h : frT t Tw Tw') (h2 : frT t Tw' Tw2) : frT t Tw Tw2 := fun u hu => (h2 u hu).trans (h u hu)
