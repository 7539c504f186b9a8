/-! what the constructors make -/
def eqV : Value → Value → Bool
  | .int a, .int b => decide (a = b)
  | .ref a, .ref b => Nat.beq a b
  | .null, .null => true
  | _, _ => false
theorem eqV_ok {a b : Value} (h : eqV a b = true) : a = b := by
  unfold eqV at h
  split at h
  · rw [of_decide_eq_true h]
  · rw [Nat.eq_of_beq_eq_true h]
  · rfl
  · cases h
def eqL : List Value → List Value → Bool
  | [], [] => true
  | a :: s, b :: t => eqV a b && eqL s t
  | _, _ => false
theorem eqL_ok : ∀ {a b : List Value}, eqL a b = true → a = b
  | [], [], _ => rfl
  | a :: s, b :: t, h => by
    rw [eqL, Bool.and_eq_true] at h
    rw [eqV_ok h.1, eqL_ok h.2]
  | [], _ :: _, h => by cases h
  | _ :: _, [], h => by cases h
def eqC : GC → GC → Bool
  | .inl (k, l), .inl (k', l') => Nat.beq k k' && eqL l l'
  | .inr (k, l), .inr (k', l') => Nat.beq k k' && eqL l l'
  | _, _ => false
theorem eqC_ok {a b : GC} (h : eqC a b = true) : a = b := by
  unfold eqC at h
  split at h
  · rw [Bool.and_eq_true] at h
    rw [Nat.eq_of_beq_eq_true h.1, eqL_ok h.2]
  · rw [Bool.and_eq_true] at h
    rw [Nat.eq_of_beq_eq_true h.1, eqL_ok h.2]
  · cases h
def eqH : GH → GH → Bool
  | [], [] => true
  | a :: s, b :: t => eqC a b && eqH s t
  | _, _ => false
theorem eqH_ok : ∀ {a b : GH}, eqH a b = true → a = b
  | [], [], _ => rfl
  | a :: s, b :: t, h => by
    rw [eqH, Bool.and_eq_true] at h
    rw [eqC_ok h.1, eqH_ok h.2]
  | [], _ :: _, h => by cases h
  | _ :: _, [], h => by cases h
def S00 : Nat → Int → Int := fun _ _ => 0
def T00 : Nat → Nat → Int → Int := fun _ o j => if o = 1 then (if j = 5 then 2 else 0) else if o = 3 then 5 else 0
def M00 : Nat → Int → Int := fun c j => if c = 0 then (if j = 4 then 2 else 0) else if c = 2 then 5 else 0
def P00 : Nat → Nat := fun j => j + 1
def boot1 : Option (Option Value × GH) := gRun decI infI 2000 39 82 (11, true, none, 247, 3000, 2) 1 0 (gent 2 [.ref 0]) [] [.inr (11, dfl 11)] 0
def boot2 (h : GH) : Option (Option Value × GH) := gRun decI infI 2000 39 113 (12, true, none, 31, 1000, 2) 249 0 (gent 2 [.ref 248]) [] (h ++ [.inr (12, dfl 12)]) 0
def bootF (b1 : Option (Option Value × GH)) (b2 : GH → Option (Option Value × GH)) (tgt : GH) : Bool := match b1 with
  | some (none, h1) => Nat.beq h1.length 248 && (match b2 h1 with
    | some (none, h2) => eqH h2 tgt
    | _ => false)
  | _ => false
theorem bootF_ok {b1 : Option (Option Value × GH)} {b2 : GH → Option (Option Value × GH)} {tgt : GH} (h : bootF b1 b2 tgt = true) : ∃ h1, b1 = some (none, h1) ∧ h1.length = 248 ∧ b2 h1 = some (none, tgt) := by
  unfold bootF at h
  split at h
  · rename_i h1
    rw [Bool.and_eq_true] at h
    obtain ⟨ha, hb⟩ := h
    refine ⟨h1, rfl, Nat.eq_of_beq_eq_true ha, ?_⟩
    split at hb
    · rename_i h2 e
      rw [e, eqH_ok hb]
    · cases hb
  · cases h
set_option maxRecDepth 1000000 in
theorem boot_ok : bootF boot1 boot2 (hO S00 T00 M00 P00) = true := by decide +kernel
