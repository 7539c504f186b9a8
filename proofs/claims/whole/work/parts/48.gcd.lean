/-! the common divisor and what hangs on it -/
theorem lI_div {a b : Int} (ha : R64 a) (h0 : 0 ≤ a) (hb : R64 b) (hb0 : 0 < b) : lI a / lI b = lI (a / b) := by
  apply Int64.toInt_inj.mp
  have y1 : 0 ≤ a / b := Int.ediv_nonneg h0 (by omega)
  have y2 : a / b ≤ a := Int.ediv_le_self _ h0
  rw [Int64.toInt_div_of_ne_left _ _ (by intro q; have := congrArg Int64.toInt q; rw [lI_toInt ha, Int64.toInt_minValue] at this; omega), lI_toInt ha, lI_toInt hb, lI_toInt ⟨by omega, by omega⟩, Int.tdiv_eq_ediv_of_nonneg h0]
theorem lI_ne0 {b : Int} (hb : R64 b) (h : b ≠ 0) : ¬ lI b = 0 := by
  intro q
  have := congrArg Int64.toInt q
  rw [lI_toInt hb] at this
  exact h (by simpa using this)
theorem lI_sub (a b : Int) : lI a - lI b = lI (a - b) := (Int64.ofInt_sub a b).symm
theorem lI_rem {a b : Int} (ha : R64 a) (h0 : 0 ≤ a) (hb : R64 b) (hb0 : 0 < b) : lI a - lI a / lI b * lI b = lI (a % b) := by
  rw [lI_div ha h0 hb hb0, lI_mul, lI_sub]
  refine congrArg lI ?_
  rw [Int.emod_def, Int.mul_comm]
section LD
variable {xs : Option (List Int32)} {d cn : Nat} {ini : Bool} {ret : Option FieldType} {mc ms n0 : Nat} {cc : ByteArray} {Q : Option Value → GH → Prop} {ns pc : Nat} {loc : GL} {st : List Value} {hp : GH}
theorem g_lrem {a b : Int} {pc' : Nat} (hd : decode cc pc = .ok (.lrem, 1)) (ha : R64 a) (h0 : 0 ≤ a) (hb : R64 b) (hb0 : 0 < b) (hpc : pc + 1 = pc') (k : G xs d cn ini ret mc ms n0 cc Q ns pc' loc (.long (lI (a % b)) :: st) hp) : G xs d cn ini ret mc ms n0 cc Q ns pc loc (.long (lI b) :: .long (lI a) :: st) hp := by
  refine g_s (stk' := .long (lI (a % b)) :: st) hd ?_ rfl hpc k
  unfold gAlu
  simp only [if_neg (lI_ne0 hb (by omega)), lI_rem ha h0 hb hb0]
theorem g_ldiv {a b : Int} {pc' : Nat} (hd : decode cc pc = .ok (.ldiv, 1)) (ha : R64 a) (h0 : 0 ≤ a) (hb : R64 b) (hb0 : 0 < b) (hpc : pc + 1 = pc') (k : G xs d cn ini ret mc ms n0 cc Q ns pc' loc (.long (lI (a / b)) :: st) hp) : G xs d cn ini ret mc ms n0 cc Q ns pc loc (.long (lI b) :: .long (lI a) :: st) hp := by
  refine g_s (stk' := .long (lI (a / b)) :: st) hd ?_ rfl hpc k
  unfold gAlu
  simp only [if_neg (lI_ne0 hb (by omega)), lI_div ha h0 hb hb0]
end LD
/-- m steps at most -/
def gcF : Nat → Int → Int → Int
  | 0, a, _ => a
  | m + 1, a, b => if b = 0 then a else gcF m b (a % b)
theorem gcF_in : ∀ (m : Nat) {a b : Int}, 0 ≤ a → 0 ≤ b → 0 ≤ gcF m a b ∧ gcF m a b ≤ a + b
  | 0, a, b, h, g => ⟨h, by show a ≤ a + b; omega⟩
  | m + 1, a, b, h, g => by
    rw [gcF]
    split
    · omega
    · have y1 := Int.emod_nonneg a (show b ≠ 0 by assumption)
      have y2 := Int.emod_lt_of_pos a (show 0 < b by omega)
      have y3 : a % b ≤ a := by
        rw [Int.emod_def]
        have := Int.mul_nonneg g (Int.ediv_nonneg h g)
        omega
      have := gcF_in m g y1
      omega
section CD
variable {S : Nat → Int → Int} {Tw : Nat → Nat → Int → Int} {M : Nat → Int → Int} {P : Nat → Nat} {d : Nat} {Q : Option Value → GH → Prop}
theorem s_X11_commonDivisor {a b : Int} (ha : 0 ≤ a ∧ a ≤ 4000000000000000000) (hb : 0 ≤ b ∧ b ≤ 4000000000000000000) (hq : Q (some (.long (lI (gcF 200 a b)))) (hO S Tw M P)) : CallD (d + 1) 112 [.long (lI a), .long (lI b)] (hO S Tw M P) Q := by
  refine g_enter (loc := [some _, _, some _, _, _, _, _, _, _, _, _]) e_X11_commonDivisor i_X11_commonDivisor (Nat.le_of_ble_eq_true rfl) rfl ?_
  refine g_l dX11_commonDivisor_0 rfl rfl ?_
  refine g_l (loc' := [some _, _, some _, _, some _, _, _, _, _, _, _]) dX11_commonDivisor_1 rfl rfl ?_
  refine g_l dX11_commonDivisor_3 rfl rfl ?_
  refine g_l (loc' := [some _, _, some _, _, some _, _, some _, _, _, _, _]) dX11_commonDivisor_4 rfl rfl ?_
  refine g_iconst dX11_commonDivisor_6 rfl ?_
  refine g_l (loc' := [some _, _, some _, _, some _, _, some _, _, some _, _, _]) dX11_commonDivisor_7 rfl rfl ?_
  have loop : ∀ (m : Nat) (i g s : Int) (z9 z10 : Option Value), 0 ≤ i → i ≤ 200 → (200 - i).toNat = m → 0 ≤ g ∧ g ≤ 4000000000000000000 → 0 ≤ s ∧ s ≤ 4000000000000000000 → gcF m g s = gcF 200 a b →
      G none d 11 false (some .long) 0 0 (hO S Tw M P).length cX11_commonDivisor Q 0 9 [some (.long (lI a)), none, some (.long (lI b)), none, some (.long (lI g)), none, some (.long (lI s)), none, some (.int (iI i)), z9, z10] [] (hO S Tw M P) := by
    intro m
    induction m with
    | zero =>
      intro i g s z9 z10 b1 b2 hm hg hs hz
      rw [gcF] at hz
      rw [← hz] at hq
      refine g_l dX11_commonDivisor_9 rfl rfl ?_
      refine g_sipush dX11_commonDivisor_11 (by decide) rfl ?_
      refine g_icmp_ge (t := 45) dX11_commonDivisor_14 (by decide) rfl (by omega) (by omega) (fun c_14 => ?_) (fun c_14 => False.elim (by omega))
      refine g_l dX11_commonDivisor_45 rfl rfl ?_
      refine g_retL dX11_commonDivisor_47 rfl rfl ?_
      exact hq
    | succ m ih =>
      intro i g s z9 z10 b1 b2 hm hg hs hz
      rw [gcF] at hz
      refine g_l dX11_commonDivisor_9 rfl rfl ?_
      refine g_sipush dX11_commonDivisor_11 (by decide) rfl ?_
      refine g_icmp_ge (t := 45) dX11_commonDivisor_14 (by decide) rfl (by omega) (by omega) (fun c_14 => False.elim (by omega)) (fun c_14 => ?_)
      refine g_l dX11_commonDivisor_17 rfl rfl ?_
      refine g_lconst0 dX11_commonDivisor_19 rfl rfl ?_
      refine g_lcmp dX11_commonDivisor_20 (by omega) (by decide) rfl ?_
      have rc : R32 (cmp3 s 0) := by
        unfold cmp3
        split
        · omega
        · split <;> omega
      have ec : cmp3 s 0 = 0 ↔ s = 0 := by
        unfold cmp3
        split
        · omega
        · split <;> omega
      refine g_if_eq (t := 45) dX11_commonDivisor_21 (by decide) rfl (by omega) (fun c_21 => ?_) (fun c_21 => ?_)
      · rw [if_pos (ec.mp c_21)] at hz
        rw [← hz] at hq
        refine g_l dX11_commonDivisor_45 rfl rfl ?_
        refine g_retL dX11_commonDivisor_47 rfl rfl ?_
        exact hq
      · have hs0 : 0 < s := by have := mt ec.mpr c_21; omega
        rw [if_neg (by omega)] at hz
        have y1 := Int.emod_nonneg g (show s ≠ 0 by omega)
        have y2 := Int.emod_lt_of_pos g hs0
        refine g_l dX11_commonDivisor_24 rfl rfl ?_
        refine g_l dX11_commonDivisor_26 rfl rfl ?_
        refine g_lrem dX11_commonDivisor_28 (by omega) hg.1 (by omega) hs0 rfl ?_
        refine g_l (loc' := [some _, _, some _, _, some _, _, some _, _, some _, some _, _]) dX11_commonDivisor_29 rfl rfl ?_
        refine g_l dX11_commonDivisor_31 rfl rfl ?_
        refine g_l (loc' := [some _, _, some _, _, some _, _, some _, _, some _, some _, _]) dX11_commonDivisor_33 rfl rfl ?_
        refine g_l dX11_commonDivisor_35 rfl rfl ?_
        refine g_l (loc' := [some _, _, some _, _, some _, _, some _, _, some _, some _, _]) dX11_commonDivisor_37 rfl rfl ?_
        refine g_iinc (loc' := [some _, _, some _, _, some _, _, some _, _, some _, some _, _]) dX11_commonDivisor_39 rfl rfl rfl ?_
        refine g_goto (t := 9) dX11_commonDivisor_42 (by decide) ?_
        exact ih (i + 1) s (g % s) _ _ (by omega) (by omega) (by omega) hs (by omega) hz
  exact loop 200 0 a b _ _ (by omega) (by omega) rfl ha hb rfl
/-- the part above or below -/
def ptF (a b up : Int) : Int := if gcF 200 a b = 0 then (if up = 0 then 1 else 0) else (if up = 0 then b else a) / gcF 200 a b
theorem s_X11_part {a b up : Int} (ha : 0 ≤ a ∧ a ≤ 2000000000000000000) (hb : 0 ≤ b ∧ b ≤ 2000000000000000000) (hu : up = 0 ∨ up = 1) (hq : Q (some (.long (lI (ptF a b up)))) (hO S Tw M P)) : CallD (d + 2) 111 [.long (lI a), .long (lI b), .int (iI up)] (hO S Tw M P) Q := by
  have hg := gcF_in 200 ha.1 hb.1
  unfold ptF at hq
  refine g_enter (loc := [some _, _, some _, _, some _, _, _]) e_X11_part i_X11_part (Nat.le_of_ble_eq_true rfl) rfl ?_
  refine g_l dX11_part_0 rfl rfl ?_
  refine g_l dX11_part_1 rfl rfl ?_
  refine g_callS dX11_part_2 m_11_253 (n := 2) rfl (by exact Nat.le_of_ble_eq_true rfl) (by exact Nat.le_of_ble_eq_true rfl) (by rfl) (by rfl) (by rfl) ?_
  refine s_X11_commonDivisor (by omega) (by omega) ?_
  simp only [Option.toList_some, Option.toList_none, List.cons_append, List.nil_append]
  generalize gcF 200 a b = g at hg hq ⊢
  refine g_l (loc' := [some _, _, some _, _, some _, some _, _]) dX11_part_5 rfl rfl ?_
  refine g_l dX11_part_7 rfl rfl ?_
  refine g_lconst0 dX11_part_9 rfl rfl ?_
  refine g_lcmp dX11_part_10 (by omega) (by decide) rfl ?_
  have rc : R32 (cmp3 g 0) := by
    unfold cmp3
    split
    · omega
    · split <;> omega
  have ec : cmp3 g 0 = 0 ↔ g = 0 := by
    unfold cmp3
    split
    · omega
    · split <;> omega
  refine g_if_ne (t := 25) dX11_part_11 (by decide) rfl (by omega) (fun c_11 => ?_) (fun c_11 => ?_)
  · have hg0 : 0 < g := by have := mt ec.mpr c_11; omega
    rw [if_neg (by omega)] at hq
    refine g_l dX11_part_25 rfl rfl ?_
    refine g_if_eq (t := 34) dX11_part_27 (by decide) rfl (by omega) (fun c_27 => ?_) (fun c_27 => ?_)
    · rw [if_pos c_27] at hq
      refine g_l dX11_part_34 rfl rfl ?_
      refine g_l dX11_part_35 rfl rfl ?_
      refine g_ldiv dX11_part_37 (by omega) hb.1 (by omega) hg0 rfl ?_
      refine g_retL dX11_part_38 rfl rfl ?_
      exact hq
    · rw [if_neg c_27] at hq
      refine g_l dX11_part_30 rfl rfl ?_
      refine g_goto (t := 35) dX11_part_31 (by decide) ?_
      refine g_l dX11_part_35 rfl rfl ?_
      refine g_ldiv dX11_part_37 (by omega) ha.1 (by omega) hg0 rfl ?_
      refine g_retL dX11_part_38 rfl rfl ?_
      exact hq
  · have hg0 : g = 0 := ec.mp (by omega)
    rw [if_pos hg0] at hq
    refine g_l dX11_part_14 rfl rfl ?_
    refine g_if_eq (t := 23) dX11_part_16 (by decide) rfl (by omega) (fun c_16 => ?_) (fun c_16 => ?_)
    · rw [if_pos c_16] at hq
      refine g_lconst1 dX11_part_23 rfl rfl ?_
      refine g_retL dX11_part_24 rfl rfl ?_
      exact hq
    · rw [if_neg c_16] at hq
      refine g_lconst0 dX11_part_19 rfl rfl ?_
      refine g_goto (t := 24) dX11_part_20 (by decide) ?_
      refine g_retL dX11_part_24 rfl rfl ?_
      exact hq
end CD
