/-! counting bits, powers, the ways in which gales come -/
def lI (a : Int) : Int64 := Int64.ofInt a
theorem lI_add (a b : Int) : lI a + lI b = lI (a + b) := (Int64.ofInt_add a b).symm
theorem lI_mul (a b : Int) : lI a * lI b = lI (a * b) := (Int64.ofInt_mul a b).symm
abbrev R64 (a : Int) : Prop := -9223372036854775808 ≤ a ∧ a < 9223372036854775808
theorem lI_toInt {a : Int} (h : R64 a) : (lI a).toInt = a := by
  unfold lI
  exact Int64.toInt_ofInt_of_le (by omega) (by omega)
theorem lI_of (x : Int64) : lI x.toInt = x := Int64.ofInt_toInt x
theorem iI_long {a : Int} (h : R32 a) : (iI a).toInt64 = lI a := by
  rw [← lI_of (iI a).toInt64, Int32.toInt_toInt64, iI_toInt h]
/-- the bits of a number below 512 -/
def bcF (a : Int) : Int := a % 2 + a / 2 % 2 + a / 4 % 2 + a / 8 % 2 + a / 16 % 2 + a / 32 % 2 + a / 64 % 2 + a / 128 % 2 + a / 256 % 2
def bcS (x : Int32) (n : Int32) : Int32 := (x.toUInt32 >>> (n.toUInt32 &&& Int32.toUInt32 31)).toInt32
def bc1 (x : Int32) : Int32 := x - (bcS x (iI 1) &&& 1431655765)
def bc2 (x : Int32) : Int32 := (x &&& 858993459) + (bcS x (iI 2) &&& 858993459)
def bc3 (x : Int32) : Int32 := (x + bcS x (iI 4)) &&& 252645135
def bc4 (x : Int32) : Int32 := x + bcS x (iI 8)
def bc5 (x : Int32) : Int32 := (x + bcS x (iI 16))
def bc6 (x : Int32) : Int32 := x &&& iI 63
theorem bc_all : ∀ i : Fin 512, bc6 (bc5 (bc4 (bc3 (bc2 (bc1 (iI ((i.val : Nat) : Int))))))) = iI (bcF ((i.val : Nat) : Int)) := by decide +kernel
section BC
variable {xs : Option (List Int32)} {d cn : Nat} {ini : Bool} {ret : Option FieldType} {mc ms n0 : Nat} {cc : ByteArray} {Q : Option Value → GH → Prop} {ns pc : Nat} {loc : GL} {stk st : List Value} {hp : GH}
theorem g_ladd {a b : Int} {pc' : Nat} (hd : decode cc pc = .ok (.ladd, 1)) (hpc : pc + 1 = pc') (k : G xs d cn ini ret mc ms n0 cc Q ns pc' loc (.long (lI (a + b)) :: st) hp) : G xs d cn ini ret mc ms n0 cc Q ns pc loc (.long (lI b) :: .long (lI a) :: st) hp := by
  rw [← lI_add] at k
  exact g_s hd rfl rfl hpc k
theorem g_lmul {a b : Int} {pc' : Nat} (hd : decode cc pc = .ok (.lmul, 1)) (hpc : pc + 1 = pc') (k : G xs d cn ini ret mc ms n0 cc Q ns pc' loc (.long (lI (a * b)) :: st) hp) : G xs d cn ini ret mc ms n0 cc Q ns pc loc (.long (lI b) :: .long (lI a) :: st) hp := by
  rw [← lI_mul] at k
  exact g_s hd rfl rfl hpc k
theorem g_i2l {a : Int} {pc' : Nat} (hd : decode cc pc = .ok (.i2l, 1)) (ha : R32 a) (hpc : pc + 1 = pc') (k : G xs d cn ini ret mc ms n0 cc Q ns pc' loc (.long (lI a) :: st) hp) : G xs d cn ini ret mc ms n0 cc Q ns pc loc (.int (iI a) :: st) hp := by
  rw [← iI_long ha] at k
  exact g_s hd rfl rfl hpc k
theorem g_lconst0 {n : Fin 2} {pc' : Nat} (hd : decode cc pc = .ok (.lconst n, 1)) (hn : n = 0) (hpc : pc + 1 = pc') (k : G xs d cn ini ret mc ms n0 cc Q ns pc' loc (.long (lI 0) :: stk) hp) : G xs d cn ini ret mc ms n0 cc Q ns pc loc stk hp := by
  subst hn
  exact g_s hd rfl rfl hpc k
theorem g_lconst1 {n : Fin 2} {pc' : Nat} (hd : decode cc pc = .ok (.lconst n, 1)) (hn : n = 1) (hpc : pc + 1 = pc') (k : G xs d cn ini ret mc ms n0 cc Q ns pc' loc (.long (lI 1) :: stk) hp) : G xs d cn ini ret mc ms n0 cc Q ns pc loc stk hp := by
  subst hn
  exact g_s hd rfl rfl hpc k
/-- how two compare -/
def cmp3 (a b : Int) : Int := if b < a then 1 else if a = b then 0 else -1
theorem g_lcmp {a b : Int} {pc' : Nat} (hd : decode cc pc = .ok (.lcmp, 1)) (ha : R64 a) (hb : R64 b) (hpc : pc + 1 = pc') (k : G xs d cn ini ret mc ms n0 cc Q ns pc' loc (.int (iI (cmp3 a b)) :: st) hp) : G xs d cn ini ret mc ms n0 cc Q ns pc loc (.long (lI b) :: .long (lI a) :: st) hp := by
  refine g_s (stk' := .int (iI (cmp3 a b)) :: st) hd ?_ rfl hpc k
  show some (Value.int (lg_cmp (lI a) (lI b)) :: st) = _
  have e : lg_cmp (lI a) (lI b) = iI (cmp3 a b) := by
    unfold lg_cmp cmp3
    simp only [gt_iff_lt, Int64.lt_iff_toInt_lt, ← Int64.toInt_inj, lI_toInt ha, lI_toInt hb]
    by_cases z1 : b < a
    · rw [if_pos z1, if_pos z1]; rfl
    · by_cases z2 : a = b
      · rw [if_neg z1, if_neg z1, if_pos z2, if_pos z2]; rfl
      · rw [if_neg z1, if_neg z1, if_neg z2, if_neg z2]; rfl
  rw [e]
end BC
/-- a power -/
def pwF (b : Int) : Nat → Int
  | 0 => 1
  | n + 1 => pwF b n * b
theorem pwF_in {b : Int} (h : 0 ≤ b ∧ b ≤ 10) : ∀ n : Nat, 0 ≤ pwF b n ∧ pwF b n ≤ pwF 10 n
  | 0 => ⟨by show (0 : Int) ≤ 1; decide, by show (1 : Int) ≤ 1; decide⟩
  | n + 1 => by
    obtain ⟨h1, h2⟩ := pwF_in h n
    refine ⟨Int.mul_nonneg h1 h.1, ?_⟩
    show pwF b n * b ≤ pwF 10 n * 10
    exact Int.mul_le_mul h2 h.2 h.1 (by omega)
section PW
variable {S : Nat → Int → Int} {Tw : Nat → Nat → Int → Int} {M : Nat → Int → Int} {P : Nat → Nat} {d : Nat} {Q : Option Value → GH → Prop}
theorem s_J6_bitCount {a : Int} (ha : 0 ≤ a ∧ a < 512) (hq : Q (some (.int (iI (bcF a)))) (hO S Tw M P)) : CallD (d + 1) 164 [.int (iI a)] (hO S Tw M P) Q := by
  have e := bc_all ⟨a.toNat, by omega⟩
  simp only [Int.toNat_of_nonneg ha.1] at e
  rw [← e] at hq
  refine g_enter (loc := [some _]) e_J6_bitCount_0f7a4 i_J6_bitCount_0f7a4 (Nat.le_of_ble_eq_true rfl) rfl ?_
  refine g_l dJ6_bitCount_0f7a4_0 rfl rfl ?_
  refine g_l dJ6_bitCount_0f7a4_1 rfl rfl ?_
  refine g_iconst dJ6_bitCount_0f7a4_2 rfl ?_
  refine g_s dJ6_bitCount_0f7a4_3 rfl rfl rfl ?_
  refine g_ldc_w dJ6_bitCount_0f7a4_4 k_13_265 rfl ?_
  refine g_s dJ6_bitCount_0f7a4_7 rfl rfl rfl ?_
  refine g_s dJ6_bitCount_0f7a4_8 rfl rfl rfl ?_
  refine g_l (loc' := [some _]) dJ6_bitCount_0f7a4_9 rfl rfl ?_
  change G _ _ _ _ _ _ _ _ _ _ _ _ [some (.int (bc1 (iI a)))] _ _
  generalize bc1 (iI a) = x1 at hq ⊢
  refine g_l dJ6_bitCount_0f7a4_10 rfl rfl ?_
  refine g_ldc_w dJ6_bitCount_0f7a4_11 k_13_266 rfl ?_
  refine g_s dJ6_bitCount_0f7a4_14 rfl rfl rfl ?_
  refine g_l dJ6_bitCount_0f7a4_15 rfl rfl ?_
  refine g_iconst dJ6_bitCount_0f7a4_16 rfl ?_
  refine g_s dJ6_bitCount_0f7a4_17 rfl rfl rfl ?_
  refine g_ldc_w dJ6_bitCount_0f7a4_18 k_13_266 rfl ?_
  refine g_s dJ6_bitCount_0f7a4_21 rfl rfl rfl ?_
  refine g_s dJ6_bitCount_0f7a4_22 rfl rfl rfl ?_
  refine g_l (loc' := [some _]) dJ6_bitCount_0f7a4_23 rfl rfl ?_
  change G _ _ _ _ _ _ _ _ _ _ _ _ [some (.int (bc2 x1))] _ _
  generalize bc2 x1 = x2 at hq ⊢
  refine g_l dJ6_bitCount_0f7a4_24 rfl rfl ?_
  refine g_l dJ6_bitCount_0f7a4_25 rfl rfl ?_
  refine g_iconst dJ6_bitCount_0f7a4_26 rfl ?_
  refine g_s dJ6_bitCount_0f7a4_27 rfl rfl rfl ?_
  refine g_s dJ6_bitCount_0f7a4_28 rfl rfl rfl ?_
  refine g_ldc_w dJ6_bitCount_0f7a4_29 k_13_267 rfl ?_
  refine g_s dJ6_bitCount_0f7a4_32 rfl rfl rfl ?_
  refine g_l (loc' := [some _]) dJ6_bitCount_0f7a4_33 rfl rfl ?_
  change G _ _ _ _ _ _ _ _ _ _ _ _ [some (.int (bc3 x2))] _ _
  generalize bc3 x2 = x3 at hq ⊢
  refine g_l dJ6_bitCount_0f7a4_34 rfl rfl ?_
  refine g_l dJ6_bitCount_0f7a4_35 rfl rfl ?_
  refine g_bipush dJ6_bitCount_0f7a4_36 (by decide) rfl ?_
  refine g_s dJ6_bitCount_0f7a4_38 rfl rfl rfl ?_
  refine g_s dJ6_bitCount_0f7a4_39 rfl rfl rfl ?_
  refine g_l (loc' := [some _]) dJ6_bitCount_0f7a4_40 rfl rfl ?_
  change G _ _ _ _ _ _ _ _ _ _ _ _ [some (.int (bc4 x3))] _ _
  generalize bc4 x3 = x4 at hq ⊢
  refine g_l dJ6_bitCount_0f7a4_41 rfl rfl ?_
  refine g_l dJ6_bitCount_0f7a4_42 rfl rfl ?_
  refine g_bipush dJ6_bitCount_0f7a4_43 (by decide) rfl ?_
  refine g_s dJ6_bitCount_0f7a4_45 rfl rfl rfl ?_
  refine g_s dJ6_bitCount_0f7a4_46 rfl rfl rfl ?_
  refine g_l (loc' := [some _]) dJ6_bitCount_0f7a4_47 rfl rfl ?_
  change G _ _ _ _ _ _ _ _ _ _ _ _ [some (.int (bc5 x4))] _ _
  generalize bc5 x4 = x5 at hq ⊢
  refine g_l dJ6_bitCount_0f7a4_48 rfl rfl ?_
  refine g_bipush dJ6_bitCount_0f7a4_49 (by decide) rfl ?_
  refine g_s dJ6_bitCount_0f7a4_51 rfl rfl rfl ?_
  exact g_ret dJ6_bitCount_0f7a4_52 rfl (Or.inl rfl) hq
theorem s_X3_power {b n : Int} (hb : R32 b) (hn : 0 ≤ n ∧ n ≤ 9) (hq : Q (some (.long (lI (pwF b n.toNat)))) (hO S Tw M P)) : CallD (d + 1) 32 [.int (iI b), .int (iI n)] (hO S Tw M P) Q := by
  refine g_enter (loc := [some _, some _, _, _, _]) e_X3_power i_X3_power (Nat.le_of_ble_eq_true rfl) rfl ?_
  refine g_lconst1 dX3_power_0 rfl rfl ?_
  refine g_l (loc' := [some _, some _, some _, _, _]) dX3_power_1 rfl rfl ?_
  refine g_iconst dX3_power_2 rfl ?_
  refine g_l (loc' := [some _, some _, some _, _, some _]) dX3_power_3 rfl rfl ?_
  have loop : ∀ (m : Nat) (i : Int), 0 ≤ i → i ≤ n → (n - i).toNat = m →
      G none d 3 false (some .long) 0 0 (hO S Tw M P).length cX3_power Q 0 5 [some (.int (iI b)), some (.int (iI n)), some (.long (lI (pwF b i.toNat))), none, some (.int (iI i))] [] (hO S Tw M P) := by
    intro m
    induction m with
    | zero =>
      intro i h0 h5 hm
      have e : i = n := by omega
      subst e
      refine g_l dX3_power_5 rfl rfl ?_
      refine g_l dX3_power_7 rfl rfl ?_
      refine g_icmp_ge (t := 22) dX3_power_8 (by decide) rfl (by omega) (by omega) (fun c_8 => ?_) (fun c_8 => False.elim (by omega))
      refine g_l dX3_power_22 rfl rfl ?_
      refine g_retL dX3_power_23 rfl rfl ?_
      exact hq
    | succ m ih =>
      intro i h0 h5 hm
      refine g_l dX3_power_5 rfl rfl ?_
      refine g_l dX3_power_7 rfl rfl ?_
      refine g_icmp_ge (t := 22) dX3_power_8 (by decide) rfl (by omega) (by omega) (fun c_8 => False.elim (by omega)) (fun c_8 => ?_)
      refine g_l dX3_power_11 rfl rfl ?_
      refine g_l dX3_power_12 rfl rfl ?_
      refine g_i2l dX3_power_13 hb rfl ?_
      refine g_lmul dX3_power_14 rfl ?_
      have e : pwF b i.toNat * b = pwF b (i + 1).toNat := by rw [show (i + 1).toNat = i.toNat + 1 by omega]; rfl
      rw [e]
      refine g_l (loc' := [some _, some _, some _, _, some _]) dX3_power_15 rfl rfl ?_
      refine g_iinc (loc' := [some _, some _, some _, _, some _]) dX3_power_16 rfl rfl rfl ?_
      refine g_goto (t := 5) dX3_power_19 (by decide) ?_
      exact ih (i + 1) (by omega) (by omega) (by omega)
  exact loop n.toNat 0 (by omega) hn.1 (by rw [Int.sub_zero])
end PW
theorem bc_le : ∀ n : Fin 10, ∀ j : Fin 512, j.val < 2 ^ n.val → bcF ((j.val : Nat) : Int) ≤ ((n.val : Nat) : Int) := by decide +kernel
theorem bc_0 : ∀ j : Fin 512, 0 ≤ bcF ((j.val : Nat) : Int) := by decide +kernel
theorem sh_1 : ∀ n : Fin 10, bShl 1 ((n.val : Nat) : Int) = ((2 ^ n.val : Nat) : Int) ∧ 2 ^ n.val ≤ 512 := by decide +kernel
theorem pw_9 : pwF 10 9 = 1000000000 := by decide +kernel
theorem pw_mono : ∀ n : Fin 10, pwF 10 n.val ≤ 1000000000 ∧ 1 ≤ pwF 10 n.val := by decide +kernel
/-- the weight of winds j -/
def wtF (n x : Int) (j : Int) : Int := pwF x (bcF j).toNat * pwF (10 - x) (n - bcF j).toNat
/-- the ways below m in which p is cracked -/
noncomputable def cwL (S : Nat → Int → Int) (X : Nat → Int → Int) (p sb n w x : Int) : Nat → Int
  | 0 => 0
  | m + 1 => cwL S X p sb n w x m + (if crL S p sb w (m : Int) n.toNat 0 X 10 p = 2 then wtF n x m else 0)
section CW
variable {S : Nat → Int → Int} {Tw : Nat → Nat → Int → Int} {M : Nat → Int → Int} {P : Nat → Nat} {d : Nat} {Q : Option Value → GH → Prop}
theorem s_X3_crackingWays {p n w x B : Int} (hp : pOk S) (hk : twOk S (Tw 0) B) (hB : B ≤ 900000) (hp0 : 0 ≤ p ∧ p < S 13 5) (hn : 0 ≤ n ∧ n ≤ 9) (hw : 0 ≤ w ∧ w ≤ 9) (hx : 0 ≤ x ∧ x ≤ 10)
    (hq : ∀ Tw', frT 15 Tw Tw' → Q (some (.long (lI (cwL S (Tw 0) p (sbF S (Tw 0) (Tw 0 8 p)) n w x (2 ^ n.toNat))))) (hO S Tw' M P)) : CallD (d + 5) 30 [.ref 205, .int (iI p), .int (iI n), .int (iI w), .int (iI x)] (hO S Tw M P) Q := by
  have hsh := sh_1 ⟨n.toNat, by omega⟩
  simp only [Int.toNat_of_nonneg hn.1] at hsh
  obtain ⟨N, hN⟩ : ∃ N, N = 2 ^ n.toNat := ⟨_, rfl⟩
  rw [← hN] at hsh hq
  refine g_enter (loc := [some _, some _, some _, some _, some _, _, _, _, _, _, _]) e_X3_crackingWays i_X3_crackingWays (Nat.le_of_ble_eq_true rfl) rfl ?_
  refine g_lconst0 dX3_crackingWays_0 rfl rfl ?_
  refine g_l (loc' := [some _, some _, some _, some _, some _, some _, _, _, _, _, _]) dX3_crackingWays_1 rfl rfl ?_
  refine g_iconst dX3_crackingWays_3 rfl ?_
  refine g_l (loc' := [some _, some _, some _, some _, some _, some _, _, some _, _, _, _]) dX3_crackingWays_4 rfl rfl ?_
  have loop : ∀ (m : Nat) (j : Int) (z8 z9 z10 : Option Value) (Tw' : Nat → Nat → Int → Int), 0 ≤ j → j ≤ (N : Int) → ((N : Int) - j).toNat = m → frT 15 Tw Tw' →
      G none (d + 4) 3 false (some .long) 0 0 (hO S Tw M P).length cX3_crackingWays Q 0 6 [some (.ref 205), some (.int (iI p)), some (.int (iI n)), some (.int (iI w)), some (.int (iI x)), some (.long (lI (cwL S (Tw 0) p (sbF S (Tw 0) (Tw 0 8 p)) n w x j.toNat))), none, some (.int (iI j)), z8, z9, z10] [] (hO S Tw' M P) := by
    intro m
    induction m with
    | zero =>
      intro j z8 z9 z10 Tw' a1 a2 hm f1
      have e : j.toNat = N := by omega
      rw [e]
      refine g_l dX3_crackingWays_6 rfl rfl ?_
      refine g_iconst dX3_crackingWays_8 rfl ?_
      refine g_l dX3_crackingWays_9 rfl rfl ?_
      refine g_ishl dX3_crackingWays_10 rfl ?_
      rw [hsh.1]
      refine g_icmp_ge (t := 75) dX3_crackingWays_11 (by decide) rfl (by omega) (by omega) (fun c_11 => ?_) (fun c_11 => False.elim (by omega))
      refine g_l dX3_crackingWays_75 rfl rfl ?_
      refine g_retL dX3_crackingWays_77 rfl rfl ?_
      exact hq Tw' f1
    | succ m ih =>
      intro j z8 z9 z10 Tw' a1 a2 hm f1
      have e0 : Tw' 0 = Tw 0 := f1 0 (by decide)
      have b1 := bc_le ⟨n.toNat, by omega⟩ ⟨j.toNat, by omega⟩ (by show j.toNat < 2 ^ n.toNat; rw [← hN]; omega)
      have b2 := bc_0 ⟨j.toNat, by omega⟩
      simp only [Int.toNat_of_nonneg hn.1, Int.toNat_of_nonneg a1] at b1 b2
      have hstep : cwL S (Tw 0) p (sbF S (Tw 0) (Tw 0 8 p)) n w x (j + 1).toNat = cwL S (Tw 0) p (sbF S (Tw 0) (Tw 0 8 p)) n w x j.toNat + (if crL S p (sbF S (Tw 0) (Tw 0 8 p)) w j n.toNat 0 (Tw 0) 10 p = 2 then wtF n x j else 0) := by
        rw [show (j + 1).toNat = j.toNat + 1 by omega, cwL, Int.toNat_of_nonneg a1]
      have g1 := pwF_in hx (bcF j).toNat
      have g2 := pwF_in (b := 10 - x) (by omega) (n - bcF j).toNat
      have g3 := (pw_mono ⟨(bcF j).toNat, by omega⟩).1
      have g4 := (pw_mono ⟨(n - bcF j).toNat, by omega⟩).1
      have g5 : 0 ≤ wtF n x j := Int.mul_nonneg g1.1 g2.1
      have g6 : wtF n x j ≤ 1000000000 * 1000000000 := Int.mul_le_mul (Int.le_trans g1.2 g3) (Int.le_trans g2.2 g4) g2.1 (by decide)
      generalize cwL S (Tw 0) p (sbF S (Tw 0) (Tw 0 8 p)) n w x j.toNat = acc at hstep ⊢
      refine g_l dX3_crackingWays_6 rfl rfl ?_
      refine g_iconst dX3_crackingWays_8 rfl ?_
      refine g_l dX3_crackingWays_9 rfl rfl ?_
      refine g_ishl dX3_crackingWays_10 rfl ?_
      rw [hsh.1]
      refine g_icmp_ge (t := 75) dX3_crackingWays_11 (by decide) rfl (by omega) (by omega) (fun c_11 => False.elim (by omega)) (fun c_11 => ?_)
      refine g_l dX3_crackingWays_14 rfl rfl ?_
      refine g_callS dX3_crackingWays_16 m_3_59 (n := 1) rfl (by exact Nat.le_of_ble_eq_true rfl) (by exact Nat.le_of_ble_eq_true rfl) (by rfl) (by rfl) (by rfl) ?_
      refine s_J6_bitCount (by omega) ?_
      simp only [Option.toList_some, Option.toList_none, List.cons_append, List.nil_append]
      refine g_l (loc' := [some _, some _, some _, some _, some _, some _, _, some _, some _, _, _]) dX3_crackingWays_19 rfl rfl ?_
      refine g_l dX3_crackingWays_21 rfl rfl ?_
      refine g_l dX3_crackingWays_23 rfl rfl ?_
      refine g_callS dX3_crackingWays_25 m_3_65 (n := 2) rfl (by exact Nat.le_of_ble_eq_true rfl) (by exact Nat.le_of_ble_eq_true rfl) (by rfl) (by rfl) (by rfl) ?_
      refine s_X3_power (by omega) (by omega) ?_
      simp only [Option.toList_some, Option.toList_none, List.cons_append, List.nil_append]
      refine g_bipush dX3_crackingWays_28 (by decide) rfl ?_
      refine g_l dX3_crackingWays_30 rfl rfl ?_
      refine g_isub dX3_crackingWays_32 rfl ?_
      refine g_l dX3_crackingWays_33 rfl rfl ?_
      refine g_l dX3_crackingWays_34 rfl rfl ?_
      refine g_isub dX3_crackingWays_36 rfl ?_
      refine g_callS dX3_crackingWays_37 m_3_65 (n := 2) rfl (by exact Nat.le_of_ble_eq_true rfl) (by exact Nat.le_of_ble_eq_true rfl) (by rfl) (by rfl) (by rfl) ?_
      refine s_X3_power (by omega) (by omega) ?_
      simp only [Option.toList_some, Option.toList_none, List.cons_append, List.nil_append]
      refine g_lmul dX3_crackingWays_40 rfl ?_
      rw [show pwF x (bcF j).toNat * pwF (10 - x) (n - bcF j).toNat = wtF n x j from rfl]
      generalize wtF n x j = wt at g5 g6 hstep ⊢
      refine g_l (loc' := [some _, some _, some _, some _, some _, some _, _, some _, some _, some _, _]) dX3_crackingWays_41 rfl rfl ?_
      refine g_l dX3_crackingWays_43 rfl rfl ?_
      refine g_lconst0 dX3_crackingWays_45 rfl rfl ?_
      refine g_lcmp dX3_crackingWays_46 (by omega) (by decide) rfl ?_
      have rc : R32 (cmp3 wt 0) := by
        unfold cmp3
        split
        · omega
        · split <;> omega
      refine g_if_le (t := 69) dX3_crackingWays_47 (by decide) rfl (by omega) (fun c_47 => ?_) (fun c_47 => ?_)
      · have e1 : wt = 0 := by
          unfold cmp3 at c_47
          split at c_47
          · omega
          · omega
        refine g_iinc (loc' := [some _, some _, some _, some _, some _, some _, _, some _, some _, some _, _]) dX3_crackingWays_69 rfl rfl rfl ?_
        refine g_goto (t := 6) dX3_crackingWays_72 (by decide) ?_
        rw [e1, ite_self, Int.add_zero] at hstep
        rw [← hstep]
        exact ih (j + 1) _ _ _ Tw' (by omega) (by omega) (by omega) f1
      · refine g_l dX3_crackingWays_50 rfl rfl ?_
        refine g_l dX3_crackingWays_51 rfl rfl ?_
        refine g_l dX3_crackingWays_52 rfl rfl ?_
        refine g_l dX3_crackingWays_53 rfl rfl ?_
        refine g_l dX3_crackingWays_54 rfl rfl ?_
        refine g_callV dX3_crackingWays_56 m_3_69 (n := 4) rfl h205 rfl (Nat.le_of_ble_eq_true rfl) (Nat.le_of_ble_eq_true rfl) rfl rfl ?_
        refine s_X3_isCracked hp (by rw [e0]; exact hk) hB hp0 hn hw (fun T2 r f2 hr => ?_)
        simp only [Option.toList_some, Option.toList_none, List.cons_append, List.nil_append]
        rw [e0] at hr
        by_cases hc : crL S p (sbF S (Tw 0) (Tw 0 8 p)) w j n.toNat 0 (Tw 0) 10 p = 2
        · rw [if_pos hc] at hr hstep
          subst hr
          refine g_if_eq (t := 69) dX3_crackingWays_59 (by decide) rfl (by omega) (fun c_59 => False.elim (by omega)) (fun c_59 => ?_)
          refine g_l dX3_crackingWays_62 rfl rfl ?_
          refine g_l dX3_crackingWays_64 rfl rfl ?_
          refine g_ladd dX3_crackingWays_66 rfl ?_
          rw [← hstep]
          refine g_l (loc' := [some _, some _, some _, some _, some _, some _, _, some _, some _, some _, _]) dX3_crackingWays_67 rfl rfl ?_
          refine g_iinc (loc' := [some _, some _, some _, some _, some _, some _, _, some _, some _, some _, _]) dX3_crackingWays_69 rfl rfl rfl ?_
          refine g_goto (t := 6) dX3_crackingWays_72 (by decide) ?_
          exact ih (j + 1) _ _ _ T2 (by omega) (by omega) (by omega) (f1.tr f2)
        · rw [if_neg hc] at hr hstep
          subst hr
          refine g_if_eq (t := 69) dX3_crackingWays_59 (by decide) rfl (by omega) (fun c_59 => ?_) (fun c_59 => False.elim (by omega))
          refine g_iinc (loc' := [some _, some _, some _, some _, some _, some _, _, some _, some _, some _, _]) dX3_crackingWays_69 rfl rfl rfl ?_
          refine g_goto (t := 6) dX3_crackingWays_72 (by decide) ?_
          rw [Int.add_zero] at hstep
          rw [← hstep]
          exact ih (j + 1) _ _ _ T2 (by omega) (by omega) (by omega) (f1.tr f2)
  exact loop N 0 _ _ _ Tw (by omega) (by omega) (by omega) frT.rf
end CW
