/-! floors -/
theorem bAnd_1 (a : Int) : bAnd a 1 = 0 ∨ bAnd a 1 = 1 := by
  unfold bAnd
  have h : (iI a &&& iI 1).toBitVec.toNat ≤ 1 := by
    have : (iI a &&& iI 1).toBitVec = (iI a).toBitVec &&& (1 : BitVec 32) := rfl
    rw [this, BitVec.toNat_and]
    exact Nat.and_le_right
  have e : (iI a &&& iI 1).toInt = ((iI a &&& iI 1).toBitVec.toNat : Int) := by
    show (iI a &&& iI 1).toBitVec.toInt = _
    exact BitVec.toInt_eq_toNat_of_lt (by omega)
  omega
/-- n quarters of pot p alone, no gales -/
def qI (S : Nat → Int → Int) (p sb w : Int) (X : Nat → Int → Int) : Nat → Nat → Int → Int
  | 0 => X
  | n + 1 => qX S p sb w 0 (qI S p sb w X n)
/-- pot p is READY in kiln k behind n quarters of wood w -/
abbrev rdP (S : Nat → Int → Int) (X : Nat → Int → Int) (p sb : Int) (n : Nat) (w k : Int) : Prop := qI S p sb w (plX p k X) n 10 p = 1
theorem plX_agr {S : Nat → Int → Int} {t : Nat} {p k : Int} {Tw : Nat → Nat → Int → Int} {Y : Nat → Int → Int} (h : agr S (Tw t) Y) : agr S (wT Tw t 8 p k t) (plX p k Y) := by
  obtain ⟨y1, y2, y3, y4⟩ := h
  refine ⟨?_, ?_, fun j a b => ⟨?_, ?_, ?_⟩, fun i a b => ⟨?_, ?_, ?_⟩⟩
  · rw [wT_o (by decide)]; exact y1
  · rw [wT_o (by decide)]; exact y2
  · rw [wT_o (by decide)]; exact (y3 j a b).1
  · rw [wT_o (by decide)]; exact (y3 j a b).2.1
  · rw [wT_o (by decide)]; exact (y3 j a b).2.2
  · rw [wT_s]
    unfold plX
    by_cases c : i = p
    · rw [if_pos c, if_pos ⟨rfl, c⟩]
    · rw [if_neg c, if_neg (fun z => c z.2)]; exact (y4 i a b).1
  · rw [wT_o (by decide)]; exact (y4 i a b).2.1
  · rw [wT_o (by decide)]; exact (y4 i a b).2.2
theorem plX_ok {S : Nat → Int → Int} {X : Nat → Int → Int} {p k B : Int} (h : twOk S X B) (hk : 0 ≤ k ∧ k < X 1 5) : twOk S (plX p k X) B := by
  obtain ⟨⟨t1, t2, t3, t4⟩, q, r⟩ := h
  refine ⟨⟨t1, t2, fun j a b => t3 j a b, t4⟩, fun i a b => ?_, fun i a b => ?_⟩
  · obtain ⟨z1, z2⟩ := q i a b
    refine ⟨?_, z2⟩
    unfold plX
    split
    · omega
    · exact z1
  · have := r i a b
    show (if (8 : Nat) = 8 ∧ i = p then k else X 8 i) < X 1 5
    split
    · exact hk.2
    · exact this
theorem qI_ok {S : Nat → Int → Int} {X : Nat → Int → Int} {p sb w B : Int} (hp : pOk S) (h : twOk S X B) (h0 : 0 ≤ p ∧ p < S 13 5) (hw : 0 ≤ w ∧ w ≤ 9) : ∀ n : Nat, twOk S (qI S p sb w X n) (B + 180 * n)
  | 0 => by rw [show B + 180 * ((0 : Nat) : Int) = B by omega]; exact h
  | n + 1 => by
    have := qX_ok (sb := sb) (b := 0) hp (qI_ok (sb := sb) hp h h0 hw n) h0 hw
    rw [show B + 180 * ((n + 1 : Nat) : Int) = B + 180 * (n : Int) + 180 by omega]
    exact this
theorem qI_8 {S : Nat → Int → Int} {X : Nat → Int → Int} {p sb w : Int} : ∀ n : Nat, qI S p sb w X n 8 p = X 8 p ∧ qI S p sb w X n 1 5 = X 1 5
  | 0 => ⟨rfl, rfl⟩
  | n + 1 => qI_8 n
/-- the next placing, pots below the number alone; whether there is one -/
def npF (X : Nat → Int → Int) : Nat → (Int → Int) → Int × (Int → Int)
  | 0, g => (0, g)
  | i + 1, g => if X 10 i = 0 then (if g i + 1 < X 1 5 then (1, fun j => if j = (i : Int) then g i + 1 else g j) else npF X i (fun j => if j = (i : Int) then 0 else g j)) else npF X i g
/-- the kilns above salt, as bits -/
def abF (S : Nat → Int → Int) (pl : Int → Int) : Nat → Int
  | 0 => 0
  | n + 1 => bOr (abF S pl n) (if S 14 n = 1 then bShl 2 (pl n) else 0)
/-- how many of the first are READY -/
def rhF (g6 g7 pl : Int → Int) (ab : Int) : Nat → Int
  | 0 => 0
  | n + 1 => rhF g6 g7 pl ab n + bAnd (bShr (if bAnd (bShr ab (pl n)) 1 = 1 then g7 n else g6 n) (pl n)) 1
theorem rhF_in {g6 g7 pl : Int → Int} {ab : Int} : ∀ n : Nat, 0 ≤ rhF g6 g7 pl ab n ∧ rhF g6 g7 pl ab n ≤ n
  | 0 => ⟨by simp [rhF], by simp [rhF]⟩
  | n + 1 => by
    have := rhF_in (g6 := g6) (g7 := g7) (pl := pl) (ab := ab) n
    rw [rhF]
    have z := bAnd_1 (bShr (if bAnd (bShr ab (pl n)) 1 = 1 then g7 n else g6 n) (pl n))
    omega
section FL
variable {S : Nat → Int → Int} {Tw : Nat → Nat → Int → Int} {M : Nat → Int → Int} {P : Nat → Nat} {d : Nat} {Q : Option Value → GH → Prop}
theorem s_X1_isFree {i : Int} (hi : 0 ≤ i ∧ i < 5) (hr : R32 (Tw 0 10 i)) (hy : Tw 0 10 i = 0 → Q (some (.int (iI 1))) (hO S Tw M P)) (hn : ¬ Tw 0 10 i = 0 → Q (some (.int (iI 0))) (hO S Tw M P)) : CallD (d + 1) 9 [.ref 243, .int (iI i)] (hO S Tw M P) Q := by
  refine g_enter (loc := [some _, some _]) e_X1_isFree i_X1_isFree (Nat.le_of_ble_eq_true rfl) rfl ?_
  refine g_l dX1_isFree_0 rfl rfl ?_
  refine g_getf dX1_isFree_1 h243 f_1_24 rfl rfl ?_
  refine g_getf dX1_isFree_4 (hT0 (by omega)) f_1_31 rfl rfl ?_
  refine g_getf dX1_isFree_7 (hT7 (by omega)) f_1_76 rfl rfl ?_
  refine g_l dX1_isFree_10 rfl rfl ?_
  refine g_iald dX1_isFree_11 (hTa10 (by omega)) (by omega) (by decide) rfl ?_
  refine g_if_ne (t := 19) dX1_isFree_12 (by decide) rfl (by omega) (fun c_12 => ?_) (fun c_12 => ?_)
  · refine g_iconst dX1_isFree_19 rfl ?_
    refine g_retZ dX1_isFree_20 rfl rfl (by omega) ?_
    exact hn c_12
  · refine g_iconst dX1_isFree_15 rfl ?_
    refine g_goto (t := 20) dX1_isFree_16 (by decide) ?_
    refine g_retZ dX1_isFree_20 rfl rfl (by omega) ?_
    exact hy (by omega)
theorem s_X1_isReadyIn {p k sb n w B : Int} (hp : pOk S) (hk : twOk S (Tw 0) B) (hB : B ≤ 900000) (hp0 : 0 ≤ p ∧ p < S 13 5) (hk0 : 0 ≤ k ∧ k < Tw 0 1 5) (hsb : sb = 0 ∨ sb = 1) (hn : 0 ≤ n ∧ n ≤ 9) (hw : 0 ≤ w ∧ w ≤ 9)
    (hy : rdP S (Tw 0) p sb n.toNat w k → ∀ Tw', frT 15 Tw Tw' → Q (some (.int (iI 1))) (hO S Tw' M P)) (hno : ¬ rdP S (Tw 0) p sb n.toNat w k → ∀ Tw', frT 15 Tw Tw' → Q (some (.int (iI 0))) (hO S Tw' M P)) : CallD (d + 4) 11 [.ref 243, .int (iI p), .int (iI k), .int (iI sb), .int (iI n), .int (iI w)] (hO S Tw M P) Q := by
  have hp5 := hp.2.1
  have z0 := plX_ok (p := p) hk hk0
  have z1 : plX p k (Tw 0) 8 p = k := by unfold plX; rw [if_pos ⟨rfl, rfl⟩]
  have z2 : plX p k (Tw 0) 1 5 = Tw 0 1 5 := rfl
  have z5 := hk.1.2.1
  refine g_enter (loc := [some _, some _, some _, some _, some _, some _, _]) e_X1_isReadyIn i_X1_isReadyIn (Nat.le_of_ble_eq_true rfl) rfl ?_
  refine g_l dX1_isReadyIn_0 rfl rfl ?_
  refine g_getf dX1_isReadyIn_1 h243 f_1_28 rfl rfl ?_
  refine g_l dX1_isReadyIn_4 rfl rfl ?_
  refine g_getf dX1_isReadyIn_5 h243 f_1_24 rfl rfl ?_
  refine g_callV dX1_isReadyIn_8 m_1_90 (n := 1) rfl (hT0 (by omega)) rfl (Nat.le_of_ble_eq_true rfl) (Nat.le_of_ble_eq_true rfl) rfl rfl ?_
  refine s_X9_copyFrom (t := 15) (u := 0) (by decide) (by decide) (by decide) (fun T1 a1 a2 => ?_)
  simp only [Option.toList_some, Option.toList_none, List.cons_append, List.nil_append]
  refine g_l dX1_isReadyIn_11 rfl rfl ?_
  refine g_getf dX1_isReadyIn_12 h243 f_1_28 rfl rfl ?_
  refine g_getf dX1_isReadyIn_15 (hT0 (by omega)) f_1_31 rfl rfl ?_
  refine g_getf dX1_isReadyIn_18 (hT7 (by omega)) f_1_58 rfl rfl ?_
  refine g_l dX1_isReadyIn_21 rfl rfl ?_
  refine g_l dX1_isReadyIn_22 rfl rfl ?_
  refine g_iast dX1_isReadyIn_23 (hTa8 (by omega)) (by omega) (by decide) (pTa8 (by omega)) rfl ?_
  refine g_iconst dX1_isReadyIn_24 rfl ?_
  refine g_l (loc' := [some _, some _, some _, some _, some _, some _, some _]) dX1_isReadyIn_25 rfl rfl ?_
  have loop : ∀ (m : Nat) (i : Int) (Tw' : Nat → Nat → Int → Int), 0 ≤ i → i ≤ n → (n - i).toNat = m → frT 15 Tw Tw' → agr S (Tw' 15) (qI S p sb w (plX p k (Tw 0)) i.toNat) →
      G none (d + 3) 1 false (some .boolean) 0 0 (hO S Tw M P).length cX1_isReadyIn Q 0 27 [some (.ref 243), some (.int (iI p)), some (.int (iI k)), some (.int (iI sb)), some (.int (iI n)), some (.int (iI w)), some (.int (iI i))] [] (hO S Tw' M P) := by
    intro m
    induction m with
    | zero =>
      intro i Tw' b1 b2 hm f1 f2
      have e : i = n := by omega
      subst e
      have e1 := (f2.2.2.2 p hp0.1 hp0.2).2.2
      have r1 := ((qI_ok (sb := sb) hp z0 hp0 hw i.toNat).2.1 p hp0.1 hp0.2).2.2.1
      refine g_l dX1_isReadyIn_27 rfl rfl ?_
      refine g_l dX1_isReadyIn_29 rfl rfl ?_
      refine g_icmp_ge (t := 71) dX1_isReadyIn_31 (by decide) rfl (by omega) (by omega) (fun c_31 => ?_) (fun c_31 => False.elim (by omega))
      refine g_l dX1_isReadyIn_71 rfl rfl ?_
      refine g_getf dX1_isReadyIn_72 h243 f_1_28 rfl rfl ?_
      refine g_getf dX1_isReadyIn_75 (hT0 (by omega)) f_1_31 rfl rfl ?_
      refine g_getf dX1_isReadyIn_78 (hT7 (by omega)) f_1_76 rfl rfl ?_
      refine g_l dX1_isReadyIn_81 rfl rfl ?_
      refine g_iald dX1_isReadyIn_82 (hTa10 (by omega)) (by omega) (by decide) rfl ?_
      refine g_iconst dX1_isReadyIn_83 rfl ?_
      rw [e1]
      refine g_icmp_ne (t := 91) dX1_isReadyIn_84 (by decide) rfl (by omega) (by omega) (fun c_84 => ?_) (fun c_84 => ?_)
      · refine g_iconst dX1_isReadyIn_91 rfl ?_
        refine g_retZ dX1_isReadyIn_92 rfl rfl (by omega) ?_
        exact hno c_84 Tw' f1
      · refine g_iconst dX1_isReadyIn_87 rfl ?_
        refine g_goto (t := 92) dX1_isReadyIn_88 (by decide) ?_
        refine g_retZ dX1_isReadyIn_92 rfl rfl (by omega) ?_
        exact hy (by omega) Tw' f1
    | succ m ih =>
      intro i Tw' b1 b2 hm f1 f2
      have f3 := qI_ok (sb := sb) hp z0 hp0 hw i.toNat
      obtain ⟨f4, f5⟩ := qI_8 (S := S) (X := plX p k (Tw 0)) (p := p) (sb := sb) (w := w) i.toNat
      rw [z1] at f4
      rw [z2] at f5
      have hdef : qI S p sb w (plX p k (Tw 0)) (i + 1).toNat = feX S p sb (bX w (qI S p sb w (plX p k (Tw 0)) i.toNat)) := by
        rw [show (i + 1).toNat = i.toNat + 1 by omega]
        rfl
      generalize qI S p sb w (plX p k (Tw 0)) i.toNat = X at f2 f3 f4 f5 hdef
      have f6 := f3.agr f2
      refine g_l dX1_isReadyIn_27 rfl rfl ?_
      refine g_l dX1_isReadyIn_29 rfl rfl ?_
      refine g_icmp_ge (t := 71) dX1_isReadyIn_31 (by decide) rfl (by omega) (by omega) (fun c_31 => False.elim (by omega)) (fun c_31 => ?_)
      refine g_l dX1_isReadyIn_34 rfl rfl ?_
      refine g_getf dX1_isReadyIn_35 h243 f_1_28 rfl rfl ?_
      refine g_getf dX1_isReadyIn_38 (hT0 (by omega)) f_1_79 rfl rfl ?_
      refine g_l dX1_isReadyIn_41 rfl rfl ?_
      refine g_callV dX1_isReadyIn_43 m_1_94 (n := 1) rfl (hT1 (by omega)) rfl (Nat.le_of_ble_eq_true rfl) (Nat.le_of_ble_eq_true rfl) rfl rfl ?_
      refine s_X2_burn (t := 15) (by decide) (f6.1.k (by omega)) (fun T2 hb => ?_)
      simp only [Option.toList_some, Option.toList_none, List.cons_append, List.nil_append]
      have y1 := burnP_agr (S := S) hb
      have y2 := bX_agr (w := w) f2 ⟨f3.1.1, f3.1.2.1⟩
      have y3 : agr5 S (T2 15) (bX w X) := agr5.tr y1 y2
      have y4 := bX_ok f3 hw
      have y5 : hOk (bX w X) (X 8 p) := bX_h f3 (by omega) hw (by rw [f4]; exact hk0.1) (by rw [f4, f5]; exact hk0.2)
      have e8 : T2 15 8 p = X 8 p := (y3.1.2.2.2 p hp0.1 hp0.2).1
      have hr : 0 ≤ bX w X 8 p ∧ bX w X 8 p < bX w X 1 5 := by
        show 0 ≤ X 8 p ∧ X 8 p < X 1 5
        rw [f4, f5]; exact hk0
      have hn5 : bX w X 1 5 ≤ 5 := by
        show X 1 5 ≤ 5
        rw [f5]; exact z5
      refine g_l dX1_isReadyIn_46 rfl rfl ?_
      refine g_getf dX1_isReadyIn_47 h243 f_1_28 rfl rfl ?_
      refine g_getf dX1_isReadyIn_50 (hT0 (by omega)) f_1_31 rfl rfl ?_
      refine g_l dX1_isReadyIn_53 rfl rfl ?_
      refine g_l dX1_isReadyIn_54 rfl rfl ?_
      refine g_getf dX1_isReadyIn_55 h243 f_1_28 rfl rfl ?_
      refine g_getf dX1_isReadyIn_58 (hT0 (by omega)) f_1_79 rfl rfl ?_
      refine g_l dX1_isReadyIn_61 rfl rfl ?_
      refine g_callV dX1_isReadyIn_62 m_1_98 (n := 3) rfl (hT7 (by omega)) rfl (Nat.le_of_ble_eq_true rfl) (Nat.le_of_ble_eq_true rfl) rfl rfl ?_
      refine s_X4_feel (t := 15) (by decide) hp hp0.1 hp0.2 (y4.agr y3.1).2.1 ?_ hsb (fun T4 hf => ?_)
      · rw [e8]
        exact hOk_agr y3 y5 (by rw [f4]; exact hk0.1) (by show X 8 p < X 1 5; rw [f4, f5]; exact hk0.2) hn5
      · simp only [Option.toList_some, Option.toList_none, List.cons_append, List.nil_append]
        refine g_iinc (loc' := [some _, some _, some _, some _, some _, some _, some _]) dX1_isReadyIn_65 rfl rfl rfl ?_
        refine g_goto (t := 27) dX1_isReadyIn_68 (by decide) ?_
        have x1 : agr S (T4 15) (feX S p sb (bX w X)) := (potP_agr hf).tr (feX_agr y3 hp0 hr hn5)
        rw [← hdef] at x1
        exact ih (i + 1) T4 (by omega) (by omega) (by omega) ((f1.tr hb.1).tr hf.1) x1
  exact loop n.toNat 0 _ (by omega) hn.1 (by rw [Int.sub_zero]) (a1.tr (frT.rf.w)) (plX_agr a2)
/-- how many could be READY -/
def mpF (S : Nat → Int → Int) : Nat → Int
  | 0 => 0
  | n + 1 => mpF S n + (if bOr (S 246 n) (S 247 n) = 0 then 0 else 1)
theorem mpF_in {S : Nat → Int → Int} : ∀ n : Nat, 0 ≤ mpF S n ∧ mpF S n ≤ n
  | 0 => ⟨by simp [mpF], by simp [mpF]⟩
  | n + 1 => by
    have := mpF_in (S := S) n
    rw [mpF]
    split <;> omega
theorem s_X1_mostPossible (hp : 0 ≤ S 13 5 ∧ S 13 5 ≤ 5) (hq : Q (some (.int (iI (mpF S (S 13 5).toNat)))) (hO S Tw M P)) : CallD (d + 1) 12 [.ref 243] (hO S Tw M P) Q := by
  refine g_enter (loc := [some _, _, _]) e_X1_mostPossible i_X1_mostPossible (Nat.le_of_ble_eq_true rfl) rfl ?_
  refine g_iconst dX1_mostPossible_0 rfl ?_
  refine g_l (loc' := [some _, some _, _]) dX1_mostPossible_1 rfl rfl ?_
  refine g_iconst dX1_mostPossible_2 rfl ?_
  refine g_l (loc' := [some _, some _, some _]) dX1_mostPossible_3 rfl rfl ?_
  have loop : ∀ (m : Nat) (i : Int), 0 ≤ i → i ≤ S 13 5 → (S 13 5 - i).toNat = m →
      G none d 1 false (some .int) 0 0 (hO S Tw M P).length cX1_mostPossible Q 0 4 [some (.ref 243), some (.int (iI (mpF S i.toNat))), some (.int (iI i))] [] (hO S Tw M P) := by
    intro m
    induction m with
    | zero =>
      intro i b1 b2 hm
      have e : i = S 13 5 := by omega
      refine g_l dX1_mostPossible_4 rfl rfl ?_
      refine g_l dX1_mostPossible_5 rfl rfl ?_
      refine g_getf dX1_mostPossible_6 h243 f_1_43 rfl rfl ?_
      refine g_getf dX1_mostPossible_9 h13 f_1_48 rfl rfl ?_
      refine g_icmp_ge (t := 45) dX1_mostPossible_12 (by decide) rfl (by omega) (by omega) (fun c_12 => ?_) (fun c_12 => False.elim (by omega))
      refine g_l dX1_mostPossible_45 rfl rfl ?_
      refine g_retI dX1_mostPossible_46 rfl rfl ?_
      rw [e]
      exact hq
    | succ m ih =>
      intro i b1 b2 hm
      have es : mpF S (i + 1).toNat = mpF S i.toNat + (if bOr (S 246 i) (S 247 i) = 0 then 0 else 1) := by
        rw [show (i + 1).toNat = i.toNat + 1 by omega, mpF, Int.toNat_of_nonneg b1]
      have rb : R32 (bOr (S 246 i) (S 247 i)) := R_bOr
      refine g_l dX1_mostPossible_4 rfl rfl ?_
      refine g_l dX1_mostPossible_5 rfl rfl ?_
      refine g_getf dX1_mostPossible_6 h243 f_1_43 rfl rfl ?_
      refine g_getf dX1_mostPossible_9 h13 f_1_48 rfl rfl ?_
      refine g_icmp_ge (t := 45) dX1_mostPossible_12 (by decide) rfl (by omega) (by omega) (fun c_12 => False.elim (by omega)) (fun c_12 => ?_)
      refine g_l dX1_mostPossible_15 rfl rfl ?_
      refine g_l dX1_mostPossible_16 rfl rfl ?_
      refine g_getf dX1_mostPossible_17 h243 f_1_18 rfl rfl ?_
      refine g_l dX1_mostPossible_20 rfl rfl ?_
      refine g_iald dX1_mostPossible_21 h246 (by omega) (by decide) rfl ?_
      refine g_l dX1_mostPossible_22 rfl rfl ?_
      refine g_getf dX1_mostPossible_23 h243 f_1_21 rfl rfl ?_
      refine g_l dX1_mostPossible_26 rfl rfl ?_
      refine g_iald dX1_mostPossible_27 h247 (by omega) (by decide) rfl ?_
      refine g_ior dX1_mostPossible_28 rfl ?_
      refine g_if_eq (t := 36) dX1_mostPossible_29 (by decide) rfl (by omega) (fun c_29 => ?_) (fun c_29 => ?_)
      · rw [if_pos c_29] at es
        refine g_iconst dX1_mostPossible_36 rfl ?_
        refine g_iadd dX1_mostPossible_37 rfl ?_
        rw [← es]
        refine g_l (loc' := [some _, some _, some _]) dX1_mostPossible_38 rfl rfl ?_
        refine g_iinc (loc' := [some _, some _, some _]) dX1_mostPossible_39 rfl rfl rfl ?_
        refine g_goto (t := 4) dX1_mostPossible_42 (by decide) ?_
        exact ih (i + 1) (by omega) (by omega) (by omega)
      · rw [if_neg c_29] at es
        refine g_iconst dX1_mostPossible_32 rfl ?_
        refine g_goto (t := 37) dX1_mostPossible_33 (by decide) ?_
        refine g_iadd dX1_mostPossible_37 rfl ?_
        rw [← es]
        refine g_l (loc' := [some _, some _, some _]) dX1_mostPossible_38 rfl rfl ?_
        refine g_iinc (loc' := [some _, some _, some _]) dX1_mostPossible_39 rfl rfl rfl ?_
        refine g_goto (t := 4) dX1_mostPossible_42 (by decide) ?_
        exact ih (i + 1) (by omega) (by omega) (by omega)
  exact loop (S 13 5).toNat 0 (by omega) hp.1 (by rw [Int.sub_zero])
theorem s_X1_nextPlacing {g : Int → Int} (hp : 0 ≤ S 13 5 ∧ S 13 5 ≤ 5) (hk : 2 ≤ Tw 0 1 5 ∧ Tw 0 1 5 ≤ 5) (hr : ∀ i, 0 ≤ i → i < S 13 5 → R32 (Tw 0 10 i)) (hg : S 245 = g) (hb : ∀ i, 0 ≤ i → i < S 13 5 → 0 ≤ g i ∧ g i < 5)
    (hq : ∀ S', (∀ c, c ≠ 245 → S' c = S c) → S' 245 = (npF (Tw 0) (S 13 5).toNat g).2 → Q (some (.int (iI (npF (Tw 0) (S 13 5).toNat g).1))) (hO S' Tw M P)) : CallD (d + 2) 14 [.ref 243] (hO S Tw M P) Q := by
  refine g_enter (loc := [some _, _]) e_X1_nextPlacing i_X1_nextPlacing (Nat.le_of_ble_eq_true rfl) rfl ?_
  refine g_l dX1_nextPlacing_0 rfl rfl ?_
  refine g_getf dX1_nextPlacing_1 h243 f_1_43 rfl rfl ?_
  refine g_getf dX1_nextPlacing_4 h13 f_1_48 rfl rfl ?_
  refine g_iconst dX1_nextPlacing_7 rfl ?_
  refine g_isub dX1_nextPlacing_8 rfl ?_
  refine g_l (loc' := [some _, some _]) dX1_nextPlacing_9 rfl rfl ?_
  have loop : ∀ (m : Nat) (i : Int) (S1 : Nat → Int → Int) (g1 : Int → Int), -1 ≤ i → i < S 13 5 → (i + 1).toNat = m → (∀ c, c ≠ 245 → S1 c = S c) → S1 245 = g1 → (∀ i, 0 ≤ i → i < S 13 5 → 0 ≤ g1 i ∧ g1 i < 5) → npF (Tw 0) m g1 = npF (Tw 0) (S 13 5).toNat g →
      G none (d + 1) 1 false (some .boolean) 0 0 (hO S Tw M P).length cX1_nextPlacing Q 0 10 [some (.ref 243), some (.int (iI i))] [] (hO S1 Tw M P) := by
    intro m
    induction m with
    | zero =>
      intro i S1 g1 b1 b2 hm f1 f2 f3 hz
      rw [npF] at hz
      have h := hq S1 f1 (by rw [← hz]; exact f2)
      rw [← hz] at h
      refine g_l dX1_nextPlacing_10 rfl rfl ?_
      refine g_if_lt (t := 68) dX1_nextPlacing_11 (by decide) rfl (by omega) (fun c_11 => ?_) (fun c_11 => False.elim (by omega))
      refine g_iconst dX1_nextPlacing_68 rfl ?_
      refine g_retZ dX1_nextPlacing_69 rfl rfl (by omega) ?_
      exact h
    | succ m ih =>
      intro i S1 g1 b1 b2 hm f1 f2 f3 hz
      obtain rfl : i = (m : Int) := by omega
      rw [npF] at hz
      have z3 := f3 m (by omega) b2
      have e2 : S1 245 (m : Int) = g1 m := by rw [f2]
      refine g_l dX1_nextPlacing_10 rfl rfl ?_
      refine g_if_lt (t := 68) dX1_nextPlacing_11 (by decide) rfl (by omega) (fun c_11 => False.elim (by omega)) (fun c_11 => ?_)
      refine g_l dX1_nextPlacing_14 rfl rfl ?_
      refine g_l dX1_nextPlacing_15 rfl rfl ?_
      refine g_callV dX1_nextPlacing_16 m_1_54 (n := 1) rfl h243 rfl (Nat.le_of_ble_eq_true rfl) (Nat.le_of_ble_eq_true rfl) rfl rfl ?_
      refine s_X1_isFree ⟨by omega, by omega⟩ (hr m (by omega) b2) (fun y => ?_) (fun y => ?_)
      · rw [if_pos y] at hz
        simp only [Option.toList_some, Option.toList_none, List.cons_append, List.nil_append]
        refine g_if_eq (t := 62) dX1_nextPlacing_19 (by decide) rfl (by omega) (fun c_19 => False.elim (by omega)) (fun c_19 => ?_)
        refine g_l dX1_nextPlacing_22 rfl rfl ?_
        refine g_getf dX1_nextPlacing_23 h243 f_1_15 rfl rfl ?_
        refine g_l dX1_nextPlacing_26 rfl rfl ?_
        refine g_iald dX1_nextPlacing_27 h245 (by omega) (by decide) rfl ?_
        refine g_iconst dX1_nextPlacing_28 rfl ?_
        refine g_iadd dX1_nextPlacing_29 rfl ?_
        refine g_l dX1_nextPlacing_30 rfl rfl ?_
        refine g_getf dX1_nextPlacing_31 h243 f_1_24 rfl rfl ?_
        refine g_getf dX1_nextPlacing_34 (hT0 (by omega)) f_1_79 rfl rfl ?_
        refine g_getf dX1_nextPlacing_37 (hT1 (by omega)) f_1_83 rfl rfl ?_
        rw [e2]
        refine g_icmp_ge (t := 55) dX1_nextPlacing_40 (by decide) rfl (by omega) (by omega) (fun c_40 => ?_) (fun c_40 => ?_)
        · rw [if_neg (by omega)] at hz
          refine g_l dX1_nextPlacing_55 rfl rfl ?_
          refine g_getf dX1_nextPlacing_56 h243 f_1_15 rfl rfl ?_
          refine g_l dX1_nextPlacing_59 rfl rfl ?_
          refine g_iconst dX1_nextPlacing_60 rfl ?_
          refine g_iast dX1_nextPlacing_61 h245 (by omega) (by decide) p245 rfl ?_
          refine g_iinc (loc' := [some _, some _]) dX1_nextPlacing_62 rfl rfl rfl ?_
          refine g_goto (t := 10) dX1_nextPlacing_65 (by decide) ?_
          refine ih ((m : Int) + -1) _ (fun j => if j = (m : Int) then 0 else g1 j) (by omega) (by omega) (by omega) (fun c hc => by rw [wS_o hc]; exact f1 c hc) ?_ (fun j y1 y2 => ?_) hz
          · funext j; rw [wS_s, f2]
          · show 0 ≤ (if j = (m : Int) then 0 else g1 j) ∧ (if j = (m : Int) then 0 else g1 j) < 5
            have := f3 j y1 y2
            split <;> omega
        · rw [if_pos (by omega)] at hz
          have h := hq (wS S1 245 m (g1 m + 1)) (fun c hc => by rw [wS_o hc]; exact f1 c hc) (by rw [← hz]; funext j; rw [wS_s, f2])
          rw [← hz] at h
          refine g_l dX1_nextPlacing_43 rfl rfl ?_
          refine g_getf dX1_nextPlacing_44 h243 f_1_15 rfl rfl ?_
          refine g_l dX1_nextPlacing_47 rfl rfl ?_
          refine g_s dX1_nextPlacing_48 rfl rfl rfl ?_
          refine g_iald dX1_nextPlacing_49 h245 (by omega) (by decide) rfl ?_
          refine g_iconst dX1_nextPlacing_50 rfl ?_
          rw [e2]
          refine g_iadd dX1_nextPlacing_51 rfl ?_
          refine g_iast dX1_nextPlacing_52 h245 (by omega) (by decide) p245 rfl ?_
          refine g_iconst dX1_nextPlacing_53 rfl ?_
          refine g_retZ dX1_nextPlacing_54 rfl rfl (by omega) ?_
          exact h
      · rw [if_neg y] at hz
        simp only [Option.toList_some, Option.toList_none, List.cons_append, List.nil_append]
        refine g_if_eq (t := 62) dX1_nextPlacing_19 (by decide) rfl (by omega) (fun c_19 => ?_) (fun c_19 => False.elim (by omega))
        refine g_iinc (loc' := [some _, some _]) dX1_nextPlacing_62 rfl rfl rfl ?_
        refine g_goto (t := 10) dX1_nextPlacing_65 (by decide) ?_
        exact ih ((m : Int) + -1) S1 g1 (by omega) (by omega) (by omega) f1 f2 f3 hz
  exact loop (S 13 5).toNat (S 13 5 - 1) S g (by omega) (by omega) (by omega) (fun _ _ => rfl) hg hb rfl
theorem s_X1_readyHere {g6 g7 pl : Int → Int} (hp : pOk S) (h6 : S 246 = g6) (h7 : S 247 = g7) (hpl : S 245 = pl)
    (hq : Q (some (.int (iI (rhF g6 g7 pl (abF S pl (S 13 5).toNat) (S 13 5).toNat)))) (hO S Tw M P)) : CallD (d + 2) 13 [.ref 243] (hO S Tw M P) Q := by
  subst h6 h7 hpl
  have n1 := hp.1
  have n2 := hp.2.1
  refine g_enter (loc := [some _, _, _, _, _]) e_X1_readyHere i_X1_readyHere (Nat.le_of_ble_eq_true rfl) rfl ?_
  refine g_iconst dX1_readyHere_0 rfl ?_
  refine g_l (loc' := [some _, some _, _, _, _]) dX1_readyHere_1 rfl rfl ?_
  refine g_iconst dX1_readyHere_2 rfl ?_
  refine g_l (loc' := [some _, some _, some _, _, _]) dX1_readyHere_3 rfl rfl ?_
  have loop2 : ∀ (m : Nat) (i : Int) (z4 : Option Value), 0 ≤ i → i ≤ S 13 5 → (S 13 5 - i).toNat = m →
      G none (d + 1) 1 false (some .int) 0 0 (hO S Tw M P).length cX1_readyHere Q 0 51 [some (.ref 243), some (.int (iI (abF S (S 245) (S 13 5).toNat))), some (.int (iI (rhF (S 246) (S 247) (S 245) (abF S (S 245) (S 13 5).toNat) i.toNat))), some (.int (iI i)), z4] [] (hO S Tw M P) := by
    intro m
    induction m with
    | zero =>
      intro i z4 b1 b2 hm
      have e : i = S 13 5 := by omega
      refine g_l dX1_readyHere_51 rfl rfl ?_
      refine g_l dX1_readyHere_52 rfl rfl ?_
      refine g_getf dX1_readyHere_53 h243 f_1_43 rfl rfl ?_
      refine g_getf dX1_readyHere_56 h13 f_1_48 rfl rfl ?_
      refine g_icmp_ge (t := 121) dX1_readyHere_59 (by decide) rfl (by omega) (by omega) (fun c_59 => ?_) (fun c_59 => False.elim (by omega))
      refine g_l dX1_readyHere_121 rfl rfl ?_
      refine g_retI dX1_readyHere_122 rfl rfl ?_
      rw [e]
      exact hq
    | succ m ih =>
      intro i z4 b1 b2 hm
      generalize abF S (S 245) (S 13 5).toNat = ab at ih hq ⊢
      have es : rhF (S 246) (S 247) (S 245) ab (i + 1).toNat = rhF (S 246) (S 247) (S 245) ab i.toNat + bAnd (bShr (if bAnd (bShr ab (S 245 i)) 1 = 1 then S 247 i else S 246 i) (S 245 i)) 1 := by
        rw [show (i + 1).toNat = i.toNat + 1 by omega, rhF, Int.toNat_of_nonneg b1]
      have rb : R32 (bAnd (bShr ab (S 245 i)) 1) := R_bAnd
      refine g_l dX1_readyHere_51 rfl rfl ?_
      refine g_l dX1_readyHere_52 rfl rfl ?_
      refine g_getf dX1_readyHere_53 h243 f_1_43 rfl rfl ?_
      refine g_getf dX1_readyHere_56 h13 f_1_48 rfl rfl ?_
      refine g_icmp_ge (t := 121) dX1_readyHere_59 (by decide) rfl (by omega) (by omega) (fun c_59 => False.elim (by omega)) (fun c_59 => ?_)
      refine g_l dX1_readyHere_62 rfl rfl ?_
      refine g_l dX1_readyHere_63 rfl rfl ?_
      refine g_getf dX1_readyHere_64 h243 f_1_15 rfl rfl ?_
      refine g_l dX1_readyHere_67 rfl rfl ?_
      refine g_iald dX1_readyHere_68 h245 (by omega) (by decide) rfl ?_
      refine g_ishr dX1_readyHere_69 rfl ?_
      refine g_iconst dX1_readyHere_70 rfl ?_
      refine g_iand dX1_readyHere_71 rfl ?_
      refine g_iconst dX1_readyHere_72 rfl ?_
      refine g_icmp_ne (t := 80) dX1_readyHere_73 (by decide) rfl (by omega) (by omega) (fun c_73 => ?_) (fun c_73 => ?_)
      · rw [if_neg c_73] at es
        refine g_iconst dX1_readyHere_80 rfl ?_
        refine g_l (loc' := [some _, some _, some _, some _, some _]) dX1_readyHere_81 rfl rfl ?_
        refine g_l dX1_readyHere_83 rfl rfl ?_
        refine g_l dX1_readyHere_84 rfl rfl ?_
        refine g_if_eq (t := 98) dX1_readyHere_86 (by decide) rfl (by omega) (fun c_86 => ?_) (fun c_86 => False.elim (by omega))
        refine g_l dX1_readyHere_98 rfl rfl ?_
        refine g_getf dX1_readyHere_99 h243 f_1_18 rfl rfl ?_
        refine g_l dX1_readyHere_102 rfl rfl ?_
        refine g_iald dX1_readyHere_103 h246 (by omega) (by decide) rfl ?_
        refine g_l dX1_readyHere_104 rfl rfl ?_
        refine g_getf dX1_readyHere_105 h243 f_1_15 rfl rfl ?_
        refine g_l dX1_readyHere_108 rfl rfl ?_
        refine g_iald dX1_readyHere_109 h245 (by omega) (by decide) rfl ?_
        refine g_ishr dX1_readyHere_110 rfl ?_
        refine g_iconst dX1_readyHere_111 rfl ?_
        refine g_iand dX1_readyHere_112 rfl ?_
        refine g_iadd dX1_readyHere_113 rfl ?_
        rw [← es]
        refine g_l (loc' := [some _, some _, some _, some _, some _]) dX1_readyHere_114 rfl rfl ?_
        refine g_iinc (loc' := [some _, some _, some _, some _, some _]) dX1_readyHere_115 rfl rfl rfl ?_
        refine g_goto (t := 51) dX1_readyHere_118 (by decide) ?_
        exact ih (i + 1) _ (by omega) (by omega) (by omega)
      · rw [if_pos (by omega)] at es
        refine g_iconst dX1_readyHere_76 rfl ?_
        refine g_goto (t := 81) dX1_readyHere_77 (by decide) ?_
        refine g_l (loc' := [some _, some _, some _, some _, some _]) dX1_readyHere_81 rfl rfl ?_
        refine g_l dX1_readyHere_83 rfl rfl ?_
        refine g_l dX1_readyHere_84 rfl rfl ?_
        refine g_if_eq (t := 98) dX1_readyHere_86 (by decide) rfl (by omega) (fun c_86 => False.elim (by omega)) (fun c_86 => ?_)
        refine g_l dX1_readyHere_89 rfl rfl ?_
        refine g_getf dX1_readyHere_90 h243 f_1_21 rfl rfl ?_
        refine g_l dX1_readyHere_93 rfl rfl ?_
        refine g_iald dX1_readyHere_94 h247 (by omega) (by decide) rfl ?_
        refine g_goto (t := 104) dX1_readyHere_95 (by decide) ?_
        refine g_l dX1_readyHere_104 rfl rfl ?_
        refine g_getf dX1_readyHere_105 h243 f_1_15 rfl rfl ?_
        refine g_l dX1_readyHere_108 rfl rfl ?_
        refine g_iald dX1_readyHere_109 h245 (by omega) (by decide) rfl ?_
        refine g_ishr dX1_readyHere_110 rfl ?_
        refine g_iconst dX1_readyHere_111 rfl ?_
        refine g_iand dX1_readyHere_112 rfl ?_
        refine g_iadd dX1_readyHere_113 rfl ?_
        rw [← es]
        refine g_l (loc' := [some _, some _, some _, some _, some _]) dX1_readyHere_114 rfl rfl ?_
        refine g_iinc (loc' := [some _, some _, some _, some _, some _]) dX1_readyHere_115 rfl rfl rfl ?_
        refine g_goto (t := 51) dX1_readyHere_118 (by decide) ?_
        exact ih (i + 1) _ (by omega) (by omega) (by omega)
  have loop : ∀ (m : Nat) (i : Int), 0 ≤ i → i ≤ S 13 5 → (S 13 5 - i).toNat = m →
      G none (d + 1) 1 false (some .int) 0 0 (hO S Tw M P).length cX1_readyHere Q 0 4 [some (.ref 243), some (.int (iI (abF S (S 245) i.toNat))), some (.int (iI i)), none, none] [] (hO S Tw M P) := by
    intro m
    induction m with
    | zero =>
      intro i b1 b2 hm
      have e : i = S 13 5 := by omega
      refine g_l dX1_readyHere_4 rfl rfl ?_
      refine g_l dX1_readyHere_5 rfl rfl ?_
      refine g_getf dX1_readyHere_6 h243 f_1_43 rfl rfl ?_
      refine g_getf dX1_readyHere_9 h13 f_1_48 rfl rfl ?_
      refine g_icmp_ge (t := 47) dX1_readyHere_12 (by decide) rfl (by omega) (by omega) (fun c_12 => ?_) (fun c_12 => False.elim (by omega))
      refine g_iconst dX1_readyHere_47 rfl ?_
      refine g_l (loc' := [some _, some _, some _, _, _]) dX1_readyHere_48 rfl rfl ?_
      refine g_iconst dX1_readyHere_49 rfl ?_
      refine g_l (loc' := [some _, some _, some _, some _, _]) dX1_readyHere_50 rfl rfl ?_
      rw [e]
      exact loop2 (S 13 5).toNat 0 none (by omega) n1 (by rw [Int.sub_zero])
    | succ m ih =>
      intro i b1 b2 hm
      have es : abF S (S 245) (i + 1).toNat = bOr (abF S (S 245) i.toNat) (if S 14 i = 1 then bShl 2 (S 245 i) else 0) := by
        rw [show (i + 1).toNat = i.toNat + 1 by omega, abF, Int.toNat_of_nonneg b1]
      refine g_l dX1_readyHere_4 rfl rfl ?_
      refine g_l dX1_readyHere_5 rfl rfl ?_
      refine g_getf dX1_readyHere_6 h243 f_1_43 rfl rfl ?_
      refine g_getf dX1_readyHere_9 h13 f_1_48 rfl rfl ?_
      refine g_icmp_ge (t := 47) dX1_readyHere_12 (by decide) rfl (by omega) (by omega) (fun c_12 => False.elim (by omega)) (fun c_12 => ?_)
      refine g_l dX1_readyHere_15 rfl rfl ?_
      refine g_l dX1_readyHere_16 rfl rfl ?_
      refine g_getf dX1_readyHere_17 h243 f_1_43 rfl rfl ?_
      refine g_l dX1_readyHere_20 rfl rfl ?_
      refine g_callV dX1_readyHere_21 m_1_102 (n := 1) rfl h13 rfl (Nat.le_of_ble_eq_true rfl) (Nat.le_of_ble_eq_true rfl) rfl rfl ?_
      refine s_X8_isSalt hp b1 (by omega) (fun y => ?_) (fun y => ?_)
      · rw [if_pos y] at es
        simp only [Option.toList_some, Option.toList_none, List.cons_append, List.nil_append]
        refine g_if_eq (t := 38) dX1_readyHere_24 (by decide) rfl (by omega) (fun c_24 => False.elim (by omega)) (fun c_24 => ?_)
        refine g_iconst dX1_readyHere_27 rfl ?_
        refine g_l dX1_readyHere_28 rfl rfl ?_
        refine g_getf dX1_readyHere_29 h243 f_1_15 rfl rfl ?_
        refine g_l dX1_readyHere_32 rfl rfl ?_
        refine g_iald dX1_readyHere_33 h245 (by omega) (by decide) rfl ?_
        refine g_ishl dX1_readyHere_34 rfl ?_
        refine g_goto (t := 39) dX1_readyHere_35 (by decide) ?_
        refine g_ior dX1_readyHere_39 rfl ?_
        rw [← es]
        refine g_l (loc' := [some _, some _, some _, _, _]) dX1_readyHere_40 rfl rfl ?_
        refine g_iinc (loc' := [some _, some _, some _, _, _]) dX1_readyHere_41 rfl rfl rfl ?_
        refine g_goto (t := 4) dX1_readyHere_44 (by decide) ?_
        exact ih (i + 1) (by omega) (by omega) (by omega)
      · rw [if_neg y] at es
        simp only [Option.toList_some, Option.toList_none, List.cons_append, List.nil_append]
        refine g_if_eq (t := 38) dX1_readyHere_24 (by decide) rfl (by omega) (fun c_24 => ?_) (fun c_24 => False.elim (by omega))
        refine g_iconst dX1_readyHere_38 rfl ?_
        refine g_ior dX1_readyHere_39 rfl ?_
        rw [← es]
        refine g_l (loc' := [some _, some _, some _, _, _]) dX1_readyHere_40 rfl rfl ?_
        refine g_iinc (loc' := [some _, some _, some _, _, _]) dX1_readyHere_41 rfl rfl rfl ?_
        refine g_goto (t := 4) dX1_readyHere_44 (by decide) ?_
        exact ih (i + 1) (by omega) (by omega) (by omega)
  exact loop (S 13 5).toNat 0 (by omega) n1 (by rw [Int.sub_zero])
end FL
