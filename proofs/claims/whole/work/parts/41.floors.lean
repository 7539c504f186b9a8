/-! floors -/
theorem bAnd_1 (a : Int) : bAnd a 1 = 0 ∨ bAnd a 1 = 1 := by
  unfold bAnd
  have h : (iI a &&& iI 1).toBitVec.toNat ≤ 1 := by
    have : (iI a &&& iI 1).toBitVec = (iI a).toBitVec &&& (1 : BitVec 32) := rfl
    rw [this, BitVec.toNat_and]
    exact Nat.and_le_right
  have e : (iI a &&& iI 1).toInt = ((iI a &&& iI 1).toBitVec.toNat : Int) := by
    show (iI a &&& iI 1).toBitVec.toInt = _
    exact BitVec.toInt_eq_toNat_of_lt (by omega)
  omega
/-- n quarters of pot p alone, no gales -/
def qI (S : Nat → Int → Int) (p sb w : Int) (X : Nat → Int → Int) : Nat → Nat → Int → Int
  | 0 => X
  | n + 1 => qX S p sb w 0 (qI S p sb w X n)
/-- pot p is READY in kiln k behind n quarters of wood w -/
abbrev rdP (S : Nat → Int → Int) (X : Nat → Int → Int) (p sb : Int) (n : Nat) (w k : Int) : Prop := qI S p sb w (plX p k X) n 10 p = 1
theorem plX_agr {S : Nat → Int → Int} {t : Nat} {p k : Int} {Tw : Nat → Nat → Int → Int} {Y : Nat → Int → Int} (h : agr S (Tw t) Y) : agr S (wT Tw t 8 p k t) (plX p k Y) := by
  obtain ⟨y1, y2, y3, y4⟩ := h
  refine ⟨?_, ?_, fun j a b => ⟨?_, ?_, ?_⟩, fun i a b => ⟨?_, ?_, ?_⟩⟩
  · rw [wT_o (by decide)]; exact y1
  · rw [wT_o (by decide)]; exact y2
  · rw [wT_o (by decide)]; exact (y3 j a b).1
  · rw [wT_o (by decide)]; exact (y3 j a b).2.1
  · rw [wT_o (by decide)]; exact (y3 j a b).2.2
  · rw [wT_s]
    unfold plX
    by_cases c : i = p
    · rw [if_pos c, if_pos ⟨rfl, c⟩]
    · rw [if_neg c, if_neg (fun z => c z.2)]; exact (y4 i a b).1
  · rw [wT_o (by decide)]; exact (y4 i a b).2.1
  · rw [wT_o (by decide)]; exact (y4 i a b).2.2
theorem plX_ok {S : Nat → Int → Int} {X : Nat → Int → Int} {p k B : Int} (h : twOk S X B) (hk : 0 ≤ k ∧ k < X 1 5) : twOk S (plX p k X) B := by
  obtain ⟨⟨t1, t2, t3, t4⟩, q, r⟩ := h
  refine ⟨⟨t1, t2, fun j a b => t3 j a b, t4⟩, fun i a b => ?_, fun i a b => ?_⟩
  · obtain ⟨z1, z2⟩ := q i a b
    refine ⟨?_, z2⟩
    unfold plX
    split
    · omega
    · exact z1
  · have := r i a b
    show (if (8 : Nat) = 8 ∧ i = p then k else X 8 i) < X 1 5
    split
    · exact hk.2
    · exact this
theorem qI_ok {S : Nat → Int → Int} {X : Nat → Int → Int} {p sb w B : Int} (hp : pOk S) (h : twOk S X B) (h0 : 0 ≤ p ∧ p < S 13 5) (hw : 0 ≤ w ∧ w ≤ 9) : ∀ n : Nat, twOk S (qI S p sb w X n) (B + 180 * n)
  | 0 => by rw [show B + 180 * ((0 : Nat) : Int) = B by omega]; exact h
  | n + 1 => by
    have := qX_ok (sb := sb) (b := 0) hp (qI_ok (sb := sb) hp h h0 hw n) h0 hw
    rw [show B + 180 * ((n + 1 : Nat) : Int) = B + 180 * (n : Int) + 180 by omega]
    exact this
theorem qI_8 {S : Nat → Int → Int} {X : Nat → Int → Int} {p sb w : Int} : ∀ n : Nat, qI S p sb w X n 8 p = X 8 p ∧ qI S p sb w X n 1 5 = X 1 5
  | 0 => ⟨rfl, rfl⟩
  | n + 1 => qI_8 n
section FL
variable {S : Nat → Int → Int} {Tw : Nat → Nat → Int → Int} {M : Nat → Int → Int} {P : Nat → Nat} {d : Nat} {Q : Option Value → GH → Prop}
theorem s_X1_isFree {i : Int} (hi : 0 ≤ i ∧ i < 5) (hr : R32 (Tw 0 10 i)) (hy : Tw 0 10 i = 0 → Q (some (.int (iI 1))) (hO S Tw M P)) (hn : ¬ Tw 0 10 i = 0 → Q (some (.int (iI 0))) (hO S Tw M P)) : CallD (d + 1) 9 [.ref 243, .int (iI i)] (hO S Tw M P) Q := by
  refine g_enter (loc := [some _, some _]) e_X1_isFree i_X1_isFree (Nat.le_of_ble_eq_true rfl) rfl ?_
  refine g_l dX1_isFree_0 rfl rfl ?_
  refine g_getf dX1_isFree_1 h243 f_1_24 rfl rfl ?_
  refine g_getf dX1_isFree_4 (hT0 (by omega)) f_1_31 rfl rfl ?_
  refine g_getf dX1_isFree_7 (hT7 (by omega)) f_1_76 rfl rfl ?_
  refine g_l dX1_isFree_10 rfl rfl ?_
  refine g_iald dX1_isFree_11 (hTa10 (by omega)) (by omega) (by decide) rfl ?_
  refine g_if_ne (t := 19) dX1_isFree_12 (by decide) rfl (by omega) (fun c_12 => ?_) (fun c_12 => ?_)
  · refine g_iconst dX1_isFree_19 rfl ?_
    refine g_retZ dX1_isFree_20 rfl rfl (by omega) ?_
    exact hn c_12
  · refine g_iconst dX1_isFree_15 rfl ?_
    refine g_goto (t := 20) dX1_isFree_16 (by decide) ?_
    refine g_retZ dX1_isFree_20 rfl rfl (by omega) ?_
    exact hy (by omega)
theorem s_X1_isReadyIn {p k sb n w B : Int} (hp : pOk S) (hk : twOk S (Tw 0) B) (hB : B ≤ 900000) (hp0 : 0 ≤ p ∧ p < S 13 5) (hk0 : 0 ≤ k ∧ k < Tw 0 1 5) (hsb : sb = 0 ∨ sb = 1) (hn : 0 ≤ n ∧ n ≤ 9) (hw : 0 ≤ w ∧ w ≤ 9)
    (hy : rdP S (Tw 0) p sb n.toNat w k → ∀ Tw', frT 15 Tw Tw' → Q (some (.int (iI 1))) (hO S Tw' M P)) (hno : ¬ rdP S (Tw 0) p sb n.toNat w k → ∀ Tw', frT 15 Tw Tw' → Q (some (.int (iI 0))) (hO S Tw' M P)) : CallD (d + 4) 11 [.ref 243, .int (iI p), .int (iI k), .int (iI sb), .int (iI n), .int (iI w)] (hO S Tw M P) Q := by
  have hp5 := hp.2.1
  have z0 := plX_ok (p := p) hk hk0
  have z1 : plX p k (Tw 0) 8 p = k := by unfold plX; rw [if_pos ⟨rfl, rfl⟩]
  have z2 : plX p k (Tw 0) 1 5 = Tw 0 1 5 := rfl
  have z5 := hk.1.2.1
  refine g_enter (loc := [some _, some _, some _, some _, some _, some _, _]) e_X1_isReadyIn i_X1_isReadyIn (Nat.le_of_ble_eq_true rfl) rfl ?_
  refine g_l dX1_isReadyIn_0 rfl rfl ?_
  refine g_getf dX1_isReadyIn_1 h243 f_1_28 rfl rfl ?_
  refine g_l dX1_isReadyIn_4 rfl rfl ?_
  refine g_getf dX1_isReadyIn_5 h243 f_1_24 rfl rfl ?_
  refine g_callV dX1_isReadyIn_8 m_1_90 (n := 1) rfl (hT0 (by omega)) rfl (Nat.le_of_ble_eq_true rfl) (Nat.le_of_ble_eq_true rfl) rfl rfl ?_
  refine s_X9_copyFrom (t := 15) (u := 0) (by decide) (by decide) (by decide) (fun T1 a1 a2 => ?_)
  simp only [Option.toList_some, Option.toList_none, List.cons_append, List.nil_append]
  refine g_l dX1_isReadyIn_11 rfl rfl ?_
  refine g_getf dX1_isReadyIn_12 h243 f_1_28 rfl rfl ?_
  refine g_getf dX1_isReadyIn_15 (hT0 (by omega)) f_1_31 rfl rfl ?_
  refine g_getf dX1_isReadyIn_18 (hT7 (by omega)) f_1_58 rfl rfl ?_
  refine g_l dX1_isReadyIn_21 rfl rfl ?_
  refine g_l dX1_isReadyIn_22 rfl rfl ?_
  refine g_iast dX1_isReadyIn_23 (hTa8 (by omega)) (by omega) (by decide) (pTa8 (by omega)) rfl ?_
  refine g_iconst dX1_isReadyIn_24 rfl ?_
  refine g_l (loc' := [some _, some _, some _, some _, some _, some _, some _]) dX1_isReadyIn_25 rfl rfl ?_
  have loop : ∀ (m : Nat) (i : Int) (Tw' : Nat → Nat → Int → Int), 0 ≤ i → i ≤ n → (n - i).toNat = m → frT 15 Tw Tw' → agr S (Tw' 15) (qI S p sb w (plX p k (Tw 0)) i.toNat) →
      G none (d + 3) 1 false (some .boolean) 0 0 (hO S Tw M P).length cX1_isReadyIn Q 0 27 [some (.ref 243), some (.int (iI p)), some (.int (iI k)), some (.int (iI sb)), some (.int (iI n)), some (.int (iI w)), some (.int (iI i))] [] (hO S Tw' M P) := by
    intro m
    induction m with
    | zero =>
      intro i Tw' b1 b2 hm f1 f2
      have e : i = n := by omega
      subst e
      have e1 := (f2.2.2.2 p hp0.1 hp0.2).2.2
      have r1 := ((qI_ok (sb := sb) hp z0 hp0 hw i.toNat).2.1 p hp0.1 hp0.2).2.2.1
      refine g_l dX1_isReadyIn_27 rfl rfl ?_
      refine g_l dX1_isReadyIn_29 rfl rfl ?_
      refine g_icmp_ge (t := 71) dX1_isReadyIn_31 (by decide) rfl (by omega) (by omega) (fun c_31 => ?_) (fun c_31 => False.elim (by omega))
      refine g_l dX1_isReadyIn_71 rfl rfl ?_
      refine g_getf dX1_isReadyIn_72 h243 f_1_28 rfl rfl ?_
      refine g_getf dX1_isReadyIn_75 (hT0 (by omega)) f_1_31 rfl rfl ?_
      refine g_getf dX1_isReadyIn_78 (hT7 (by omega)) f_1_76 rfl rfl ?_
      refine g_l dX1_isReadyIn_81 rfl rfl ?_
      refine g_iald dX1_isReadyIn_82 (hTa10 (by omega)) (by omega) (by decide) rfl ?_
      refine g_iconst dX1_isReadyIn_83 rfl ?_
      rw [e1]
      refine g_icmp_ne (t := 91) dX1_isReadyIn_84 (by decide) rfl (by omega) (by omega) (fun c_84 => ?_) (fun c_84 => ?_)
      · refine g_iconst dX1_isReadyIn_91 rfl ?_
        refine g_retZ dX1_isReadyIn_92 rfl rfl (by omega) ?_
        exact hno c_84 Tw' f1
      · refine g_iconst dX1_isReadyIn_87 rfl ?_
        refine g_goto (t := 92) dX1_isReadyIn_88 (by decide) ?_
        refine g_retZ dX1_isReadyIn_92 rfl rfl (by omega) ?_
        exact hy (by omega) Tw' f1
    | succ m ih =>
      intro i Tw' b1 b2 hm f1 f2
      have f3 := qI_ok (sb := sb) hp z0 hp0 hw i.toNat
      obtain ⟨f4, f5⟩ := qI_8 (S := S) (X := plX p k (Tw 0)) (p := p) (sb := sb) (w := w) i.toNat
      rw [z1] at f4
      rw [z2] at f5
      have hdef : qI S p sb w (plX p k (Tw 0)) (i + 1).toNat = feX S p sb (bX w (qI S p sb w (plX p k (Tw 0)) i.toNat)) := by
        rw [show (i + 1).toNat = i.toNat + 1 by omega]
        rfl
      generalize qI S p sb w (plX p k (Tw 0)) i.toNat = X at f2 f3 f4 f5 hdef
      have f6 := f3.agr f2
      refine g_l dX1_isReadyIn_27 rfl rfl ?_
      refine g_l dX1_isReadyIn_29 rfl rfl ?_
      refine g_icmp_ge (t := 71) dX1_isReadyIn_31 (by decide) rfl (by omega) (by omega) (fun c_31 => False.elim (by omega)) (fun c_31 => ?_)
      refine g_l dX1_isReadyIn_34 rfl rfl ?_
      refine g_getf dX1_isReadyIn_35 h243 f_1_28 rfl rfl ?_
      refine g_getf dX1_isReadyIn_38 (hT0 (by omega)) f_1_79 rfl rfl ?_
      refine g_l dX1_isReadyIn_41 rfl rfl ?_
      refine g_callV dX1_isReadyIn_43 m_1_94 (n := 1) rfl (hT1 (by omega)) rfl (Nat.le_of_ble_eq_true rfl) (Nat.le_of_ble_eq_true rfl) rfl rfl ?_
      refine s_X2_burn (t := 15) (by decide) (f6.1.k (by omega)) (fun T2 hb => ?_)
      simp only [Option.toList_some, Option.toList_none, List.cons_append, List.nil_append]
      have y1 := burnP_agr (S := S) hb
      have y2 := bX_agr (w := w) f2 ⟨f3.1.1, f3.1.2.1⟩
      have y3 : agr5 S (T2 15) (bX w X) := agr5.tr y1 y2
      have y4 := bX_ok f3 hw
      have y5 : hOk (bX w X) (X 8 p) := bX_h f3 (by omega) hw (by rw [f4]; exact hk0.1) (by rw [f4, f5]; exact hk0.2)
      have e8 : T2 15 8 p = X 8 p := (y3.1.2.2.2 p hp0.1 hp0.2).1
      have hr : 0 ≤ bX w X 8 p ∧ bX w X 8 p < bX w X 1 5 := by
        show 0 ≤ X 8 p ∧ X 8 p < X 1 5
        rw [f4, f5]; exact hk0
      have hn5 : bX w X 1 5 ≤ 5 := by
        show X 1 5 ≤ 5
        rw [f5]; exact z5
      refine g_l dX1_isReadyIn_46 rfl rfl ?_
      refine g_getf dX1_isReadyIn_47 h243 f_1_28 rfl rfl ?_
      refine g_getf dX1_isReadyIn_50 (hT0 (by omega)) f_1_31 rfl rfl ?_
      refine g_l dX1_isReadyIn_53 rfl rfl ?_
      refine g_l dX1_isReadyIn_54 rfl rfl ?_
      refine g_getf dX1_isReadyIn_55 h243 f_1_28 rfl rfl ?_
      refine g_getf dX1_isReadyIn_58 (hT0 (by omega)) f_1_79 rfl rfl ?_
      refine g_l dX1_isReadyIn_61 rfl rfl ?_
      refine g_callV dX1_isReadyIn_62 m_1_98 (n := 3) rfl (hT7 (by omega)) rfl (Nat.le_of_ble_eq_true rfl) (Nat.le_of_ble_eq_true rfl) rfl rfl ?_
      refine s_X4_feel (t := 15) (by decide) hp hp0.1 hp0.2 (y4.agr y3.1).2.1 ?_ hsb (fun T4 hf => ?_)
      · rw [e8]
        exact hOk_agr y3 y5 (by rw [f4]; exact hk0.1) (by show X 8 p < X 1 5; rw [f4, f5]; exact hk0.2) hn5
      · simp only [Option.toList_some, Option.toList_none, List.cons_append, List.nil_append]
        refine g_iinc (loc' := [some _, some _, some _, some _, some _, some _, some _]) dX1_isReadyIn_65 rfl rfl rfl ?_
        refine g_goto (t := 27) dX1_isReadyIn_68 (by decide) ?_
        have x1 : agr S (T4 15) (feX S p sb (bX w X)) := (potP_agr hf).tr (feX_agr y3 hp0 hr hn5)
        rw [← hdef] at x1
        exact ih (i + 1) T4 (by omega) (by omega) (by omega) ((f1.tr hb.1).tr hf.1) x1
  exact loop n.toNat 0 _ (by omega) hn.1 (by rw [Int.sub_zero]) (a1.tr (frT.rf.w)) (plX_agr a2)
/-- how many could be READY -/
def mpF (S : Nat → Int → Int) : Nat → Int
  | 0 => 0
  | n + 1 => mpF S n + (if bOr (S 246 n) (S 247 n) = 0 then 0 else 1)
theorem mpF_in {S : Nat → Int → Int} : ∀ n : Nat, 0 ≤ mpF S n ∧ mpF S n ≤ n
  | 0 => ⟨by simp [mpF], by simp [mpF]⟩
  | n + 1 => by
    have := mpF_in (S := S) n
    rw [mpF]
    split <;> omega
theorem s_X1_mostPossible (hp : 0 ≤ S 13 5 ∧ S 13 5 ≤ 5) (hq : Q (some (.int (iI (mpF S (S 13 5).toNat)))) (hO S Tw M P)) : CallD (d + 1) 12 [.ref 243] (hO S Tw M P) Q := by
  refine g_enter (loc := [some _, _, _]) e_X1_mostPossible i_X1_mostPossible (Nat.le_of_ble_eq_true rfl) rfl ?_
  refine g_iconst dX1_mostPossible_0 rfl ?_
  refine g_l (loc' := [some _, some _, _]) dX1_mostPossible_1 rfl rfl ?_
  refine g_iconst dX1_mostPossible_2 rfl ?_
  refine g_l (loc' := [some _, some _, some _]) dX1_mostPossible_3 rfl rfl ?_
  have loop : ∀ (m : Nat) (i : Int), 0 ≤ i → i ≤ S 13 5 → (S 13 5 - i).toNat = m →
      G none d 1 false (some .int) 0 0 (hO S Tw M P).length cX1_mostPossible Q 0 4 [some (.ref 243), some (.int (iI (mpF S i.toNat))), some (.int (iI i))] [] (hO S Tw M P) := by
    intro m
    induction m with
    | zero =>
      intro i b1 b2 hm
      have e : i = S 13 5 := by omega
      refine g_l dX1_mostPossible_4 rfl rfl ?_
      refine g_l dX1_mostPossible_5 rfl rfl ?_
      refine g_getf dX1_mostPossible_6 h243 f_1_43 rfl rfl ?_
      refine g_getf dX1_mostPossible_9 h13 f_1_48 rfl rfl ?_
      refine g_icmp_ge (t := 45) dX1_mostPossible_12 (by decide) rfl (by omega) (by omega) (fun c_12 => ?_) (fun c_12 => False.elim (by omega))
      refine g_l dX1_mostPossible_45 rfl rfl ?_
      refine g_retI dX1_mostPossible_46 rfl rfl ?_
      rw [e]
      exact hq
    | succ m ih =>
      intro i b1 b2 hm
      have es : mpF S (i + 1).toNat = mpF S i.toNat + (if bOr (S 246 i) (S 247 i) = 0 then 0 else 1) := by
        rw [show (i + 1).toNat = i.toNat + 1 by omega, mpF, Int.toNat_of_nonneg b1]
      have rb : R32 (bOr (S 246 i) (S 247 i)) := R_bOr
      refine g_l dX1_mostPossible_4 rfl rfl ?_
      refine g_l dX1_mostPossible_5 rfl rfl ?_
      refine g_getf dX1_mostPossible_6 h243 f_1_43 rfl rfl ?_
      refine g_getf dX1_mostPossible_9 h13 f_1_48 rfl rfl ?_
      refine g_icmp_ge (t := 45) dX1_mostPossible_12 (by decide) rfl (by omega) (by omega) (fun c_12 => False.elim (by omega)) (fun c_12 => ?_)
      refine g_l dX1_mostPossible_15 rfl rfl ?_
      refine g_l dX1_mostPossible_16 rfl rfl ?_
      refine g_getf dX1_mostPossible_17 h243 f_1_18 rfl rfl ?_
      refine g_l dX1_mostPossible_20 rfl rfl ?_
      refine g_iald dX1_mostPossible_21 h246 (by omega) (by decide) rfl ?_
      refine g_l dX1_mostPossible_22 rfl rfl ?_
      refine g_getf dX1_mostPossible_23 h243 f_1_21 rfl rfl ?_
      refine g_l dX1_mostPossible_26 rfl rfl ?_
      refine g_iald dX1_mostPossible_27 h247 (by omega) (by decide) rfl ?_
      refine g_ior dX1_mostPossible_28 rfl ?_
      refine g_if_eq (t := 36) dX1_mostPossible_29 (by decide) rfl (by omega) (fun c_29 => ?_) (fun c_29 => ?_)
      · rw [if_pos c_29] at es
        refine g_iconst dX1_mostPossible_36 rfl ?_
        refine g_iadd dX1_mostPossible_37 rfl ?_
        rw [← es]
        refine g_l (loc' := [some _, some _, some _]) dX1_mostPossible_38 rfl rfl ?_
        refine g_iinc (loc' := [some _, some _, some _]) dX1_mostPossible_39 rfl rfl rfl ?_
        refine g_goto (t := 4) dX1_mostPossible_42 (by decide) ?_
        exact ih (i + 1) (by omega) (by omega) (by omega)
      · rw [if_neg c_29] at es
        refine g_iconst dX1_mostPossible_32 rfl ?_
        refine g_goto (t := 37) dX1_mostPossible_33 (by decide) ?_
        refine g_iadd dX1_mostPossible_37 rfl ?_
        rw [← es]
        refine g_l (loc' := [some _, some _, some _]) dX1_mostPossible_38 rfl rfl ?_
        refine g_iinc (loc' := [some _, some _, some _]) dX1_mostPossible_39 rfl rfl rfl ?_
        refine g_goto (t := 4) dX1_mostPossible_42 (by decide) ?_
        exact ih (i + 1) (by omega) (by omega) (by omega)
  exact loop (S 13 5).toNat 0 (by omega) hp.1 (by rw [Int.sub_zero])
end FL
