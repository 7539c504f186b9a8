/-! Pots: the spec of each method -/
/-- how a pot feels a quarter -/
def fHow (mj kd lo hi ti has hn hw ca sb : Int) : Int := if mj < (if 0 ≤ hn - hw then hn - hw else -(hn - hw)) then 2 else if kd = 2 ∧ sb = 1 ∧ 0 < ca then 3 else if 10 * lo ≤ hn ∧ hn ≤ 10 * hi then (if ti ≤ has + 1 then 1 else 0) else 0
def fHas (mj kd lo hi has hn hw ca sb : Int) : Int := if mj < (if 0 ≤ hn - hw then hn - hw else -(hn - hw)) then has else if kd = 2 ∧ sb = 1 ∧ 0 < ca then has else if 10 * lo ≤ hn ∧ hn ≤ 10 * hi then has + 1 else has
/-- pot p of a tower X behind a quarter -/
def nHow (S : Nat → Int → Int) (X : Nat → Int → Int) (p sb : Int) : Int := if X 10 p = 0 then fHow (mjF S p) (S 14 p) (S 15 p) (S 16 p) (S 17 p) (X 9 p) (X 2 (X 8 p)) (X 5 (X 8 p)) (X 6 (X 8 p)) sb else X 10 p
def nHas (S : Nat → Int → Int) (X : Nat → Int → Int) (p sb : Int) : Int := if X 10 p = 0 then fHas (mjF S p) (S 14 p) (S 15 p) (S 16 p) (X 9 p) (X 2 (X 8 p)) (X 5 (X 8 p)) (X 6 (X 8 p)) sb else X 9 p
def saltB (S : Nat → Int → Int) (X : Nat → Int → Int) (k : Int) : Prop := ∃ i, 0 ≤ i ∧ i < S 13 5 ∧ S 14 i = 1 ∧ X 8 i = k - 1
noncomputable def sbF (S : Nat → Int → Int) (X : Nat → Int → Int) (k : Int) : Int := @ite Int (saltB S X k) (Classical.propDecidable _) 1 0
theorem sbF_1 {S : Nat → Int → Int} {X : Nat → Int → Int} {k : Int} (h : saltB S X k) : sbF S X k = 1 := by unfold sbF; exact if_pos h
theorem sbF_0 {S : Nat → Int → Int} {X : Nat → Int → Int} {k : Int} (h : ¬ saltB S X k) : sbF S X k = 0 := by unfold sbF; exact if_neg h
theorem sbF_01 (S : Nat → Int → Int) (X : Nat → Int → Int) (k : Int) : sbF S X k = 0 ∨ sbF S X k = 1 := by
  by_cases h : saltB S X k
  · exact Or.inr (sbF_1 h)
  · exact Or.inl (sbF_0 h)
theorem sbF_congr {S : Nat → Int → Int} {X X' : Nat → Int → Int} {k : Int} (h : X' 8 = X 8) : sbF S X' k = sbF S X k := by
  unfold sbF saltB
  rw [h]
/-- the pots of a tower are in their bounds -/
def qOk (S : Nat → Int → Int) (X : Nat → Int → Int) : Prop := ∀ p, 0 ≤ p → p < S 13 5 → (0 ≤ X 8 p ∧ X 8 p < 5) ∧ (0 ≤ X 9 p ∧ X 9 p ≤ 9) ∧ (0 ≤ X 10 p ∧ X 10 p ≤ 3) ∧ (X 10 p = 0 → X 9 p < S 17 p)
/-- heat, and heat before, in bounds -/
def hOk (X : Nat → Int → Int) (k : Int) : Prop := (0 ≤ X 2 k ∧ X 2 k ≤ 10000000) ∧ (0 ≤ X 5 k ∧ X 5 k ≤ 10000000) ∧ R32 (X 6 k)
theorem bOr_0 {a : Int} (h : R32 a) : bOr a 0 = a := by
  unfold bOr
  rw [iI_0, Int32.or_zero, iI_toInt h]
/-- the post of feel -/
def potP (t : Nat) (S : Nat → Int → Int) (p sb : Int) (Tw Tw' : Nat → Nat → Int → Int) : Prop := frT t Tw Tw' ∧ (∀ k, Tw' t 9 k = if k = p then nHas S (Tw t) p sb else Tw t 9 k) ∧ (∀ k, Tw' t 10 k = if k = p then nHow S (Tw t) p sb else Tw t 10 k) ∧ ∀ o, o ≠ 9 → o ≠ 10 → Tw' t o = Tw t o
/-- bits of those below n of which c holds -/
def setF (c : Int → Prop) [DecidablePred c] : Nat → Int
  | 0 => 0
  | n + 1 => bOr (setF c n) (if c n then bShl 1 n else 0)
/-- how many there are -/
def cntF (c : Int → Prop) [DecidablePred c] : Nat → Int
  | 0 => 0
  | n + 1 => cntF c n + (if c n then 1 else 0)
theorem setF_s {c : Int → Prop} [DecidablePred c] {i : Int} (h : 0 ≤ i) : setF c (i + 1).toNat = bOr (setF c i.toNat) (if c i then bShl 1 i else 0) := by
  rw [show (i + 1).toNat = i.toNat + 1 by omega]
  show bOr (setF c i.toNat) (if c ((i.toNat : Nat) : Int) then bShl 1 ((i.toNat : Nat) : Int) else 0) = _
  rw [show ((i.toNat : Nat) : Int) = i by omega]
theorem cntF_s {c : Int → Prop} [DecidablePred c] {i : Int} (h : 0 ≤ i) : cntF c (i + 1).toNat = cntF c i.toNat + (if c i then 1 else 0) := by
  rw [show (i + 1).toNat = i.toNat + 1 by omega]
  show cntF c i.toNat + (if c ((i.toNat : Nat) : Int) then 1 else 0) = _
  rw [show ((i.toNat : Nat) : Int) = i by omega]
theorem setF_congr {c e : Int → Prop} [DecidablePred c] [DecidablePred e] {n : Nat} (h : ∀ i : Int, 0 ≤ i → i < n → (c i ↔ e i)) : setF c n = setF e n := by
  induction n with
  | zero => rfl
  | succ n ih =>
    have := h (n : Int) (by omega) (by omega)
    show bOr (setF c n) (if c n then bShl 1 n else 0) = bOr (setF e n) (if e n then bShl 1 n else 0)
    rw [ih (fun i a b => h i a (by omega))]
    by_cases q : c n
    · rw [if_pos q, if_pos (this.mp q)]
    · rw [if_neg q, if_neg (fun z => q (this.mpr z))]
theorem setF_R {c : Int → Prop} [DecidablePred c] {n : Nat} : R32 (setF c n) := by
  cases n with
  | zero => exact ⟨by show (-2147483648 : Int) ≤ 0; omega, by show (0 : Int) < _; omega⟩
  | succ n => exact R_bOr
/-- bit i of x -/
def hasB (x i : Int) : Prop := bAnd (bShr x i) 1 = 1
/-- the pot is READY, or may be so with z quarters more -/
def hopB (S : Nat → Int → Int) (X : Nat → Int → Int) (z i : Int) : Prop := X 10 i = 1 ∨ (X 10 i = 0 ∧ S 17 i - X 9 i ≤ z)
theorem nH_ok {S : Nat → Int → Int} {X : Nat → Int → Int} {p sb : Int} (h1 : S 17 p ≤ 9) (h2 : 0 ≤ X 9 p ∧ X 9 p ≤ 9) (h3 : 0 ≤ X 10 p ∧ X 10 p ≤ 3) (h4 : X 10 p = 0 → X 9 p < S 17 p) :
    (0 ≤ nHas S X p sb ∧ nHas S X p sb ≤ 9) ∧ (0 ≤ nHow S X p sb ∧ nHow S X p sb ≤ 3) ∧ (nHow S X p sb = 0 → nHas S X p sb < S 17 p) := by
  unfold nHas nHow fHas fHow
  by_cases q : X 10 p = 0
  · rw [if_pos q, if_pos q]
    generalize (if 0 ≤ X 2 (X 8 p) - X 5 (X 8 p) then X 2 (X 8 p) - X 5 (X 8 p) else -(X 2 (X 8 p) - X 5 (X 8 p))) = jj
    have := h4 q
    by_cases q1 : mjF S p < jj
    · rw [if_pos q1, if_pos q1]; omega
    · rw [if_neg q1, if_neg q1]
      by_cases q2 : S 14 p = 2 ∧ sb = 1 ∧ 0 < X 6 (X 8 p)
      · rw [if_pos q2, if_pos q2]; omega
      · rw [if_neg q2, if_neg q2]
        by_cases q3 : 10 * S 15 p ≤ X 2 (X 8 p) ∧ X 2 (X 8 p) ≤ 10 * S 16 p
        · rw [if_pos q3, if_pos q3]
          by_cases q4 : S 17 p ≤ X 9 p + 1
          · rw [if_pos q4]; omega
          · rw [if_neg q4]; omega
        · rw [if_neg q3, if_neg q3]; omega
  · rw [if_neg q, if_neg q]; omega
section PO
variable {S : Nat → Int → Int} {Tw : Nat → Nat → Int → Int} {M : Nat → Int → Int} {P : Nat → Nat} {d : Nat} {Q : Option Value → GH → Prop}
set_option maxHeartbeats 1000000 in
theorem s_X4_feel {t : Nat} {p sb : Int} (ht : t < 19) (hp : pOk S) (h0 : 0 ≤ p) (h1 : p < S 13 5) (hq0 : qOk S (Tw t)) (hh : hOk (Tw t) (Tw t 8 p)) (hsb : sb = 0 ∨ sb = 1) (hq : ∀ Tw', potP t S p sb Tw Tw' → Q none (hO S Tw' M P)) : CallD (d + 2) 38 [.ref (tR t 7), .int (iI p), .ref (tR t 1), .int (iI sb)] (hO S Tw M P) Q := by
  have hp' := hp
  obtain ⟨n1, n2, hp⟩ := hp
  obtain ⟨b1, b2, b3, b4, b5⟩ := hp p h0 h1
  obtain ⟨a1, a2, a3, a4⟩ := hq0 p h0 h1
  obtain ⟨k1, k2, k3⟩ := hh
  have hmj := mjF_in hp' h0 h1
  refine g_enter (loc := [some _, some _, some _, some _, _]) e_X4_feel i_X4_feel (Nat.le_of_ble_eq_true rfl) rfl ?_
  refine g_l dX4_feel_0 rfl rfl ?_
  refine g_getf dX4_feel_1 (hT7 (by omega)) f_4_9 rfl rfl ?_
  refine g_l dX4_feel_4 rfl rfl ?_
  refine g_iald dX4_feel_5 (hTa8 (by omega)) (by omega) (by decide) rfl ?_
  refine g_l (loc' := [some _, some _, some _, some _, some _]) dX4_feel_6 rfl rfl ?_
  refine g_l dX4_feel_8 rfl rfl ?_
  refine g_getf dX4_feel_9 (hT7 (by omega)) f_4_18 rfl rfl ?_
  refine g_l dX4_feel_12 rfl rfl ?_
  refine g_iald dX4_feel_13 (hTa10 (by omega)) (by omega) (by decide) rfl ?_
  refine g_if_eq (t := 18) dX4_feel_14 (by decide) rfl (by omega) (fun c_14 => ?_) (fun c_14 => ?_)
  · refine g_l dX4_feel_18 rfl rfl ?_
    refine g_l dX4_feel_19 rfl rfl ?_
    refine g_callV dX4_feel_21 m_4_58 (n := 1) rfl (hT1 (by omega)) rfl (Nat.le_of_ble_eq_true rfl) (Nat.le_of_ble_eq_true rfl) rfl rfl ?_
    refine s_X2_jump ht (by omega) k1 k2 ?_
    simp only [Option.toList_some, Option.toList_none, List.cons_append, List.nil_append]
    generalize hjj : (if 0 ≤ Tw t 2 (Tw t 8 p) - Tw t 5 (Tw t 8 p) then Tw t 2 (Tw t 8 p) - Tw t 5 (Tw t 8 p) else -(Tw t 2 (Tw t 8 p) - Tw t 5 (Tw t 8 p))) = jj
    have hj2 : R32 jj := by rw [← hjj]; split <;> omega
    have fin1 : ∀ v : Int, jj ≤ mjF S p → ¬ (S 14 p = 2 ∧ sb = 1 ∧ 0 < Tw t 6 (Tw t 8 p)) → 10 * S 15 p ≤ Tw t 2 (Tw t 8 p) ∧ Tw t 2 (Tw t 8 p) ≤ 10 * S 16 p → (if S 17 p ≤ Tw t 9 p + 1 then 1 else 0) = v → Q none (hO S (wT (wT Tw t 9 p (Tw t 9 p + 1)) t 10 p v) M P) := by
      intro v q1 q2 q3 q4
      have e1 : nHas S (Tw t) p sb = Tw t 9 p + 1 := by
        unfold nHas fHas
        rw [if_pos c_14, hjj, if_neg (by omega), if_neg q2, if_pos q3]
      have e2 : nHow S (Tw t) p sb = v := by
        unfold nHow fHow
        rw [if_pos c_14, hjj, if_neg (by omega), if_neg q2, if_pos q3, q4]
      refine hq _ ⟨frT.rf.w.w, fun k => ?_, fun k => ?_, fun o o1 o2 => by rw [wT_o o2, wT_o o1]⟩
      · rw [wT_o (by decide), wT_s, e1]
      · rw [wT_s, wT_o (by decide), e2]
    have fin0 : jj ≤ mjF S p → ¬ (S 14 p = 2 ∧ sb = 1 ∧ 0 < Tw t 6 (Tw t 8 p)) → ¬ (10 * S 15 p ≤ Tw t 2 (Tw t 8 p) ∧ Tw t 2 (Tw t 8 p) ≤ 10 * S 16 p) → Q none (hO S Tw M P) := by
      intro q1 q2 q3
      have e1 : nHas S (Tw t) p sb = Tw t 9 p := by
        unfold nHas fHas
        rw [if_pos c_14, hjj, if_neg (by omega), if_neg q2, if_neg q3]
      have e2 : nHow S (Tw t) p sb = 0 := by
        unfold nHow fHow
        rw [if_pos c_14, hjj, if_neg (by omega), if_neg q2, if_neg q3]
      refine hq _ ⟨frT.rf, fun k => ?_, fun k => ?_, fun o o1 o2 => rfl⟩
      · rw [e1]
        by_cases h : k = p
        · rw [if_pos h, h]
        · rw [if_neg h]
      · rw [e2]
        by_cases h : k = p
        · rw [if_pos h, h, c_14]
        · rw [if_neg h]
    refine g_l dX4_feel_24 rfl rfl ?_
    refine g_getf dX4_feel_25 (hT7 (by omega)) f_4_21 rfl rfl ?_
    refine g_l dX4_feel_28 rfl rfl ?_
    refine g_callV dX4_feel_29 m_4_64 (n := 1) rfl h13 rfl (Nat.le_of_ble_eq_true rfl) (Nat.le_of_ble_eq_true rfl) rfl rfl ?_
    refine s_X8_mostJump hp' h0 h1 ?_
    simp only [Option.toList_some, Option.toList_none, List.cons_append, List.nil_append]
    refine g_icmp_le (t := 45) dX4_feel_32 (by decide) rfl (by omega) (by omega) (fun c_32 => ?_) (fun c_32 => ?_)
    · refine g_l dX4_feel_45 rfl rfl ?_
      refine g_getf dX4_feel_46 (hT7 (by omega)) f_4_21 rfl rfl ?_
      refine g_l dX4_feel_49 rfl rfl ?_
      refine g_callV dX4_feel_50 m_4_67 (n := 1) rfl h13 rfl (Nat.le_of_ble_eq_true rfl) (Nat.le_of_ble_eq_true rfl) rfl rfl ?_
      refine s_X8_isRaw hp' h0 h1 (fun r => ?_) (fun r => ?_)
      · simp only [Option.toList_some, Option.toList_none, List.cons_append, List.nil_append]
        refine g_if_eq (t := 80) dX4_feel_53 (by decide) rfl (by omega) (fun c_53 => False.elim (by omega)) (fun c_53 => ?_)
        refine g_l dX4_feel_56 rfl rfl ?_
        refine g_if_eq (t := 80) dX4_feel_57 (by decide) rfl (by omega) (fun c_57 => ?_) (fun c_57 => ?_)
        · refine g_l dX4_feel_80 rfl rfl ?_
          refine g_getf dX4_feel_81 (hT7 (by omega)) f_4_21 rfl rfl ?_
          refine g_l dX4_feel_84 rfl rfl ?_
          refine g_l dX4_feel_85 rfl rfl ?_
          refine g_getf dX4_feel_86 (hT1 (by omega)) f_4_73 rfl rfl ?_
          refine g_l dX4_feel_89 rfl rfl ?_
          refine g_iald dX4_feel_91 (hTa2 (by omega)) (by omega) (by decide) rfl ?_
          refine g_callV dX4_feel_92 m_4_76 (n := 2) rfl h13 rfl (Nat.le_of_ble_eq_true rfl) (Nat.le_of_ble_eq_true rfl) rfl rfl ?_
          refine s_X8_wants hp' h0 h1 (by omega) (fun z => ?_) (fun z => ?_)
          · simp only [Option.toList_some, Option.toList_none, List.cons_append, List.nil_append]
            refine g_if_eq (t := 137) dX4_feel_95 (by decide) rfl (by omega) (fun c_95 => False.elim (by omega)) (fun c_95 => ?_)
            refine g_l dX4_feel_98 rfl rfl ?_
            refine g_getf dX4_feel_99 (hT7 (by omega)) f_4_15 rfl rfl ?_
            refine g_l dX4_feel_102 rfl rfl ?_
            refine g_s dX4_feel_103 rfl rfl rfl ?_
            refine g_iald dX4_feel_104 (hTa9 (by omega)) (by omega) (by decide) rfl ?_
            refine g_iconst dX4_feel_105 rfl ?_
            refine g_iadd dX4_feel_106 rfl ?_
            refine g_iast dX4_feel_107 (hTa9 (by omega)) (by omega) (by decide) (pTa9 (by omega)) rfl ?_
            refine g_l dX4_feel_108 rfl rfl ?_
            refine g_getf dX4_feel_109 (hT7 (by omega)) f_4_18 rfl rfl ?_
            refine g_l dX4_feel_112 rfl rfl ?_
            refine g_l dX4_feel_113 rfl rfl ?_
            refine g_getf dX4_feel_114 (hT7 (by omega)) f_4_15 rfl rfl ?_
            refine g_l dX4_feel_117 rfl rfl ?_
            refine g_iald dX4_feel_118 (hTa9 (by omega)) (by omega) (by decide) rfl ?_
            simp only [wT_e]
            refine g_l dX4_feel_119 rfl rfl ?_
            refine g_getf dX4_feel_120 (hT7 (by omega)) f_4_21 rfl rfl ?_
            refine g_getf dX4_feel_123 h13 f_4_80 rfl rfl ?_
            refine g_l dX4_feel_126 rfl rfl ?_
            refine g_iald dX4_feel_127 h17 (by omega) (by decide) rfl ?_
            refine g_icmp_lt (t := 135) dX4_feel_128 (by decide) rfl (by omega) (by omega) (fun c_128 => ?_) (fun c_128 => ?_)
            · refine g_iconst dX4_feel_135 rfl ?_
              refine g_iast dX4_feel_136 (hTa10 (by omega)) (by omega) (by decide) (pTa10 (by omega)) rfl ?_
              refine g_retV dX4_feel_137 rfl rfl ?_
              exact fin1 0 (by omega) (by omega) z (by rw [if_neg (by omega)])
            · refine g_iconst dX4_feel_131 rfl ?_
              refine g_goto (t := 136) dX4_feel_132 (by decide) ?_
              refine g_iast dX4_feel_136 (hTa10 (by omega)) (by omega) (by decide) (pTa10 (by omega)) rfl ?_
              refine g_retV dX4_feel_137 rfl rfl ?_
              exact fin1 1 (by omega) (by omega) z (by rw [if_pos (by omega)])
          · simp only [Option.toList_some, Option.toList_none, List.cons_append, List.nil_append]
            refine g_if_eq (t := 137) dX4_feel_95 (by decide) rfl (by omega) (fun c_95 => ?_) (fun c_95 => False.elim (by omega))
            refine g_retV dX4_feel_137 rfl rfl ?_
            exact fin0 (by omega) (by omega) z
        · refine g_l dX4_feel_60 rfl rfl ?_
          refine g_getf dX4_feel_61 (hT1 (by omega)) f_4_70 rfl rfl ?_
          refine g_l dX4_feel_64 rfl rfl ?_
          refine g_iald dX4_feel_66 (hTa6 (by omega)) (by omega) (by decide) rfl ?_
          refine g_if_le (t := 80) dX4_feel_67 (by decide) rfl (by omega) (fun c_67 => ?_) (fun c_67 => ?_)
          · refine g_l dX4_feel_80 rfl rfl ?_
            refine g_getf dX4_feel_81 (hT7 (by omega)) f_4_21 rfl rfl ?_
            refine g_l dX4_feel_84 rfl rfl ?_
            refine g_l dX4_feel_85 rfl rfl ?_
            refine g_getf dX4_feel_86 (hT1 (by omega)) f_4_73 rfl rfl ?_
            refine g_l dX4_feel_89 rfl rfl ?_
            refine g_iald dX4_feel_91 (hTa2 (by omega)) (by omega) (by decide) rfl ?_
            refine g_callV dX4_feel_92 m_4_76 (n := 2) rfl h13 rfl (Nat.le_of_ble_eq_true rfl) (Nat.le_of_ble_eq_true rfl) rfl rfl ?_
            refine s_X8_wants hp' h0 h1 (by omega) (fun z => ?_) (fun z => ?_)
            · simp only [Option.toList_some, Option.toList_none, List.cons_append, List.nil_append]
              refine g_if_eq (t := 137) dX4_feel_95 (by decide) rfl (by omega) (fun c_95 => False.elim (by omega)) (fun c_95 => ?_)
              refine g_l dX4_feel_98 rfl rfl ?_
              refine g_getf dX4_feel_99 (hT7 (by omega)) f_4_15 rfl rfl ?_
              refine g_l dX4_feel_102 rfl rfl ?_
              refine g_s dX4_feel_103 rfl rfl rfl ?_
              refine g_iald dX4_feel_104 (hTa9 (by omega)) (by omega) (by decide) rfl ?_
              refine g_iconst dX4_feel_105 rfl ?_
              refine g_iadd dX4_feel_106 rfl ?_
              refine g_iast dX4_feel_107 (hTa9 (by omega)) (by omega) (by decide) (pTa9 (by omega)) rfl ?_
              refine g_l dX4_feel_108 rfl rfl ?_
              refine g_getf dX4_feel_109 (hT7 (by omega)) f_4_18 rfl rfl ?_
              refine g_l dX4_feel_112 rfl rfl ?_
              refine g_l dX4_feel_113 rfl rfl ?_
              refine g_getf dX4_feel_114 (hT7 (by omega)) f_4_15 rfl rfl ?_
              refine g_l dX4_feel_117 rfl rfl ?_
              refine g_iald dX4_feel_118 (hTa9 (by omega)) (by omega) (by decide) rfl ?_
              simp only [wT_e]
              refine g_l dX4_feel_119 rfl rfl ?_
              refine g_getf dX4_feel_120 (hT7 (by omega)) f_4_21 rfl rfl ?_
              refine g_getf dX4_feel_123 h13 f_4_80 rfl rfl ?_
              refine g_l dX4_feel_126 rfl rfl ?_
              refine g_iald dX4_feel_127 h17 (by omega) (by decide) rfl ?_
              refine g_icmp_lt (t := 135) dX4_feel_128 (by decide) rfl (by omega) (by omega) (fun c_128 => ?_) (fun c_128 => ?_)
              · refine g_iconst dX4_feel_135 rfl ?_
                refine g_iast dX4_feel_136 (hTa10 (by omega)) (by omega) (by decide) (pTa10 (by omega)) rfl ?_
                refine g_retV dX4_feel_137 rfl rfl ?_
                exact fin1 0 (by omega) (by omega) z (by rw [if_neg (by omega)])
              · refine g_iconst dX4_feel_131 rfl ?_
                refine g_goto (t := 136) dX4_feel_132 (by decide) ?_
                refine g_iast dX4_feel_136 (hTa10 (by omega)) (by omega) (by decide) (pTa10 (by omega)) rfl ?_
                refine g_retV dX4_feel_137 rfl rfl ?_
                exact fin1 1 (by omega) (by omega) z (by rw [if_pos (by omega)])
            · simp only [Option.toList_some, Option.toList_none, List.cons_append, List.nil_append]
              refine g_if_eq (t := 137) dX4_feel_95 (by decide) rfl (by omega) (fun c_95 => ?_) (fun c_95 => False.elim (by omega))
              refine g_retV dX4_feel_137 rfl rfl ?_
              exact fin0 (by omega) (by omega) z
          · refine g_l dX4_feel_70 rfl rfl ?_
            refine g_getf dX4_feel_71 (hT7 (by omega)) f_4_18 rfl rfl ?_
            refine g_l dX4_feel_74 rfl rfl ?_
            refine g_iconst dX4_feel_75 rfl ?_
            refine g_iast dX4_feel_76 (hTa10 (by omega)) (by omega) (by decide) (pTa10 (by omega)) rfl ?_
            refine g_goto (t := 137) dX4_feel_77 (by decide) ?_
            refine g_retV dX4_feel_137 rfl rfl ?_
            refine hq _ ⟨frT.rf.w, fun k => ?_, fun k => ?_, fun o o1 o2 => by rw [wT_o o2]⟩
            · rw [wT_o (by decide)]
              unfold nHas fHas
              rw [if_pos c_14, hjj]
              by_cases h : k = p
              · rw [if_pos h, if_neg (by omega), if_pos (by omega), h]
              · rw [if_neg h]
            · rw [wT_s]
              unfold nHow fHow
              rw [if_pos c_14, hjj]
              by_cases h : k = p
              · rw [if_pos h, if_pos h, if_neg (by omega), if_pos (by omega)]
              · rw [if_neg h, if_neg h]
      · simp only [Option.toList_some, Option.toList_none, List.cons_append, List.nil_append]
        refine g_if_eq (t := 80) dX4_feel_53 (by decide) rfl (by omega) (fun c_53 => ?_) (fun c_53 => False.elim (by omega))
        refine g_l dX4_feel_80 rfl rfl ?_
        refine g_getf dX4_feel_81 (hT7 (by omega)) f_4_21 rfl rfl ?_
        refine g_l dX4_feel_84 rfl rfl ?_
        refine g_l dX4_feel_85 rfl rfl ?_
        refine g_getf dX4_feel_86 (hT1 (by omega)) f_4_73 rfl rfl ?_
        refine g_l dX4_feel_89 rfl rfl ?_
        refine g_iald dX4_feel_91 (hTa2 (by omega)) (by omega) (by decide) rfl ?_
        refine g_callV dX4_feel_92 m_4_76 (n := 2) rfl h13 rfl (Nat.le_of_ble_eq_true rfl) (Nat.le_of_ble_eq_true rfl) rfl rfl ?_
        refine s_X8_wants hp' h0 h1 (by omega) (fun z => ?_) (fun z => ?_)
        · simp only [Option.toList_some, Option.toList_none, List.cons_append, List.nil_append]
          refine g_if_eq (t := 137) dX4_feel_95 (by decide) rfl (by omega) (fun c_95 => False.elim (by omega)) (fun c_95 => ?_)
          refine g_l dX4_feel_98 rfl rfl ?_
          refine g_getf dX4_feel_99 (hT7 (by omega)) f_4_15 rfl rfl ?_
          refine g_l dX4_feel_102 rfl rfl ?_
          refine g_s dX4_feel_103 rfl rfl rfl ?_
          refine g_iald dX4_feel_104 (hTa9 (by omega)) (by omega) (by decide) rfl ?_
          refine g_iconst dX4_feel_105 rfl ?_
          refine g_iadd dX4_feel_106 rfl ?_
          refine g_iast dX4_feel_107 (hTa9 (by omega)) (by omega) (by decide) (pTa9 (by omega)) rfl ?_
          refine g_l dX4_feel_108 rfl rfl ?_
          refine g_getf dX4_feel_109 (hT7 (by omega)) f_4_18 rfl rfl ?_
          refine g_l dX4_feel_112 rfl rfl ?_
          refine g_l dX4_feel_113 rfl rfl ?_
          refine g_getf dX4_feel_114 (hT7 (by omega)) f_4_15 rfl rfl ?_
          refine g_l dX4_feel_117 rfl rfl ?_
          refine g_iald dX4_feel_118 (hTa9 (by omega)) (by omega) (by decide) rfl ?_
          simp only [wT_e]
          refine g_l dX4_feel_119 rfl rfl ?_
          refine g_getf dX4_feel_120 (hT7 (by omega)) f_4_21 rfl rfl ?_
          refine g_getf dX4_feel_123 h13 f_4_80 rfl rfl ?_
          refine g_l dX4_feel_126 rfl rfl ?_
          refine g_iald dX4_feel_127 h17 (by omega) (by decide) rfl ?_
          refine g_icmp_lt (t := 135) dX4_feel_128 (by decide) rfl (by omega) (by omega) (fun c_128 => ?_) (fun c_128 => ?_)
          · refine g_iconst dX4_feel_135 rfl ?_
            refine g_iast dX4_feel_136 (hTa10 (by omega)) (by omega) (by decide) (pTa10 (by omega)) rfl ?_
            refine g_retV dX4_feel_137 rfl rfl ?_
            exact fin1 0 (by omega) (by omega) z (by rw [if_neg (by omega)])
          · refine g_iconst dX4_feel_131 rfl ?_
            refine g_goto (t := 136) dX4_feel_132 (by decide) ?_
            refine g_iast dX4_feel_136 (hTa10 (by omega)) (by omega) (by decide) (pTa10 (by omega)) rfl ?_
            refine g_retV dX4_feel_137 rfl rfl ?_
            exact fin1 1 (by omega) (by omega) z (by rw [if_pos (by omega)])
        · simp only [Option.toList_some, Option.toList_none, List.cons_append, List.nil_append]
          refine g_if_eq (t := 137) dX4_feel_95 (by decide) rfl (by omega) (fun c_95 => ?_) (fun c_95 => False.elim (by omega))
          refine g_retV dX4_feel_137 rfl rfl ?_
          exact fin0 (by omega) (by omega) z
    · refine g_l dX4_feel_35 rfl rfl ?_
      refine g_getf dX4_feel_36 (hT7 (by omega)) f_4_18 rfl rfl ?_
      refine g_l dX4_feel_39 rfl rfl ?_
      refine g_iconst dX4_feel_40 rfl ?_
      refine g_iast dX4_feel_41 (hTa10 (by omega)) (by omega) (by decide) (pTa10 (by omega)) rfl ?_
      refine g_goto (t := 137) dX4_feel_42 (by decide) ?_
      refine g_retV dX4_feel_137 rfl rfl ?_
      refine hq _ ⟨frT.rf.w, fun k => ?_, fun k => ?_, fun o o1 o2 => by rw [wT_o o2]⟩
      · rw [wT_o (by decide)]
        unfold nHas fHas
        rw [if_pos c_14, hjj]
        by_cases h : k = p
        · rw [if_pos h, if_pos (by omega), h]
        · rw [if_neg h]
      · rw [wT_s]
        unfold nHow fHow
        rw [if_pos c_14, hjj]
        by_cases h : k = p
        · rw [if_pos h, if_pos h, if_pos (by omega)]
        · rw [if_neg h, if_neg h]
  · refine g_retV dX4_feel_17 rfl rfl ?_
    refine hq _ ⟨frT.rf, fun k => ?_, fun k => ?_, fun o o1 o2 => rfl⟩
    · unfold nHas
      rw [if_neg c_14]
      by_cases h : k = p
      · rw [if_pos h, h]
      · rw [if_neg h]
    · unfold nHow
      rw [if_neg c_14]
      by_cases h : k = p
      · rw [if_pos h, h]
      · rw [if_neg h]
theorem s_X4_isSaltBelow {t : Nat} {k : Int} (ht : t < 19) (hp : pOk S) (hq0 : qOk S (Tw t)) (hk : 0 ≤ k ∧ k < 1000) (hq : Q (some (.int (iI (sbF S (Tw t) k)))) (hO S Tw M P)) : CallD (d + 2) 39 [.ref (tR t 7), .int (iI k)] (hO S Tw M P) Q := by
  have hp' := hp
  obtain ⟨n1, n2, hp⟩ := hp
  refine g_enter (loc := [some _, some _, _]) e_X4_isSaltBelow i_X4_isSaltBelow (Nat.le_of_ble_eq_true rfl) rfl ?_
  refine g_iconst dX4_isSaltBelow_0 rfl ?_
  refine g_l (loc' := [some _, some _, some _]) dX4_isSaltBelow_1 rfl rfl ?_
  have loop : ∀ (m : Nat) (i : Int), 0 ≤ i → i ≤ S 13 5 → (S 13 5 - i).toNat = m → (∀ j, 0 ≤ j → j < i → ¬ (S 14 j = 1 ∧ Tw t 8 j = k - 1)) → G none (d + 1) 4 false (some .boolean) 0 0 (hO S Tw M P).length cX4_isSaltBelow Q 0 2 [some (.ref (tR t 7)), some (.int (iI k)), some (.int (iI i))] [] (hO S Tw M P) := by
    intro m
    induction m with
    | zero =>
      intro i h0 h5 hm f1
      refine g_l dX4_isSaltBelow_2 rfl rfl ?_
      refine g_l dX4_isSaltBelow_3 rfl rfl ?_
      refine g_getf dX4_isSaltBelow_4 (hT7 (by omega)) f_4_21 rfl rfl ?_
      refine g_getf dX4_isSaltBelow_7 h13 f_4_45 rfl rfl ?_
      refine g_icmp_ge (t := 44) dX4_isSaltBelow_10 (by decide) rfl (by omega) (by omega) (fun c_10 => ?_) (fun c_10 => False.elim (by omega))
      refine g_iconst dX4_isSaltBelow_44 rfl ?_
      refine g_retZ dX4_isSaltBelow_45 rfl rfl (by omega) ?_
      rw [sbF_0 (fun ⟨j, a, b, c, e⟩ => f1 j a (by omega) ⟨c, e⟩)] at hq
      exact hq
    | succ m ih =>
      intro i h0 h5 hm f1
      obtain ⟨a1, a2, a3, a4⟩ := hq0 i h0 (by omega)
      refine g_l dX4_isSaltBelow_2 rfl rfl ?_
      refine g_l dX4_isSaltBelow_3 rfl rfl ?_
      refine g_getf dX4_isSaltBelow_4 (hT7 (by omega)) f_4_21 rfl rfl ?_
      refine g_getf dX4_isSaltBelow_7 h13 f_4_45 rfl rfl ?_
      refine g_icmp_ge (t := 44) dX4_isSaltBelow_10 (by decide) rfl (by omega) (by omega) (fun c_10 => False.elim (by omega)) (fun c_10 => ?_)
      refine g_l dX4_isSaltBelow_13 rfl rfl ?_
      refine g_getf dX4_isSaltBelow_14 (hT7 (by omega)) f_4_21 rfl rfl ?_
      refine g_l dX4_isSaltBelow_17 rfl rfl ?_
      refine g_callV dX4_isSaltBelow_18 m_4_83 (n := 1) rfl h13 rfl (Nat.le_of_ble_eq_true rfl) (Nat.le_of_ble_eq_true rfl) rfl rfl ?_
      refine s_X8_isSalt hp' h0 (by omega) (fun z => ?_) (fun z => ?_)
      · simp only [Option.toList_some, Option.toList_none, List.cons_append, List.nil_append]
        refine g_if_eq (t := 38) dX4_isSaltBelow_21 (by decide) rfl (by omega) (fun c_21 => False.elim (by omega)) (fun c_21 => ?_)
        refine g_l dX4_isSaltBelow_24 rfl rfl ?_
        refine g_getf dX4_isSaltBelow_25 (hT7 (by omega)) f_4_9 rfl rfl ?_
        refine g_l dX4_isSaltBelow_28 rfl rfl ?_
        refine g_iald dX4_isSaltBelow_29 (hTa8 (by omega)) (by omega) (by decide) rfl ?_
        refine g_l dX4_isSaltBelow_30 rfl rfl ?_
        refine g_iconst dX4_isSaltBelow_31 rfl ?_
        refine g_isub dX4_isSaltBelow_32 rfl ?_
        refine g_icmp_ne (t := 38) dX4_isSaltBelow_33 (by decide) rfl (by omega) (by omega) (fun c_33 => ?_) (fun c_33 => ?_)
        · refine g_iinc (loc' := [some _, some _, some _]) dX4_isSaltBelow_38 rfl rfl rfl ?_
          refine g_goto (t := 2) dX4_isSaltBelow_41 (by decide) ?_
          refine ih (i + 1) (by omega) (by omega) (by omega) (fun j a b => ?_)
          by_cases h : j = i
          · subst h; exact fun q => c_33 q.2
          · exact f1 j a (by omega)
        · refine g_iconst dX4_isSaltBelow_36 rfl ?_
          refine g_retZ dX4_isSaltBelow_37 rfl rfl (by omega) ?_
          rw [sbF_1 ⟨i, h0, by omega, z, by omega⟩] at hq
          exact hq
      · simp only [Option.toList_some, Option.toList_none, List.cons_append, List.nil_append]
        refine g_if_eq (t := 38) dX4_isSaltBelow_21 (by decide) rfl (by omega) (fun c_21 => ?_) (fun c_21 => False.elim (by omega))
        refine g_iinc (loc' := [some _, some _, some _]) dX4_isSaltBelow_38 rfl rfl rfl ?_
        refine g_goto (t := 2) dX4_isSaltBelow_41 (by decide) ?_
        refine ih (i + 1) (by omega) (by omega) (by omega) (fun j a b => ?_)
        by_cases h : j = i
        · subst h; exact fun q => z q.1
        · exact f1 j a (by omega)
  exact loop _ 0 (by omega) n1 rfl (fun j a b => by omega)
theorem s_X4_potsIn {t : Nat} {k : Int} (ht : t < 19) (hp : pOk S) (hq0 : qOk S (Tw t)) (hk : R32 k) (hq : Q (some (.int (iI (setF (fun i => Tw t 8 i = k) (S 13 5).toNat)))) (hO S Tw M P)) : CallD (d + 1) 40 [.ref (tR t 7), .int (iI k)] (hO S Tw M P) Q := by
  have hp' := hp
  obtain ⟨n1, n2, hp⟩ := hp
  refine g_enter (loc := [some _, some _, _, _]) e_X4_potsIn i_X4_potsIn (Nat.le_of_ble_eq_true rfl) rfl ?_
  refine g_iconst dX4_potsIn_0 rfl ?_
  refine g_l (loc' := [some _, some _, some _, _]) dX4_potsIn_1 rfl rfl ?_
  refine g_iconst dX4_potsIn_2 rfl ?_
  refine g_l (loc' := [some _, some _, some _, some _]) dX4_potsIn_3 rfl rfl ?_
  have loop : ∀ (m : Nat) (i : Int), 0 ≤ i → i ≤ S 13 5 → (S 13 5 - i).toNat = m → G none d 4 false (some .int) 0 0 (hO S Tw M P).length cX4_potsIn Q 0 4 [some (.ref (tR t 7)), some (.int (iI k)), some (.int (iI (setF (fun i => Tw t 8 i = k) i.toNat))), some (.int (iI i))] [] (hO S Tw M P) := by
    intro m
    induction m with
    | zero =>
      intro i h0 h5 hm
      refine g_l dX4_potsIn_4 rfl rfl ?_
      refine g_l dX4_potsIn_5 rfl rfl ?_
      refine g_getf dX4_potsIn_6 (hT7 (by omega)) f_4_21 rfl rfl ?_
      refine g_getf dX4_potsIn_9 h13 f_4_45 rfl rfl ?_
      refine g_icmp_ge (t := 41) dX4_potsIn_12 (by decide) rfl (by omega) (by omega) (fun c_12 => ?_) (fun c_12 => False.elim (by omega))
      refine g_l dX4_potsIn_41 rfl rfl ?_
      refine g_retI dX4_potsIn_42 rfl rfl ?_
      rw [show i = S 13 5 by omega]
      exact hq
    | succ m ih =>
      intro i h0 h5 hm
      obtain ⟨a1, a2, a3, a4⟩ := hq0 i h0 (by omega)
      have hn := ih (i + 1) (by omega) (by omega) (by omega)
      rw [setF_s h0] at hn
      refine g_l dX4_potsIn_4 rfl rfl ?_
      refine g_l dX4_potsIn_5 rfl rfl ?_
      refine g_getf dX4_potsIn_6 (hT7 (by omega)) f_4_21 rfl rfl ?_
      refine g_getf dX4_potsIn_9 h13 f_4_45 rfl rfl ?_
      refine g_icmp_ge (t := 41) dX4_potsIn_12 (by decide) rfl (by omega) (by omega) (fun c_12 => False.elim (by omega)) (fun c_12 => ?_)
      refine g_l dX4_potsIn_15 rfl rfl ?_
      refine g_l dX4_potsIn_16 rfl rfl ?_
      refine g_getf dX4_potsIn_17 (hT7 (by omega)) f_4_9 rfl rfl ?_
      refine g_l dX4_potsIn_20 rfl rfl ?_
      refine g_iald dX4_potsIn_21 (hTa8 (by omega)) (by omega) (by decide) rfl ?_
      refine g_l dX4_potsIn_22 rfl rfl ?_
      refine g_icmp_ne (t := 32) dX4_potsIn_23 (by decide) rfl (by omega) (by omega) (fun c_23 => ?_) (fun c_23 => ?_)
      · refine g_iconst dX4_potsIn_32 rfl ?_
        refine g_ior dX4_potsIn_33 rfl ?_
        refine g_l (loc' := [some _, some _, some _, some _]) dX4_potsIn_34 rfl rfl ?_
        refine g_iinc (loc' := [some _, some _, some _, some _]) dX4_potsIn_35 rfl rfl rfl ?_
        refine g_goto (t := 4) dX4_potsIn_38 (by decide) ?_
        rw [if_neg c_23] at hn
        exact hn
      · refine g_iconst dX4_potsIn_26 rfl ?_
        refine g_l dX4_potsIn_27 rfl rfl ?_
        refine g_ishl dX4_potsIn_28 rfl ?_
        refine g_goto (t := 33) dX4_potsIn_29 (by decide) ?_
        refine g_ior dX4_potsIn_33 rfl ?_
        refine g_l (loc' := [some _, some _, some _, some _]) dX4_potsIn_34 rfl rfl ?_
        refine g_iinc (loc' := [some _, some _, some _, some _]) dX4_potsIn_35 rfl rfl rfl ?_
        refine g_goto (t := 4) dX4_potsIn_38 (by decide) ?_
        rw [if_pos c_23] at hn
        exact hn
  exact loop _ 0 (by omega) n1 rfl
theorem s_X4_howMany {t : Nat} {k : Int} (ht : t < 19) (hp : pOk S) (hq0 : qOk S (Tw t)) (hk : R32 k) (hq : Q (some (.int (iI (cntF (fun i => Tw t 10 i = k) (S 13 5).toNat)))) (hO S Tw M P)) : CallD (d + 1) 41 [.ref (tR t 7), .int (iI k)] (hO S Tw M P) Q := by
  have hp' := hp
  obtain ⟨n1, n2, hp⟩ := hp
  refine g_enter (loc := [some _, some _, _, _]) e_X4_howMany i_X4_howMany (Nat.le_of_ble_eq_true rfl) rfl ?_
  refine g_iconst dX4_howMany_0 rfl ?_
  refine g_l (loc' := [some _, some _, some _, _]) dX4_howMany_1 rfl rfl ?_
  refine g_iconst dX4_howMany_2 rfl ?_
  refine g_l (loc' := [some _, some _, some _, some _]) dX4_howMany_3 rfl rfl ?_
  have loop : ∀ (m : Nat) (i : Int), 0 ≤ i → i ≤ S 13 5 → (S 13 5 - i).toNat = m → G none d 4 false (some .int) 0 0 (hO S Tw M P).length cX4_howMany Q 0 4 [some (.ref (tR t 7)), some (.int (iI k)), some (.int (iI (cntF (fun i => Tw t 10 i = k) i.toNat))), some (.int (iI i))] [] (hO S Tw M P) := by
    intro m
    induction m with
    | zero =>
      intro i h0 h5 hm
      refine g_l dX4_howMany_4 rfl rfl ?_
      refine g_l dX4_howMany_5 rfl rfl ?_
      refine g_getf dX4_howMany_6 (hT7 (by omega)) f_4_21 rfl rfl ?_
      refine g_getf dX4_howMany_9 h13 f_4_45 rfl rfl ?_
      refine g_icmp_ge (t := 39) dX4_howMany_12 (by decide) rfl (by omega) (by omega) (fun c_12 => ?_) (fun c_12 => False.elim (by omega))
      refine g_l dX4_howMany_39 rfl rfl ?_
      refine g_retI dX4_howMany_40 rfl rfl ?_
      rw [show i = S 13 5 by omega]
      exact hq
    | succ m ih =>
      intro i h0 h5 hm
      obtain ⟨a1, a2, a3, a4⟩ := hq0 i h0 (by omega)
      have hn := ih (i + 1) (by omega) (by omega) (by omega)
      rw [cntF_s h0] at hn
      refine g_l dX4_howMany_4 rfl rfl ?_
      refine g_l dX4_howMany_5 rfl rfl ?_
      refine g_getf dX4_howMany_6 (hT7 (by omega)) f_4_21 rfl rfl ?_
      refine g_getf dX4_howMany_9 h13 f_4_45 rfl rfl ?_
      refine g_icmp_ge (t := 39) dX4_howMany_12 (by decide) rfl (by omega) (by omega) (fun c_12 => False.elim (by omega)) (fun c_12 => ?_)
      refine g_l dX4_howMany_15 rfl rfl ?_
      refine g_l dX4_howMany_16 rfl rfl ?_
      refine g_getf dX4_howMany_17 (hT7 (by omega)) f_4_18 rfl rfl ?_
      refine g_l dX4_howMany_20 rfl rfl ?_
      refine g_iald dX4_howMany_21 (hTa10 (by omega)) (by omega) (by decide) rfl ?_
      refine g_l dX4_howMany_22 rfl rfl ?_
      refine g_icmp_ne (t := 30) dX4_howMany_23 (by decide) rfl (by omega) (by omega) (fun c_23 => ?_) (fun c_23 => ?_)
      · refine g_iconst dX4_howMany_30 rfl ?_
        refine g_iadd dX4_howMany_31 rfl ?_
        refine g_l (loc' := [some _, some _, some _, some _]) dX4_howMany_32 rfl rfl ?_
        refine g_iinc (loc' := [some _, some _, some _, some _]) dX4_howMany_33 rfl rfl rfl ?_
        refine g_goto (t := 4) dX4_howMany_36 (by decide) ?_
        rw [if_neg c_23] at hn
        exact hn
      · refine g_iconst dX4_howMany_26 rfl ?_
        refine g_goto (t := 31) dX4_howMany_27 (by decide) ?_
        refine g_iadd dX4_howMany_31 rfl ?_
        refine g_l (loc' := [some _, some _, some _, some _]) dX4_howMany_32 rfl rfl ?_
        refine g_iinc (loc' := [some _, some _, some _, some _]) dX4_howMany_33 rfl rfl rfl ?_
        refine g_goto (t := 4) dX4_howMany_36 (by decide) ?_
        rw [if_pos c_23] at hn
        exact hn
  exact loop _ 0 (by omega) n1 rfl
theorem s_X4_canBeReady {t : Nat} {x z : Int} (ht : t < 19) (hp : pOk S) (hq0 : qOk S (Tw t)) (hz : R32 z) (hy : (∀ i, 0 ≤ i → i < S 13 5 → hasB x i → hopB S (Tw t) z i) → Q (some (.int (iI 1))) (hO S Tw M P)) (hn : (∃ i, 0 ≤ i ∧ i < S 13 5 ∧ hasB x i ∧ ¬ hopB S (Tw t) z i) → Q (some (.int (iI 0))) (hO S Tw M P)) : CallD (d + 1) 42 [.ref (tR t 7), .int (iI x), .int (iI z)] (hO S Tw M P) Q := by
  have hp' := hp
  obtain ⟨n1, n2, hp⟩ := hp
  refine g_enter (loc := [some _, some _, some _, _, _]) e_X4_canBeReady i_X4_canBeReady (Nat.le_of_ble_eq_true rfl) rfl ?_
  refine g_iconst dX4_canBeReady_0 rfl ?_
  refine g_l (loc' := [some _, some _, some _, some _, _]) dX4_canBeReady_1 rfl rfl ?_
  have loop : ∀ (m : Nat) (i : Int) (a4 : Option Value), 0 ≤ i → i ≤ S 13 5 → (S 13 5 - i).toNat = m → (∀ j, 0 ≤ j → j < i → hasB x j → hopB S (Tw t) z j) → G none d 4 false (some .boolean) 0 0 (hO S Tw M P).length cX4_canBeReady Q 0 2 [some (.ref (tR t 7)), some (.int (iI x)), some (.int (iI z)), some (.int (iI i)), a4] [] (hO S Tw M P) := by
    intro m
    induction m with
    | zero =>
      intro i a4 h0 h5 hm f1
      refine g_l dX4_canBeReady_2 rfl rfl ?_
      refine g_l dX4_canBeReady_3 rfl rfl ?_
      refine g_getf dX4_canBeReady_4 (hT7 (by omega)) f_4_21 rfl rfl ?_
      refine g_getf dX4_canBeReady_7 h13 f_4_45 rfl rfl ?_
      refine g_icmp_ge (t := 81) dX4_canBeReady_10 (by decide) rfl (by omega) (by omega) (fun c_10 => ?_) (fun c_10 => False.elim (by omega))
      refine g_iconst dX4_canBeReady_81 rfl ?_
      refine g_retZ dX4_canBeReady_82 rfl rfl (by omega) ?_
      exact hy (fun j a b => f1 j a (by omega))
    | succ m ih =>
      intro i a4 h0 h5 hm f1
      obtain ⟨a1, a2, a3, a5⟩ := hq0 i h0 (by omega)
      obtain ⟨b1, b2, b3, b4, b5⟩ := hp i h0 (by omega)
      have hb : R32 (bAnd (bShr x i) 1) := R_bAnd
      have next : ∀ v, (hasB x i → hopB S (Tw t) z i) → G none d 4 false (some .boolean) 0 0 (hO S Tw M P).length cX4_canBeReady Q 0 2 [some (.ref (tR t 7)), some (.int (iI x)), some (.int (iI z)), some (.int (iI (i + 1))), v] [] (hO S Tw M P) := fun v hv => by
        refine ih (i + 1) v (by omega) (by omega) (by omega) (fun j a b => ?_)
        by_cases h : j = i
        · subst h; exact hv
        · exact f1 j a (by omega)
      refine g_l dX4_canBeReady_2 rfl rfl ?_
      refine g_l dX4_canBeReady_3 rfl rfl ?_
      refine g_getf dX4_canBeReady_4 (hT7 (by omega)) f_4_21 rfl rfl ?_
      refine g_getf dX4_canBeReady_7 h13 f_4_45 rfl rfl ?_
      refine g_icmp_ge (t := 81) dX4_canBeReady_10 (by decide) rfl (by omega) (by omega) (fun c_10 => False.elim (by omega)) (fun c_10 => ?_)
      refine g_l dX4_canBeReady_13 rfl rfl ?_
      refine g_getf dX4_canBeReady_14 (hT7 (by omega)) f_4_18 rfl rfl ?_
      refine g_l dX4_canBeReady_17 rfl rfl ?_
      refine g_iald dX4_canBeReady_18 (hTa10 (by omega)) (by omega) (by decide) rfl ?_
      refine g_iconst dX4_canBeReady_19 rfl ?_
      refine g_icmp_eq (t := 52) dX4_canBeReady_20 (by decide) rfl (by omega) (by omega) (fun c_20 => ?_) (fun c_20 => ?_)
      · refine g_iconst dX4_canBeReady_52 rfl ?_
        refine g_goto (t := 57) dX4_canBeReady_53 (by decide) ?_
        refine g_l (loc' := [some _, some _, some _, some _, some _]) dX4_canBeReady_57 rfl rfl ?_
        refine g_l dX4_canBeReady_59 rfl rfl ?_
        refine g_l dX4_canBeReady_60 rfl rfl ?_
        refine g_ishr dX4_canBeReady_61 rfl ?_
        refine g_iconst dX4_canBeReady_62 rfl ?_
        refine g_iand dX4_canBeReady_63 rfl ?_
        refine g_iconst dX4_canBeReady_64 rfl ?_
        refine g_icmp_ne (t := 75) dX4_canBeReady_65 (by decide) rfl (by omega) (by omega) (fun c_65 => ?_) (fun c_65 => ?_)
        · refine g_iinc (loc' := [some _, some _, some _, some _, some _]) dX4_canBeReady_75 rfl rfl rfl ?_
          refine g_goto (t := 2) dX4_canBeReady_78 (by decide) ?_
          exact next _ (fun q => absurd q c_65)
        · refine g_l dX4_canBeReady_68 rfl rfl ?_
          refine g_if_ne (t := 75) dX4_canBeReady_70 (by decide) rfl (by omega) (fun c_70 => ?_) (fun c_70 => False.elim (by omega))
          refine g_iinc (loc' := [some _, some _, some _, some _, some _]) dX4_canBeReady_75 rfl rfl rfl ?_
          refine g_goto (t := 2) dX4_canBeReady_78 (by decide) ?_
          exact next _ (fun _ => Or.inl c_20)
      · refine g_l dX4_canBeReady_23 rfl rfl ?_
        refine g_getf dX4_canBeReady_24 (hT7 (by omega)) f_4_18 rfl rfl ?_
        refine g_l dX4_canBeReady_27 rfl rfl ?_
        refine g_iald dX4_canBeReady_28 (hTa10 (by omega)) (by omega) (by decide) rfl ?_
        refine g_if_ne (t := 56) dX4_canBeReady_29 (by decide) rfl (by omega) (fun c_29 => ?_) (fun c_29 => ?_)
        · refine g_iconst dX4_canBeReady_56 rfl ?_
          refine g_l (loc' := [some _, some _, some _, some _, some _]) dX4_canBeReady_57 rfl rfl ?_
          refine g_l dX4_canBeReady_59 rfl rfl ?_
          refine g_l dX4_canBeReady_60 rfl rfl ?_
          refine g_ishr dX4_canBeReady_61 rfl ?_
          refine g_iconst dX4_canBeReady_62 rfl ?_
          refine g_iand dX4_canBeReady_63 rfl ?_
          refine g_iconst dX4_canBeReady_64 rfl ?_
          refine g_icmp_ne (t := 75) dX4_canBeReady_65 (by decide) rfl (by omega) (by omega) (fun c_65 => ?_) (fun c_65 => ?_)
          · refine g_iinc (loc' := [some _, some _, some _, some _, some _]) dX4_canBeReady_75 rfl rfl rfl ?_
            refine g_goto (t := 2) dX4_canBeReady_78 (by decide) ?_
            exact next _ (fun q => absurd q c_65)
          · refine g_l dX4_canBeReady_68 rfl rfl ?_
            refine g_if_ne (t := 75) dX4_canBeReady_70 (by decide) rfl (by omega) (fun c_70 => False.elim (by omega)) (fun c_70 => ?_)
            refine g_iconst dX4_canBeReady_73 rfl ?_
            refine g_retZ dX4_canBeReady_74 rfl rfl (by omega) ?_
            exact hn ⟨i, h0, by omega, by unfold hasB; omega, fun q => by unfold hopB at q; omega⟩
        · refine g_l dX4_canBeReady_32 rfl rfl ?_
          refine g_getf dX4_canBeReady_33 (hT7 (by omega)) f_4_21 rfl rfl ?_
          refine g_getf dX4_canBeReady_36 h13 f_4_80 rfl rfl ?_
          refine g_l dX4_canBeReady_39 rfl rfl ?_
          refine g_iald dX4_canBeReady_40 h17 (by omega) (by decide) rfl ?_
          refine g_l dX4_canBeReady_41 rfl rfl ?_
          refine g_getf dX4_canBeReady_42 (hT7 (by omega)) f_4_15 rfl rfl ?_
          refine g_l dX4_canBeReady_45 rfl rfl ?_
          refine g_iald dX4_canBeReady_46 (hTa9 (by omega)) (by omega) (by decide) rfl ?_
          refine g_isub dX4_canBeReady_47 rfl ?_
          refine g_l dX4_canBeReady_48 rfl rfl ?_
          refine g_icmp_gt (t := 56) dX4_canBeReady_49 (by decide) rfl (by omega) (by omega) (fun c_49 => ?_) (fun c_49 => ?_)
          · refine g_iconst dX4_canBeReady_56 rfl ?_
            refine g_l (loc' := [some _, some _, some _, some _, some _]) dX4_canBeReady_57 rfl rfl ?_
            refine g_l dX4_canBeReady_59 rfl rfl ?_
            refine g_l dX4_canBeReady_60 rfl rfl ?_
            refine g_ishr dX4_canBeReady_61 rfl ?_
            refine g_iconst dX4_canBeReady_62 rfl ?_
            refine g_iand dX4_canBeReady_63 rfl ?_
            refine g_iconst dX4_canBeReady_64 rfl ?_
            refine g_icmp_ne (t := 75) dX4_canBeReady_65 (by decide) rfl (by omega) (by omega) (fun c_65 => ?_) (fun c_65 => ?_)
            · refine g_iinc (loc' := [some _, some _, some _, some _, some _]) dX4_canBeReady_75 rfl rfl rfl ?_
              refine g_goto (t := 2) dX4_canBeReady_78 (by decide) ?_
              exact next _ (fun q => absurd q c_65)
            · refine g_l dX4_canBeReady_68 rfl rfl ?_
              refine g_if_ne (t := 75) dX4_canBeReady_70 (by decide) rfl (by omega) (fun c_70 => False.elim (by omega)) (fun c_70 => ?_)
              refine g_iconst dX4_canBeReady_73 rfl ?_
              refine g_retZ dX4_canBeReady_74 rfl rfl (by omega) ?_
              exact hn ⟨i, h0, by omega, by unfold hasB; omega, fun q => by unfold hopB at q; omega⟩
          · refine g_iconst dX4_canBeReady_52 rfl ?_
            refine g_goto (t := 57) dX4_canBeReady_53 (by decide) ?_
            refine g_l (loc' := [some _, some _, some _, some _, some _]) dX4_canBeReady_57 rfl rfl ?_
            refine g_l dX4_canBeReady_59 rfl rfl ?_
            refine g_l dX4_canBeReady_60 rfl rfl ?_
            refine g_ishr dX4_canBeReady_61 rfl ?_
            refine g_iconst dX4_canBeReady_62 rfl ?_
            refine g_iand dX4_canBeReady_63 rfl ?_
            refine g_iconst dX4_canBeReady_64 rfl ?_
            refine g_icmp_ne (t := 75) dX4_canBeReady_65 (by decide) rfl (by omega) (by omega) (fun c_65 => ?_) (fun c_65 => ?_)
            · refine g_iinc (loc' := [some _, some _, some _, some _, some _]) dX4_canBeReady_75 rfl rfl rfl ?_
              refine g_goto (t := 2) dX4_canBeReady_78 (by decide) ?_
              exact next _ (fun q => absurd q c_65)
            · refine g_l dX4_canBeReady_68 rfl rfl ?_
              refine g_if_ne (t := 75) dX4_canBeReady_70 (by decide) rfl (by omega) (fun c_70 => ?_) (fun c_70 => False.elim (by omega))
              refine g_iinc (loc' := [some _, some _, some _, some _, some _]) dX4_canBeReady_75 rfl rfl rfl ?_
              refine g_goto (t := 2) dX4_canBeReady_78 (by decide) ?_
              exact next _ (fun _ => Or.inr ⟨by omega, by omega⟩)
  exact loop _ 0 none (by omega) n1 rfl (fun j a b => by omega)
/-- the post of feelAll -/
def feelP (t : Nat) (S : Nat → Int → Int) (Tw Tw' : Nat → Nat → Int → Int) : Prop := frT t Tw Tw' ∧ (∀ p, 0 ≤ p → p < S 13 5 → Tw' t 9 p = nHas S (Tw t) p (sbF S (Tw t) (Tw t 8 p)) ∧ Tw' t 10 p = nHow S (Tw t) p (sbF S (Tw t) (Tw t 8 p))) ∧ ∀ o, o ≠ 9 → o ≠ 10 → Tw' t o = Tw t o
theorem s_X4_feelAll {t : Nat} (ht : t < 19) (hp : pOk S) (hq0 : qOk S (Tw t)) (hh : ∀ p, 0 ≤ p → p < S 13 5 → hOk (Tw t) (Tw t 8 p)) (hq : ∀ Tw', feelP t S Tw Tw' → Q (some (.int (iI (setF (fun i => Tw t 10 i = 0 ∧ ¬ nHow S (Tw t) i (sbF S (Tw t) (Tw t 8 i)) = 0) (S 13 5).toNat)))) (hO S Tw' M P)) : CallD (d + 3) 37 [.ref (tR t 7), .ref (tR t 1)] (hO S Tw M P) Q := by
  have hp' := hp
  obtain ⟨n1, n2, hp⟩ := hp
  refine g_enter (loc := [some _, some _, _, _]) e_X4_feelAll i_X4_feelAll (Nat.le_of_ble_eq_true rfl) rfl ?_
  refine g_iconst dX4_feelAll_0 rfl ?_
  refine g_l (loc' := [some _, some _, some _, _]) dX4_feelAll_1 rfl rfl ?_
  refine g_iconst dX4_feelAll_2 rfl ?_
  refine g_l (loc' := [some _, some _, some _, some _]) dX4_feelAll_3 rfl rfl ?_
  have loop : ∀ (m : Nat) (i : Int) (Tw' : Nat → Nat → Int → Int), 0 ≤ i → i ≤ S 13 5 → (S 13 5 - i).toNat = m → frT t Tw Tw' → (∀ p, 0 ≤ p → p < i → Tw' t 9 p = nHas S (Tw t) p (sbF S (Tw t) (Tw t 8 p)) ∧ Tw' t 10 p = nHow S (Tw t) p (sbF S (Tw t) (Tw t 8 p))) → (∀ p, ¬ (0 ≤ p ∧ p < i) → Tw' t 9 p = Tw t 9 p ∧ Tw' t 10 p = Tw t 10 p) → (∀ o, o ≠ 9 → o ≠ 10 → Tw' t o = Tw t o) → qOk S (Tw' t) →
      G none (d + 2) 4 false (some .int) 0 0 (hO S Tw M P).length cX4_feelAll Q 0 4 [some (.ref (tR t 7)), some (.ref (tR t 1)), some (.int (iI (setF (fun i => Tw t 10 i = 0 ∧ ¬ nHow S (Tw t) i (sbF S (Tw t) (Tw t 8 i)) = 0) i.toNat))), some (.int (iI i))] [] (hO S Tw' M P) := by
    intro m
    induction m with
    | zero =>
      intro i Tw' h0 h5 hm f1 f2 f3 f4 f5
      have hi : i = S 13 5 := by omega
      subst hi
      refine g_l dX4_feelAll_4 rfl rfl ?_
      refine g_l dX4_feelAll_5 rfl rfl ?_
      refine g_getf dX4_feelAll_6 (hT7 (by omega)) f_4_21 rfl rfl ?_
      refine g_getf dX4_feelAll_9 h13 f_4_45 rfl rfl ?_
      refine g_icmp_ge (t := 65) dX4_feelAll_12 (by decide) rfl (by omega) (by omega) (fun c_12 => ?_) (fun c_12 => False.elim (by omega))
      refine g_l dX4_feelAll_65 rfl rfl ?_
      refine g_retI dX4_feelAll_66 rfl rfl ?_
      exact hq _ ⟨f1, f2, f4⟩
    | succ m ih =>
      intro i Tw' h0 h5 hm f1 f2 f3 f4 f5
      obtain ⟨a1, a2, a3, a4⟩ := f5 i h0 (by omega)
      have e8 : Tw' t 8 = Tw t 8 := f4 8 (by decide) (by decide)
      have e9 := (f3 i (by omega)).1
      have e10 := (f3 i (by omega)).2
      have esb : sbF S (Tw' t) (Tw' t 8 i) = sbF S (Tw t) (Tw t 8 i) := by rw [sbF_congr e8, e8]
      have en : nHow S (Tw' t) i (sbF S (Tw' t) (Tw' t 8 i)) = nHow S (Tw t) i (sbF S (Tw t) (Tw t 8 i)) := by
        rw [esb]; unfold nHow
        rw [e8, e9, e10, f4 2 (by decide) (by decide), f4 5 (by decide) (by decide), f4 6 (by decide) (by decide)]
      have eh : nHas S (Tw' t) i (sbF S (Tw' t) (Tw' t 8 i)) = nHas S (Tw t) i (sbF S (Tw t) (Tw t 8 i)) := by
        rw [esb]; unfold nHas
        rw [e8, e9, e10, f4 2 (by decide) (by decide), f4 5 (by decide) (by decide), f4 6 (by decide) (by decide)]
      refine g_l dX4_feelAll_4 rfl rfl ?_
      refine g_l dX4_feelAll_5 rfl rfl ?_
      refine g_getf dX4_feelAll_6 (hT7 (by omega)) f_4_21 rfl rfl ?_
      refine g_getf dX4_feelAll_9 h13 f_4_45 rfl rfl ?_
      refine g_icmp_ge (t := 65) dX4_feelAll_12 (by decide) rfl (by omega) (by omega) (fun c_12 => False.elim (by omega)) (fun c_12 => ?_)
      refine g_l dX4_feelAll_15 rfl rfl ?_
      refine g_getf dX4_feelAll_16 (hT7 (by omega)) f_4_18 rfl rfl ?_
      refine g_l dX4_feelAll_19 rfl rfl ?_
      refine g_iald dX4_feelAll_20 (hTa10 (by omega)) (by omega) (by decide) rfl ?_
      refine g_if_ne (t := 59) dX4_feelAll_21 (by decide) rfl (by omega) (fun c_21 => ?_) (fun c_21 => ?_)
      · -- it is done already
        have hz := ih (i + 1) Tw' (by omega) (by omega) (by omega) f1 (fun p a b => ?_) (fun p a => f3 p (by omega)) f4 f5
        · rw [setF_s h0, if_neg (fun q => c_21 (by rw [e10]; exact q.1)), bOr_0 setF_R] at hz
          refine g_iinc (loc' := [some _, some _, some _, some _]) dX4_feelAll_59 rfl rfl rfl ?_
          refine g_goto (t := 4) dX4_feelAll_62 (by decide) ?_
          exact hz
        · by_cases h : p = i
          · subst h
            rw [e9, e10]
            unfold nHas nHow
            rw [if_neg (by rw [← e10]; exact c_21), if_neg (by rw [← e10]; exact c_21)]
            exact ⟨rfl, rfl⟩
          · exact f2 p a (by omega)
      · refine g_l dX4_feelAll_24 rfl rfl ?_
        refine g_l dX4_feelAll_25 rfl rfl ?_
        refine g_l dX4_feelAll_26 rfl rfl ?_
        refine g_l dX4_feelAll_27 rfl rfl ?_
        refine g_l dX4_feelAll_28 rfl rfl ?_
        refine g_getf dX4_feelAll_29 (hT7 (by omega)) f_4_9 rfl rfl ?_
        refine g_l dX4_feelAll_32 rfl rfl ?_
        refine g_iald dX4_feelAll_33 (hTa8 (by omega)) (by omega) (by decide) rfl ?_
        refine g_callV dX4_feelAll_34 m_4_50 (n := 1) rfl (hT7 (by omega)) rfl (Nat.le_of_ble_eq_true rfl) (Nat.le_of_ble_eq_true rfl) rfl rfl ?_
        refine s_X4_isSaltBelow ht hp' f5 (by omega) ?_
        simp only [Option.toList_some, Option.toList_none, List.cons_append, List.nil_append]
        refine g_callV dX4_feelAll_37 m_4_54 (n := 3) rfl (hT7 (by omega)) rfl (Nat.le_of_ble_eq_true rfl) (Nat.le_of_ble_eq_true rfl) rfl rfl ?_
        refine s_X4_feel ht hp' h0 (by omega) f5 ?_ (sbF_01 _ _ _) (fun Tw2 hb => ?_)
        · unfold hOk
          rw [f4 2 (by decide) (by decide), f4 5 (by decide) (by decide), f4 6 (by decide) (by decide), e8]
          exact hh i h0 (by omega)
        · obtain ⟨g1, g2, g3, g4⟩ := hb
          have r9 : Tw2 t 9 i = nHas S (Tw t) i (sbF S (Tw t) (Tw t 8 i)) := by rw [g2, if_pos rfl, eh]
          have r10 : Tw2 t 10 i = nHow S (Tw t) i (sbF S (Tw t) (Tw t 8 i)) := by rw [g3, if_pos rfl, en]
          have f5' : qOk S (Tw2 t) := by
            intro p a b
            obtain ⟨y1, y2, y3, y4⟩ := f5 p a b
            obtain ⟨-, -, -, z1, -⟩ := hp p a b
            rw [g2, g3, g4 8 (by decide) (by decide)]
            by_cases h : p = i
            · subst h
              rw [if_pos rfl, if_pos rfl]
              refine ⟨y1, ?_⟩
              exact nH_ok (z1.2) y2 y3 y4
            · rw [if_neg h, if_neg h]
              exact ⟨y1, y2, y3, y4⟩
          obtain ⟨w1, w2, w3, w4⟩ := f5' i h0 (by omega)
          have hz := ih (i + 1) Tw2 (by omega) (by omega) (by omega) (f1.tr g1) (fun p a b => ?_) (fun p a => ?_) (fun o o1 o2 => (g4 o o1 o2).trans (f4 o o1 o2)) f5'
          · rw [setF_s h0] at hz
            simp only [Option.toList_some, Option.toList_none, List.cons_append, List.nil_append]
            refine g_l dX4_feelAll_40 rfl rfl ?_
            refine g_l dX4_feelAll_41 rfl rfl ?_
            refine g_getf dX4_feelAll_42 (hT7 (by omega)) f_4_18 rfl rfl ?_
            refine g_l dX4_feelAll_45 rfl rfl ?_
            refine g_iald dX4_feelAll_46 (hTa10 (by omega)) (by omega) (by decide) rfl ?_
            refine g_if_ne (t := 54) dX4_feelAll_47 (by decide) rfl (by omega) (fun c_47 => ?_) (fun c_47 => ?_)
            · refine g_iconst dX4_feelAll_54 rfl ?_
              refine g_l dX4_feelAll_55 rfl rfl ?_
              refine g_ishl dX4_feelAll_56 rfl ?_
              refine g_ior dX4_feelAll_57 rfl ?_
              refine g_l (loc' := [some _, some _, some _, some _]) dX4_feelAll_58 rfl rfl ?_
              refine g_iinc (loc' := [some _, some _, some _, some _]) dX4_feelAll_59 rfl rfl rfl ?_
              refine g_goto (t := 4) dX4_feelAll_62 (by decide) ?_
              rw [if_pos ⟨by rw [← e10]; exact c_21, by rw [← r10]; exact c_47⟩] at hz
              exact hz
            · refine g_iconst dX4_feelAll_50 rfl ?_
              refine g_goto (t := 57) dX4_feelAll_51 (by decide) ?_
              refine g_ior dX4_feelAll_57 rfl ?_
              refine g_l (loc' := [some _, some _, some _, some _]) dX4_feelAll_58 rfl rfl ?_
              refine g_iinc (loc' := [some _, some _, some _, some _]) dX4_feelAll_59 rfl rfl rfl ?_
              refine g_goto (t := 4) dX4_feelAll_62 (by decide) ?_
              rw [if_neg (fun q => q.2 (by rw [← r10]; exact c_47))] at hz
              exact hz
          · by_cases h : p = i
            · subst h; exact ⟨r9, r10⟩
            · rw [g2, g3, if_neg h, if_neg h]; exact f2 p a (by omega)
          · rw [g2, g3, if_neg (by omega), if_neg (by omega)]; exact f3 p (by omega)
  exact loop _ 0 Tw (by omega) n1 rfl frT.rf (fun p a b => by omega) (fun p a => ⟨rfl, rfl⟩) (fun o _ _ => rfl) hq0
theorem s_X4_copyHow {t u : Nat} (ht : t < 19) (hu : u < 19) (hq : ∀ Tw', frT t Tw Tw' → Tw' t 9 = Tw u 9 → Tw' t 10 = Tw u 10 → (∀ o, o ≠ 9 → o ≠ 10 → Tw' t o = Tw t o) → Q none (hO S Tw' M P)) : CallD (d + 1) 36 [.ref (tR t 7), .ref (tR u 7)] (hO S Tw M P) Q := by
  have e : rT Tw t 9 (Tw u 9) u 10 = Tw u 10 := by
    by_cases h : u = t
    · subst h; exact rT_o (by decide)
    · rw [rT_u h]
  refine g_enter (loc := [some _, some _]) e_X4_copyHow i_X4_copyHow (Nat.le_of_ble_eq_true rfl) rfl ?_
  refine g_l dX4_copyHow_0 rfl rfl ?_
  refine g_getf dX4_copyHow_1 (hT7 (by omega)) f_4_15 rfl rfl ?_
  refine g_iconst dX4_copyHow_4 rfl ?_
  refine g_l dX4_copyHow_5 rfl rfl ?_
  refine g_getf dX4_copyHow_6 (hT7 (by omega)) f_4_15 rfl rfl ?_
  refine g_iconst dX4_copyHow_9 rfl ?_
  refine g_iconst dX4_copyHow_10 rfl ?_
  refine g_copy dX4_copyHow_11 ac_4_35 (hTa9 (by omega)) (hTa9 (by omega)) rfl (by decide) (qTa9 (by omega)) (Nat.le_of_ble_eq_true rfl) rfl ?_
  refine g_l dX4_copyHow_14 rfl rfl ?_
  refine g_getf dX4_copyHow_15 (hT7 (by omega)) f_4_18 rfl rfl ?_
  refine g_iconst dX4_copyHow_18 rfl ?_
  refine g_l dX4_copyHow_19 rfl rfl ?_
  refine g_getf dX4_copyHow_20 (hT7 (by omega)) f_4_18 rfl rfl ?_
  refine g_iconst dX4_copyHow_23 rfl ?_
  refine g_iconst dX4_copyHow_24 rfl ?_
  refine g_copy dX4_copyHow_25 ac_4_35 (hTa10 (by omega)) (hTa10 (by omega)) rfl (by decide) (qTa10 (by omega)) (Nat.le_of_ble_eq_true rfl) rfl ?_
  refine g_retV dX4_copyHow_28 rfl rfl ?_
  refine hq _ frT.rf.r.r ?_ ?_ (fun o h1 h2 => ?_)
  · rw [rT_o (by decide), rT_s]
  · rw [rT_s, e]
  · rw [rT_o h2, rT_o h1]
theorem s_X4_copyFrom {t u : Nat} (ht : t < 19) (hu : u < 19) (hq : ∀ Tw', frT t Tw Tw' → Tw' t 8 = Tw u 8 → Tw' t 9 = Tw u 9 → Tw' t 10 = Tw u 10 → (∀ o, o ≠ 8 → o ≠ 9 → o ≠ 10 → Tw' t o = Tw t o) → Q none (hO S Tw' M P)) : CallD (d + 2) 35 [.ref (tR t 7), .ref (tR u 7)] (hO S Tw M P) Q := by
  have e : ∀ o, o ≠ 8 → rT Tw t 8 (Tw u 8) u o = Tw u o := fun o ho => by
    by_cases h : u = t
    · subst h; exact rT_o ho
    · rw [rT_u h]
  refine g_enter (loc := [some _, some _]) e_X4_copyFrom i_X4_copyFrom (Nat.le_of_ble_eq_true rfl) rfl ?_
  refine g_l dX4_copyFrom_0 rfl rfl ?_
  refine g_getf dX4_copyFrom_1 (hT7 (by omega)) f_4_9 rfl rfl ?_
  refine g_iconst dX4_copyFrom_4 rfl ?_
  refine g_l dX4_copyFrom_5 rfl rfl ?_
  refine g_getf dX4_copyFrom_6 (hT7 (by omega)) f_4_9 rfl rfl ?_
  refine g_iconst dX4_copyFrom_9 rfl ?_
  refine g_iconst dX4_copyFrom_10 rfl ?_
  refine g_copy dX4_copyFrom_11 ac_4_35 (hTa8 (by omega)) (hTa8 (by omega)) rfl (by decide) (qTa8 (by omega)) (Nat.le_of_ble_eq_true rfl) rfl ?_
  refine g_l dX4_copyFrom_14 rfl rfl ?_
  refine g_l dX4_copyFrom_15 rfl rfl ?_
  refine g_callV dX4_copyFrom_16 m_4_41 (n := 1) rfl (hT7 (by omega)) rfl (Nat.le_of_ble_eq_true rfl) (Nat.le_of_ble_eq_true rfl) rfl rfl ?_
  refine s_X4_copyHow ht hu (fun Tw' f1 f2 f3 f4 => ?_)
  simp only [Option.toList_some, Option.toList_none, List.cons_append, List.nil_append]
  refine g_retV dX4_copyFrom_19 rfl rfl ?_
  refine hq _ (frT.rf.r.tr f1) ?_ ?_ ?_ (fun o h1 h2 h3 => ?_)
  · rw [f4 8 (by decide) (by decide), rT_s]
  · rw [f2, e 9 (by decide)]
  · rw [f3, e 10 (by decide)]
  · rw [f4 o h2 h3, rT_o h1]
theorem s_X4_build {t : Nat} (ht : t < 19) (hn : 0 ≤ S 3 4 ∧ S 3 4 ≤ 5) (hq : ∀ Tw', frT t Tw Tw' → (∀ p, 0 ≤ p → p < S 3 4 → Tw' t 8 p = S (7 + p.toNat) 0) → (∀ p, 0 ≤ p → p < 5 → Tw' t 9 p = 0 ∧ Tw' t 10 p = 0) → (∀ o, o ≠ 8 → o ≠ 9 → o ≠ 10 → Tw' t o = Tw t o) → Q none (hO S Tw' M P)) : CallD (d + 1) 34 [.ref (tR t 7), .ref 3] (hO S Tw M P) Q := by
  refine g_enter (loc := [some _, some _, _]) e_X4_build i_X4_build (Nat.le_of_ble_eq_true rfl) rfl ?_
  refine g_iconst dX4_build_0 rfl ?_
  refine g_l (loc' := [some _, some _, some _]) dX4_build_1 rfl rfl ?_
  have loop : ∀ (m : Nat) (i : Int) (Tw' : Nat → Nat → Int → Int), 0 ≤ i → i ≤ 5 → (5 - i).toNat = m → frT t Tw Tw' → (∀ p, 0 ≤ p → p < S 3 4 → p < i → Tw' t 8 p = S (7 + p.toNat) 0) → (∀ p, 0 ≤ p → p < i → Tw' t 9 p = 0 ∧ Tw' t 10 p = 0) → (∀ o, o ≠ 8 → o ≠ 9 → o ≠ 10 → Tw' t o = Tw t o) →
      G none d 4 false none 0 0 (hO S Tw M P).length cX4_build Q 0 2 [some (.ref (tR t 7)), some (.ref 3), some (.int (iI i))] [] (hO S Tw' M P) := by
    intro m
    induction m with
    | zero =>
      intro i Tw' h0 h5 hm f1 f2 f3 f4
      refine g_l dX4_build_2 rfl rfl ?_
      refine g_iconst dX4_build_3 rfl ?_
      refine g_icmp_ge (t := 53) dX4_build_4 (by decide) rfl (by omega) (by omega) (fun c_4 => ?_) (fun c_4 => False.elim (by omega))
      refine g_retV dX4_build_53 rfl rfl ?_
      exact hq _ f1 (fun p a b => f2 p a b (by omega)) (fun p a b => f3 p a (by omega)) f4
    | succ m ih =>
      intro i Tw' h0 h5 hm f1 f2 f3 f4
      have next : ∀ v, (i < S 3 4 → v = S (7 + i.toNat) 0) → G none d 4 false none 0 0 (hO S Tw M P).length cX4_build Q 0 2 [some (.ref (tR t 7)), some (.ref 3), some (.int (iI (i + 1)))] [] (hO S (wT (wT (wT Tw' t 8 i v) t 9 i 0) t 10 i 0) M P) := fun v hv => by
        refine ih (i + 1) _ (by omega) (by omega) (by omega) f1.w.w.w (fun p a b c => ?_) (fun p a b => ?_) (fun o h1 h2 h3 => ?_)
        · rw [wT_o (by decide), wT_o (by decide), wT_s]
          by_cases h : p = i
          · subst h; rw [if_pos rfl]; exact hv b
          · rw [if_neg h]; exact f2 p a b (by omega)
        · rw [wT_o (by decide), wT_s, wT_o (by decide), wT_s, wT_o (by decide), wT_o (by decide)]
          by_cases h : p = i
          · rw [if_pos h, if_pos h]; exact ⟨rfl, rfl⟩
          · rw [if_neg h, if_neg h]; exact f3 p a (by omega)
        · rw [wT_o h3, wT_o h2, wT_o h1]; exact f4 o h1 h2 h3
      refine g_l dX4_build_2 rfl rfl ?_
      refine g_iconst dX4_build_3 rfl ?_
      refine g_icmp_ge (t := 53) dX4_build_4 (by decide) rfl (by omega) (by omega) (fun c_4 => False.elim (by omega)) (fun c_4 => ?_)
      refine g_l dX4_build_7 rfl rfl ?_
      refine g_getf dX4_build_8 (hT7 (by omega)) f_4_9 rfl rfl ?_
      refine g_l dX4_build_11 rfl rfl ?_
      refine g_l dX4_build_12 rfl rfl ?_
      refine g_l dX4_build_13 rfl rfl ?_
      refine g_getf dX4_build_14 h3 f_4_25 rfl rfl ?_
      refine g_icmp_ge (t := 31) dX4_build_17 (by decide) rfl (by omega) (by omega) (fun c_17 => ?_) (fun c_17 => ?_)
      · refine g_iconst dX4_build_31 rfl ?_
        refine g_iast dX4_build_32 (hTa8 (by omega)) (by omega) (by decide) (pTa8 (by omega)) rfl ?_
        refine g_l dX4_build_33 rfl rfl ?_
        refine g_getf dX4_build_34 (hT7 (by omega)) f_4_15 rfl rfl ?_
        refine g_l dX4_build_37 rfl rfl ?_
        refine g_iconst dX4_build_38 rfl ?_
        refine g_iast dX4_build_39 (hTa9 (by omega)) (by omega) (by decide) (pTa9 (by omega)) rfl ?_
        refine g_l dX4_build_40 rfl rfl ?_
        refine g_getf dX4_build_41 (hT7 (by omega)) f_4_18 rfl rfl ?_
        refine g_l dX4_build_44 rfl rfl ?_
        refine g_iconst dX4_build_45 rfl ?_
        refine g_iast dX4_build_46 (hTa10 (by omega)) (by omega) (by decide) (pTa10 (by omega)) rfl ?_
        refine g_iinc (loc' := [some _, some _, some _]) dX4_build_47 rfl rfl rfl ?_
        refine g_goto (t := 2) dX4_build_50 (by decide) ?_
        exact next 0 (fun q => by omega)
      · refine g_l dX4_build_20 rfl rfl ?_
        refine g_getf dX4_build_21 h3 f_4_31 rfl rfl ?_
        refine g_l dX4_build_24 rfl rfl ?_
        refine g_aald6 dX4_build_25 (by omega) rfl ?_
        refine g_iconst dX4_build_26 rfl ?_
        refine g_iald dX4_build_27 (hdig (by omega)) (by omega) (by decide) rfl ?_
        refine g_goto (t := 32) dX4_build_28 (by decide) ?_
        refine g_iast dX4_build_32 (hTa8 (by omega)) (by omega) (by decide) (pTa8 (by omega)) rfl ?_
        refine g_l dX4_build_33 rfl rfl ?_
        refine g_getf dX4_build_34 (hT7 (by omega)) f_4_15 rfl rfl ?_
        refine g_l dX4_build_37 rfl rfl ?_
        refine g_iconst dX4_build_38 rfl ?_
        refine g_iast dX4_build_39 (hTa9 (by omega)) (by omega) (by decide) (pTa9 (by omega)) rfl ?_
        refine g_l dX4_build_40 rfl rfl ?_
        refine g_getf dX4_build_41 (hT7 (by omega)) f_4_18 rfl rfl ?_
        refine g_l dX4_build_44 rfl rfl ?_
        refine g_iconst dX4_build_45 rfl ?_
        refine g_iast dX4_build_46 (hTa10 (by omega)) (by omega) (by decide) (pTa10 (by omega)) rfl ?_
        refine g_iinc (loc' := [some _, some _, some _]) dX4_build_47 rfl rfl rfl ?_
        refine g_goto (t := 2) dX4_build_50 (by decide) ?_
        exact next _ (fun q => rfl)
  exact loop _ 0 Tw (by omega) (by omega) rfl frT.rf (fun p a b c => by omega) (fun p a b => by omega) (fun o _ _ _ => rfl)
end PO
