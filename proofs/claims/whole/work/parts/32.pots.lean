/-! Pots: the spec of each method -/
/-- how a pot feels a quarter -/
def fHow (mj kd lo hi ti has hn hw ca sb : Int) : Int := if mj < (if 0 ≤ hn - hw then hn - hw else -(hn - hw)) then 2 else if kd = 2 ∧ sb = 1 ∧ 0 < ca then 3 else if 10 * lo ≤ hn ∧ hn ≤ 10 * hi then (if ti ≤ has + 1 then 1 else 0) else 0
def fHas (mj kd lo hi has hn hw ca sb : Int) : Int := if mj < (if 0 ≤ hn - hw then hn - hw else -(hn - hw)) then has else if kd = 2 ∧ sb = 1 ∧ 0 < ca then has else if 10 * lo ≤ hn ∧ hn ≤ 10 * hi then has + 1 else has
/-- pot p of a tower X behind a quarter -/
def nHow (S : Nat → Int → Int) (X : Nat → Int → Int) (p sb : Int) : Int := if X 10 p = 0 then fHow (mjF S p) (S 14 p) (S 15 p) (S 16 p) (S 17 p) (X 9 p) (X 2 (X 8 p)) (X 5 (X 8 p)) (X 6 (X 8 p)) sb else X 10 p
def nHas (S : Nat → Int → Int) (X : Nat → Int → Int) (p sb : Int) : Int := if X 10 p = 0 then fHas (mjF S p) (S 14 p) (S 15 p) (S 16 p) (X 9 p) (X 2 (X 8 p)) (X 5 (X 8 p)) (X 6 (X 8 p)) sb else X 9 p
def saltB (S : Nat → Int → Int) (X : Nat → Int → Int) (k : Int) : Prop := ∃ i, 0 ≤ i ∧ i < S 13 5 ∧ S 14 i = 1 ∧ X 8 i = k - 1
noncomputable def sbF (S : Nat → Int → Int) (X : Nat → Int → Int) (k : Int) : Int := @ite Int (saltB S X k) (Classical.propDecidable _) 1 0
theorem sbF_1 {S : Nat → Int → Int} {X : Nat → Int → Int} {k : Int} (h : saltB S X k) : sbF S X k = 1 := by unfold sbF; exact if_pos h
theorem sbF_0 {S : Nat → Int → Int} {X : Nat → Int → Int} {k : Int} (h : ¬ saltB S X k) : sbF S X k = 0 := by unfold sbF; exact if_neg h
theorem sbF_01 (S : Nat → Int → Int) (X : Nat → Int → Int) (k : Int) : sbF S X k = 0 ∨ sbF S X k = 1 := by
  by_cases h : saltB S X k
  · exact Or.inr (sbF_1 h)
  · exact Or.inl (sbF_0 h)
theorem sbF_congr {S : Nat → Int → Int} {X X' : Nat → Int → Int} {k : Int} (h : X' 8 = X 8) : sbF S X' k = sbF S X k := by
  unfold sbF saltB
  rw [h]
/-- the pots of a tower are in their bounds -/
def qOk (S : Nat → Int → Int) (X : Nat → Int → Int) : Prop := ∀ p, 0 ≤ p → p < S 13 5 → (0 ≤ X 8 p ∧ X 8 p < 5) ∧ (0 ≤ X 9 p ∧ X 9 p ≤ 9) ∧ (0 ≤ X 10 p ∧ X 10 p ≤ 3) ∧ (X 10 p = 0 → X 9 p < S 17 p)
/-- heat, and heat before, in bounds -/
def hOk (X : Nat → Int → Int) (k : Int) : Prop := (0 ≤ X 2 k ∧ X 2 k ≤ 10000000) ∧ (0 ≤ X 5 k ∧ X 5 k ≤ 10000000) ∧ R32 (X 6 k)
theorem bOr_0 {a : Int} (h : R32 a) : bOr a 0 = a := by
  unfold bOr
  rw [iI_0, Int32.or_zero, iI_toInt h]
/-- the post of feel -/
def potP (t : Nat) (S : Nat → Int → Int) (p sb : Int) (Tw Tw' : Nat → Nat → Int → Int) : Prop := frT t Tw Tw' ∧ (∀ k, Tw' t 9 k = if k = p then nHas S (Tw t) p sb else Tw t 9 k) ∧ (∀ k, Tw' t 10 k = if k = p then nHow S (Tw t) p sb else Tw t 10 k) ∧ ∀ o, o ≠ 9 → o ≠ 10 → Tw' t o = Tw t o
section PO
variable {S : Nat → Int → Int} {Tw : Nat → Nat → Int → Int} {M : Nat → Int → Int} {P : Nat → Nat} {d : Nat} {Q : Option Value → GH → Prop}
set_option maxHeartbeats 1000000 in
theorem s_X4_feel {t : Nat} {p sb : Int} (ht : t < 19) (hp : pOk S) (h0 : 0 ≤ p) (h1 : p < S 13 5) (hq0 : qOk S (Tw t)) (hh : hOk (Tw t) (Tw t 8 p)) (hsb : sb = 0 ∨ sb = 1) (hq : ∀ Tw', potP t S p sb Tw Tw' → Q none (hO S Tw' M P)) : CallD (d + 2) 38 [.ref (tR t 7), .int (iI p), .ref (tR t 1), .int (iI sb)] (hO S Tw M P) Q := by
  have hp' := hp
  obtain ⟨n1, n2, hp⟩ := hp
  obtain ⟨b1, b2, b3, b4, b5⟩ := hp p h0 h1
  obtain ⟨a1, a2, a3, a4⟩ := hq0 p h0 h1
  obtain ⟨k1, k2, k3⟩ := hh
  have hmj := mjF_in hp' h0 h1
  refine g_enter (loc := [some _, some _, some _, some _, _]) e_X4_feel i_X4_feel (Nat.le_of_ble_eq_true rfl) rfl ?_
  refine g_l dX4_feel_0 rfl rfl ?_
  refine g_getf dX4_feel_1 (hT7 (by omega)) f_4_9 rfl rfl ?_
  refine g_l dX4_feel_4 rfl rfl ?_
  refine g_iald dX4_feel_5 (hTa8 (by omega)) (by omega) (by decide) rfl ?_
  refine g_l (loc' := [some _, some _, some _, some _, some _]) dX4_feel_6 rfl rfl ?_
  refine g_l dX4_feel_8 rfl rfl ?_
  refine g_getf dX4_feel_9 (hT7 (by omega)) f_4_18 rfl rfl ?_
  refine g_l dX4_feel_12 rfl rfl ?_
  refine g_iald dX4_feel_13 (hTa10 (by omega)) (by omega) (by decide) rfl ?_
  refine g_if_eq (t := 18) dX4_feel_14 (by decide) rfl (by omega) (fun c_14 => ?_) (fun c_14 => ?_)
  · refine g_l dX4_feel_18 rfl rfl ?_
    refine g_l dX4_feel_19 rfl rfl ?_
    refine g_callV dX4_feel_21 m_4_58 (n := 1) rfl (hT1 (by omega)) rfl (Nat.le_of_ble_eq_true rfl) (Nat.le_of_ble_eq_true rfl) rfl rfl ?_
    refine s_X2_jump ht (by omega) k1 k2 ?_
    simp only [Option.toList_some, Option.toList_none, List.cons_append, List.nil_append]
    generalize hjj : (if 0 ≤ Tw t 2 (Tw t 8 p) - Tw t 5 (Tw t 8 p) then Tw t 2 (Tw t 8 p) - Tw t 5 (Tw t 8 p) else -(Tw t 2 (Tw t 8 p) - Tw t 5 (Tw t 8 p))) = jj
    have hj2 : R32 jj := by rw [← hjj]; split <;> omega
    have fin1 : ∀ v : Int, jj ≤ mjF S p → ¬ (S 14 p = 2 ∧ sb = 1 ∧ 0 < Tw t 6 (Tw t 8 p)) → 10 * S 15 p ≤ Tw t 2 (Tw t 8 p) ∧ Tw t 2 (Tw t 8 p) ≤ 10 * S 16 p → (if S 17 p ≤ Tw t 9 p + 1 then 1 else 0) = v → Q none (hO S (wT (wT Tw t 9 p (Tw t 9 p + 1)) t 10 p v) M P) := by
      intro v q1 q2 q3 q4
      have e1 : nHas S (Tw t) p sb = Tw t 9 p + 1 := by
        unfold nHas fHas
        rw [if_pos c_14, hjj, if_neg (by omega), if_neg q2, if_pos q3]
      have e2 : nHow S (Tw t) p sb = v := by
        unfold nHow fHow
        rw [if_pos c_14, hjj, if_neg (by omega), if_neg q2, if_pos q3, q4]
      refine hq _ ⟨frT.rf.w.w, fun k => ?_, fun k => ?_, fun o o1 o2 => by rw [wT_o o2, wT_o o1]⟩
      · rw [wT_o (by decide), wT_s, e1]
      · rw [wT_s, wT_o (by decide), e2]
    have fin0 : jj ≤ mjF S p → ¬ (S 14 p = 2 ∧ sb = 1 ∧ 0 < Tw t 6 (Tw t 8 p)) → ¬ (10 * S 15 p ≤ Tw t 2 (Tw t 8 p) ∧ Tw t 2 (Tw t 8 p) ≤ 10 * S 16 p) → Q none (hO S Tw M P) := by
      intro q1 q2 q3
      have e1 : nHas S (Tw t) p sb = Tw t 9 p := by
        unfold nHas fHas
        rw [if_pos c_14, hjj, if_neg (by omega), if_neg q2, if_neg q3]
      have e2 : nHow S (Tw t) p sb = 0 := by
        unfold nHow fHow
        rw [if_pos c_14, hjj, if_neg (by omega), if_neg q2, if_neg q3]
      refine hq _ ⟨frT.rf, fun k => ?_, fun k => ?_, fun o o1 o2 => rfl⟩
      · rw [e1]
        by_cases h : k = p
        · rw [if_pos h, h]
        · rw [if_neg h]
      · rw [e2]
        by_cases h : k = p
        · rw [if_pos h, h, c_14]
        · rw [if_neg h]
    refine g_l dX4_feel_24 rfl rfl ?_
    refine g_getf dX4_feel_25 (hT7 (by omega)) f_4_21 rfl rfl ?_
    refine g_l dX4_feel_28 rfl rfl ?_
    refine g_callV dX4_feel_29 m_4_64 (n := 1) rfl h13 rfl (Nat.le_of_ble_eq_true rfl) (Nat.le_of_ble_eq_true rfl) rfl rfl ?_
    refine s_X8_mostJump hp' h0 h1 ?_
    simp only [Option.toList_some, Option.toList_none, List.cons_append, List.nil_append]
    refine g_icmp_le (t := 45) dX4_feel_32 (by decide) rfl (by omega) (by omega) (fun c_32 => ?_) (fun c_32 => ?_)
    · refine g_l dX4_feel_45 rfl rfl ?_
      refine g_getf dX4_feel_46 (hT7 (by omega)) f_4_21 rfl rfl ?_
      refine g_l dX4_feel_49 rfl rfl ?_
      refine g_callV dX4_feel_50 m_4_67 (n := 1) rfl h13 rfl (Nat.le_of_ble_eq_true rfl) (Nat.le_of_ble_eq_true rfl) rfl rfl ?_
      refine s_X8_isRaw hp' h0 h1 (fun r => ?_) (fun r => ?_)
      · simp only [Option.toList_some, Option.toList_none, List.cons_append, List.nil_append]
        refine g_if_eq (t := 80) dX4_feel_53 (by decide) rfl (by omega) (fun c_53 => False.elim (by omega)) (fun c_53 => ?_)
        refine g_l dX4_feel_56 rfl rfl ?_
        refine g_if_eq (t := 80) dX4_feel_57 (by decide) rfl (by omega) (fun c_57 => ?_) (fun c_57 => ?_)
        · refine g_l dX4_feel_80 rfl rfl ?_
          refine g_getf dX4_feel_81 (hT7 (by omega)) f_4_21 rfl rfl ?_
          refine g_l dX4_feel_84 rfl rfl ?_
          refine g_l dX4_feel_85 rfl rfl ?_
          refine g_getf dX4_feel_86 (hT1 (by omega)) f_4_73 rfl rfl ?_
          refine g_l dX4_feel_89 rfl rfl ?_
          refine g_iald dX4_feel_91 (hTa2 (by omega)) (by omega) (by decide) rfl ?_
          refine g_callV dX4_feel_92 m_4_76 (n := 2) rfl h13 rfl (Nat.le_of_ble_eq_true rfl) (Nat.le_of_ble_eq_true rfl) rfl rfl ?_
          refine s_X8_wants hp' h0 h1 (by omega) (fun z => ?_) (fun z => ?_)
          · simp only [Option.toList_some, Option.toList_none, List.cons_append, List.nil_append]
            refine g_if_eq (t := 137) dX4_feel_95 (by decide) rfl (by omega) (fun c_95 => False.elim (by omega)) (fun c_95 => ?_)
            refine g_l dX4_feel_98 rfl rfl ?_
            refine g_getf dX4_feel_99 (hT7 (by omega)) f_4_15 rfl rfl ?_
            refine g_l dX4_feel_102 rfl rfl ?_
            refine g_s dX4_feel_103 rfl rfl rfl ?_
            refine g_iald dX4_feel_104 (hTa9 (by omega)) (by omega) (by decide) rfl ?_
            refine g_iconst dX4_feel_105 rfl ?_
            refine g_iadd dX4_feel_106 rfl ?_
            refine g_iast dX4_feel_107 (hTa9 (by omega)) (by omega) (by decide) (pTa9 (by omega)) rfl ?_
            refine g_l dX4_feel_108 rfl rfl ?_
            refine g_getf dX4_feel_109 (hT7 (by omega)) f_4_18 rfl rfl ?_
            refine g_l dX4_feel_112 rfl rfl ?_
            refine g_l dX4_feel_113 rfl rfl ?_
            refine g_getf dX4_feel_114 (hT7 (by omega)) f_4_15 rfl rfl ?_
            refine g_l dX4_feel_117 rfl rfl ?_
            refine g_iald dX4_feel_118 (hTa9 (by omega)) (by omega) (by decide) rfl ?_
            simp only [wT_e]
            refine g_l dX4_feel_119 rfl rfl ?_
            refine g_getf dX4_feel_120 (hT7 (by omega)) f_4_21 rfl rfl ?_
            refine g_getf dX4_feel_123 h13 f_4_80 rfl rfl ?_
            refine g_l dX4_feel_126 rfl rfl ?_
            refine g_iald dX4_feel_127 h17 (by omega) (by decide) rfl ?_
            refine g_icmp_lt (t := 135) dX4_feel_128 (by decide) rfl (by omega) (by omega) (fun c_128 => ?_) (fun c_128 => ?_)
            · refine g_iconst dX4_feel_135 rfl ?_
              refine g_iast dX4_feel_136 (hTa10 (by omega)) (by omega) (by decide) (pTa10 (by omega)) rfl ?_
              refine g_retV dX4_feel_137 rfl rfl ?_
              exact fin1 0 (by omega) (by omega) z (by rw [if_neg (by omega)])
            · refine g_iconst dX4_feel_131 rfl ?_
              refine g_goto (t := 136) dX4_feel_132 (by decide) ?_
              refine g_iast dX4_feel_136 (hTa10 (by omega)) (by omega) (by decide) (pTa10 (by omega)) rfl ?_
              refine g_retV dX4_feel_137 rfl rfl ?_
              exact fin1 1 (by omega) (by omega) z (by rw [if_pos (by omega)])
          · simp only [Option.toList_some, Option.toList_none, List.cons_append, List.nil_append]
            refine g_if_eq (t := 137) dX4_feel_95 (by decide) rfl (by omega) (fun c_95 => ?_) (fun c_95 => False.elim (by omega))
            refine g_retV dX4_feel_137 rfl rfl ?_
            exact fin0 (by omega) (by omega) z
        · refine g_l dX4_feel_60 rfl rfl ?_
          refine g_getf dX4_feel_61 (hT1 (by omega)) f_4_70 rfl rfl ?_
          refine g_l dX4_feel_64 rfl rfl ?_
          refine g_iald dX4_feel_66 (hTa6 (by omega)) (by omega) (by decide) rfl ?_
          refine g_if_le (t := 80) dX4_feel_67 (by decide) rfl (by omega) (fun c_67 => ?_) (fun c_67 => ?_)
          · refine g_l dX4_feel_80 rfl rfl ?_
            refine g_getf dX4_feel_81 (hT7 (by omega)) f_4_21 rfl rfl ?_
            refine g_l dX4_feel_84 rfl rfl ?_
            refine g_l dX4_feel_85 rfl rfl ?_
            refine g_getf dX4_feel_86 (hT1 (by omega)) f_4_73 rfl rfl ?_
            refine g_l dX4_feel_89 rfl rfl ?_
            refine g_iald dX4_feel_91 (hTa2 (by omega)) (by omega) (by decide) rfl ?_
            refine g_callV dX4_feel_92 m_4_76 (n := 2) rfl h13 rfl (Nat.le_of_ble_eq_true rfl) (Nat.le_of_ble_eq_true rfl) rfl rfl ?_
            refine s_X8_wants hp' h0 h1 (by omega) (fun z => ?_) (fun z => ?_)
            · simp only [Option.toList_some, Option.toList_none, List.cons_append, List.nil_append]
              refine g_if_eq (t := 137) dX4_feel_95 (by decide) rfl (by omega) (fun c_95 => False.elim (by omega)) (fun c_95 => ?_)
              refine g_l dX4_feel_98 rfl rfl ?_
              refine g_getf dX4_feel_99 (hT7 (by omega)) f_4_15 rfl rfl ?_
              refine g_l dX4_feel_102 rfl rfl ?_
              refine g_s dX4_feel_103 rfl rfl rfl ?_
              refine g_iald dX4_feel_104 (hTa9 (by omega)) (by omega) (by decide) rfl ?_
              refine g_iconst dX4_feel_105 rfl ?_
              refine g_iadd dX4_feel_106 rfl ?_
              refine g_iast dX4_feel_107 (hTa9 (by omega)) (by omega) (by decide) (pTa9 (by omega)) rfl ?_
              refine g_l dX4_feel_108 rfl rfl ?_
              refine g_getf dX4_feel_109 (hT7 (by omega)) f_4_18 rfl rfl ?_
              refine g_l dX4_feel_112 rfl rfl ?_
              refine g_l dX4_feel_113 rfl rfl ?_
              refine g_getf dX4_feel_114 (hT7 (by omega)) f_4_15 rfl rfl ?_
              refine g_l dX4_feel_117 rfl rfl ?_
              refine g_iald dX4_feel_118 (hTa9 (by omega)) (by omega) (by decide) rfl ?_
              simp only [wT_e]
              refine g_l dX4_feel_119 rfl rfl ?_
              refine g_getf dX4_feel_120 (hT7 (by omega)) f_4_21 rfl rfl ?_
              refine g_getf dX4_feel_123 h13 f_4_80 rfl rfl ?_
              refine g_l dX4_feel_126 rfl rfl ?_
              refine g_iald dX4_feel_127 h17 (by omega) (by decide) rfl ?_
              refine g_icmp_lt (t := 135) dX4_feel_128 (by decide) rfl (by omega) (by omega) (fun c_128 => ?_) (fun c_128 => ?_)
              · refine g_iconst dX4_feel_135 rfl ?_
                refine g_iast dX4_feel_136 (hTa10 (by omega)) (by omega) (by decide) (pTa10 (by omega)) rfl ?_
                refine g_retV dX4_feel_137 rfl rfl ?_
                exact fin1 0 (by omega) (by omega) z (by rw [if_neg (by omega)])
              · refine g_iconst dX4_feel_131 rfl ?_
                refine g_goto (t := 136) dX4_feel_132 (by decide) ?_
                refine g_iast dX4_feel_136 (hTa10 (by omega)) (by omega) (by decide) (pTa10 (by omega)) rfl ?_
                refine g_retV dX4_feel_137 rfl rfl ?_
                exact fin1 1 (by omega) (by omega) z (by rw [if_pos (by omega)])
            · simp only [Option.toList_some, Option.toList_none, List.cons_append, List.nil_append]
              refine g_if_eq (t := 137) dX4_feel_95 (by decide) rfl (by omega) (fun c_95 => ?_) (fun c_95 => False.elim (by omega))
              refine g_retV dX4_feel_137 rfl rfl ?_
              exact fin0 (by omega) (by omega) z
          · refine g_l dX4_feel_70 rfl rfl ?_
            refine g_getf dX4_feel_71 (hT7 (by omega)) f_4_18 rfl rfl ?_
            refine g_l dX4_feel_74 rfl rfl ?_
            refine g_iconst dX4_feel_75 rfl ?_
            refine g_iast dX4_feel_76 (hTa10 (by omega)) (by omega) (by decide) (pTa10 (by omega)) rfl ?_
            refine g_goto (t := 137) dX4_feel_77 (by decide) ?_
            refine g_retV dX4_feel_137 rfl rfl ?_
            refine hq _ ⟨frT.rf.w, fun k => ?_, fun k => ?_, fun o o1 o2 => by rw [wT_o o2]⟩
            · rw [wT_o (by decide)]
              unfold nHas fHas
              rw [if_pos c_14, hjj]
              by_cases h : k = p
              · rw [if_pos h, if_neg (by omega), if_pos (by omega), h]
              · rw [if_neg h]
            · rw [wT_s]
              unfold nHow fHow
              rw [if_pos c_14, hjj]
              by_cases h : k = p
              · rw [if_pos h, if_pos h, if_neg (by omega), if_pos (by omega)]
              · rw [if_neg h, if_neg h]
      · simp only [Option.toList_some, Option.toList_none, List.cons_append, List.nil_append]
        refine g_if_eq (t := 80) dX4_feel_53 (by decide) rfl (by omega) (fun c_53 => ?_) (fun c_53 => False.elim (by omega))
        refine g_l dX4_feel_80 rfl rfl ?_
        refine g_getf dX4_feel_81 (hT7 (by omega)) f_4_21 rfl rfl ?_
        refine g_l dX4_feel_84 rfl rfl ?_
        refine g_l dX4_feel_85 rfl rfl ?_
        refine g_getf dX4_feel_86 (hT1 (by omega)) f_4_73 rfl rfl ?_
        refine g_l dX4_feel_89 rfl rfl ?_
        refine g_iald dX4_feel_91 (hTa2 (by omega)) (by omega) (by decide) rfl ?_
        refine g_callV dX4_feel_92 m_4_76 (n := 2) rfl h13 rfl (Nat.le_of_ble_eq_true rfl) (Nat.le_of_ble_eq_true rfl) rfl rfl ?_
        refine s_X8_wants hp' h0 h1 (by omega) (fun z => ?_) (fun z => ?_)
        · simp only [Option.toList_some, Option.toList_none, List.cons_append, List.nil_append]
          refine g_if_eq (t := 137) dX4_feel_95 (by decide) rfl (by omega) (fun c_95 => False.elim (by omega)) (fun c_95 => ?_)
          refine g_l dX4_feel_98 rfl rfl ?_
          refine g_getf dX4_feel_99 (hT7 (by omega)) f_4_15 rfl rfl ?_
          refine g_l dX4_feel_102 rfl rfl ?_
          refine g_s dX4_feel_103 rfl rfl rfl ?_
          refine g_iald dX4_feel_104 (hTa9 (by omega)) (by omega) (by decide) rfl ?_
          refine g_iconst dX4_feel_105 rfl ?_
          refine g_iadd dX4_feel_106 rfl ?_
          refine g_iast dX4_feel_107 (hTa9 (by omega)) (by omega) (by decide) (pTa9 (by omega)) rfl ?_
          refine g_l dX4_feel_108 rfl rfl ?_
          refine g_getf dX4_feel_109 (hT7 (by omega)) f_4_18 rfl rfl ?_
          refine g_l dX4_feel_112 rfl rfl ?_
          refine g_l dX4_feel_113 rfl rfl ?_
          refine g_getf dX4_feel_114 (hT7 (by omega)) f_4_15 rfl rfl ?_
          refine g_l dX4_feel_117 rfl rfl ?_
          refine g_iald dX4_feel_118 (hTa9 (by omega)) (by omega) (by decide) rfl ?_
          simp only [wT_e]
          refine g_l dX4_feel_119 rfl rfl ?_
          refine g_getf dX4_feel_120 (hT7 (by omega)) f_4_21 rfl rfl ?_
          refine g_getf dX4_feel_123 h13 f_4_80 rfl rfl ?_
          refine g_l dX4_feel_126 rfl rfl ?_
          refine g_iald dX4_feel_127 h17 (by omega) (by decide) rfl ?_
          refine g_icmp_lt (t := 135) dX4_feel_128 (by decide) rfl (by omega) (by omega) (fun c_128 => ?_) (fun c_128 => ?_)
          · refine g_iconst dX4_feel_135 rfl ?_
            refine g_iast dX4_feel_136 (hTa10 (by omega)) (by omega) (by decide) (pTa10 (by omega)) rfl ?_
            refine g_retV dX4_feel_137 rfl rfl ?_
            exact fin1 0 (by omega) (by omega) z (by rw [if_neg (by omega)])
          · refine g_iconst dX4_feel_131 rfl ?_
            refine g_goto (t := 136) dX4_feel_132 (by decide) ?_
            refine g_iast dX4_feel_136 (hTa10 (by omega)) (by omega) (by decide) (pTa10 (by omega)) rfl ?_
            refine g_retV dX4_feel_137 rfl rfl ?_
            exact fin1 1 (by omega) (by omega) z (by rw [if_pos (by omega)])
        · simp only [Option.toList_some, Option.toList_none, List.cons_append, List.nil_append]
          refine g_if_eq (t := 137) dX4_feel_95 (by decide) rfl (by omega) (fun c_95 => ?_) (fun c_95 => False.elim (by omega))
          refine g_retV dX4_feel_137 rfl rfl ?_
          exact fin0 (by omega) (by omega) z
    · refine g_l dX4_feel_35 rfl rfl ?_
      refine g_getf dX4_feel_36 (hT7 (by omega)) f_4_18 rfl rfl ?_
      refine g_l dX4_feel_39 rfl rfl ?_
      refine g_iconst dX4_feel_40 rfl ?_
      refine g_iast dX4_feel_41 (hTa10 (by omega)) (by omega) (by decide) (pTa10 (by omega)) rfl ?_
      refine g_goto (t := 137) dX4_feel_42 (by decide) ?_
      refine g_retV dX4_feel_137 rfl rfl ?_
      refine hq _ ⟨frT.rf.w, fun k => ?_, fun k => ?_, fun o o1 o2 => by rw [wT_o o2]⟩
      · rw [wT_o (by decide)]
        unfold nHas fHas
        rw [if_pos c_14, hjj]
        by_cases h : k = p
        · rw [if_pos h, if_pos (by omega), h]
        · rw [if_neg h]
      · rw [wT_s]
        unfold nHow fHow
        rw [if_pos c_14, hjj]
        by_cases h : k = p
        · rw [if_pos h, if_pos h, if_pos (by omega)]
        · rw [if_neg h, if_neg h]
  · refine g_retV dX4_feel_17 rfl rfl ?_
    refine hq _ ⟨frT.rf, fun k => ?_, fun k => ?_, fun o o1 o2 => rfl⟩
    · unfold nHas
      rw [if_neg c_14]
      by_cases h : k = p
      · rw [if_pos h, h]
      · rw [if_neg h]
    · unfold nHow
      rw [if_neg c_14]
      by_cases h : k = p
      · rw [if_pos h, h]
      · rw [if_neg h]
end PO
