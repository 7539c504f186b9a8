/-! floors: what is foreseen, and the search -/
theorem tEq.fe {S S0 : Nat → Int → Int} (h : tEq S S0) : feX S = feX S0 := by
  funext p sb X o k
  obtain ⟨e1, e2, e3, e4, e5, e6⟩ := h
  unfold feX nHas nHow mjF
  rw [e2, e3, e4, e5, e6]
theorem tEq.q {S S0 : Nat → Int → Int} {p sb w : Int} {X : Nat → Int → Int} (h : tEq S S0) : ∀ n : Nat, qI S p sb w X n = qI S0 p sb w X n
  | 0 => rfl
  | n + 1 => by
    show qX S p sb w 0 (qI S p sb w X n) = qX S0 p sb w 0 (qI S0 p sb w X n)
    rw [tEq.q h n]
    unfold qX
    rw [h.fe]
theorem tEq.rd {S S0 : Nat → Int → Int} {X : Nat → Int → Int} {p sb : Int} {n : Nat} {w k : Int} (h : tEq S S0) : rdP S X p sb n w k ↔ rdP S0 X p sb n w k := by
  unfold rdP
  rw [h.q n]
/-- the kilns in which pot p is READY, as bits -/
def rbF (S : Nat → Int → Int) (X : Nat → Int → Int) (p sb : Int) (n : Nat) (w : Int) (m : Nat) : Int := setF (fun k => rdP S X p sb n w k) m
theorem frF_t {S S1 : Nat → Int → Int} (h : ∀ c, ¬ (244 ≤ c ∧ c ≤ 247) → S1 c = S c) : tEq S1 S := ⟨h 13 (by decide), h 14 (by decide), h 15 (by decide), h 16 (by decide), h 17 (by decide), h 18 (by decide)⟩
section FS
variable {S : Nat → Int → Int} {Tw : Nat → Nat → Int → Int} {M : Nat → Int → Int} {P : Nat → Nat} {d : Nat} {Q : Option Value → GH → Prop}
theorem s_X1_foresee {n w B : Int} (hp : pOk S) (hk : twOk S (Tw 0) B) (hB : B ≤ 900000) (hn : 0 ≤ n ∧ n ≤ 9) (hw : 0 ≤ w ∧ w ≤ 9)
    (hq : ∀ S' Tw', (∀ c, c ≠ 246 → c ≠ 247 → S' c = S c) → frT 15 Tw Tw' → (∀ j, 0 ≤ j → j < S 13 5 → S' 246 j = rbF S (Tw 0) j 0 n.toNat w (Tw 0 1 5).toNat ∧ S' 247 j = rbF S (Tw 0) j 1 n.toNat w (Tw 0 1 5).toNat) → Q none (hO S' Tw' M P)) : CallD (d + 5) 10 [.ref 243, .int (iI n), .int (iI w)] (hO S Tw M P) Q := by
  have n1 := hp.1
  have n2 := hp.2.1
  have t1 := hk.1.1
  have t2 := hk.1.2.1
  refine g_enter (loc := [some _, some _, some _, _, _]) e_X1_foresee i_X1_foresee (Nat.le_of_ble_eq_true rfl) rfl ?_
  refine g_iconst dX1_foresee_0 rfl ?_
  refine g_l (loc' := [some _, some _, some _, some _, _]) dX1_foresee_1 rfl rfl ?_
  have loop : ∀ (m : Nat) (i : Int) (z4 : Option Value) (S1 : Nat → Int → Int) (T1 : Nat → Nat → Int → Int), 0 ≤ i → i ≤ S 13 5 → (S 13 5 - i).toNat = m → (∀ c, c ≠ 246 → c ≠ 247 → S1 c = S c) → frT 15 Tw T1 → (∀ j, 0 ≤ j → j < i → S1 246 j = rbF S (Tw 0) j 0 n.toNat w (Tw 0 1 5).toNat ∧ S1 247 j = rbF S (Tw 0) j 1 n.toNat w (Tw 0 1 5).toNat) →
      G none (d + 4) 1 false none 0 0 (hO S Tw M P).length cX1_foresee Q 0 2 [some (.ref 243), some (.int (iI n)), some (.int (iI w)), some (.int (iI i)), z4] [] (hO S1 T1 M P) := by
    intro m
    induction m with
    | zero =>
      intro i z4 S1 T1 b1 b2 hm f1 f2 f3
      have e13 : S1 13 = S 13 := f1 13 (by decide) (by decide)
      refine g_l dX1_foresee_2 rfl rfl ?_
      refine g_l dX1_foresee_3 rfl rfl ?_
      refine g_getf dX1_foresee_4 h243 f_1_43 rfl rfl ?_
      refine g_getf dX1_foresee_7 h13 f_1_48 rfl rfl ?_
      rw [e13]
      refine g_icmp_ge (t := 117) dX1_foresee_10 (by decide) rfl (by omega) (by omega) (fun c_10 => ?_) (fun c_10 => False.elim (by omega))
      refine g_retV dX1_foresee_117 rfl rfl ?_
      exact hq S1 T1 f1 f2 (fun j y1 y2 => f3 j y1 (by omega))
    | succ m ih =>
      intro i z4 S1 T1 b1 b2 hm f1 f2 f3
      have e13 : S1 13 = S 13 := f1 13 (by decide) (by decide)
      have inner : ∀ (r : Nat) (k : Int) (S2 : Nat → Int → Int) (T2 : Nat → Nat → Int → Int), 0 ≤ k → k ≤ Tw 0 1 5 → (Tw 0 1 5 - k).toNat = r → (∀ c, c ≠ 246 → c ≠ 247 → S2 c = S c) → frT 15 Tw T2 → (∀ j, 0 ≤ j → j < i → S2 246 j = rbF S (Tw 0) j 0 n.toNat w (Tw 0 1 5).toNat ∧ S2 247 j = rbF S (Tw 0) j 1 n.toNat w (Tw 0 1 5).toNat) →
          S2 246 i = rbF S (Tw 0) i 0 n.toNat w k.toNat → S2 247 i = rbF S (Tw 0) i 1 n.toNat w k.toNat →
          G none (d + 4) 1 false none 0 0 (hO S Tw M P).length cX1_foresee Q 0 30 [some (.ref 243), some (.int (iI n)), some (.int (iI w)), some (.int (iI i)), some (.int (iI k))] [] (hO S2 T2 M P) := by
        intro r
        induction r with
        | zero =>
          intro k S2 T2 c1 c2 hr g1 g2 g3 g4 g5
          have e0 : T2 0 = Tw 0 := g2 0 (by decide)
          have ek : k = Tw 0 1 5 := by omega
          refine g_l dX1_foresee_30 rfl rfl ?_
          refine g_l dX1_foresee_32 rfl rfl ?_
          refine g_getf dX1_foresee_33 h243 f_1_24 rfl rfl ?_
          refine g_getf dX1_foresee_36 (hT0 (by omega)) f_1_79 rfl rfl ?_
          refine g_getf dX1_foresee_39 (hT1 (by omega)) f_1_83 rfl rfl ?_
          rw [e0]
          refine g_icmp_ge (t := 111) dX1_foresee_42 (by decide) rfl (by omega) (by omega) (fun c_42 => ?_) (fun c_42 => False.elim (by omega))
          refine g_iinc (loc' := [some _, some _, some _, some _, some _]) dX1_foresee_111 rfl rfl rfl ?_
          refine g_goto (t := 2) dX1_foresee_114 (by decide) ?_
          refine ih (i + 1) _ S2 T2 (by omega) (by omega) (by omega) g1 g2 (fun j y1 y2 => ?_)
          by_cases e : j = i
          · subst e
            rw [ek] at g4 g5
            exact ⟨g4, g5⟩
          · exact g3 j y1 (by omega)
        | succ r ihr =>
          intro k S2 T2 c1 c2 hr g1 g2 g3 g4 g5
          have e0 : T2 0 = Tw 0 := g2 0 (by decide)
          have s0 : rbF S (Tw 0) i 0 n.toNat w (k + 1).toNat = bOr (rbF S (Tw 0) i 0 n.toNat w k.toNat) (if rdP S (Tw 0) i 0 n.toNat w k then bShl 1 k else 0) := setF_s c1
          have s1 : rbF S (Tw 0) i 1 n.toNat w (k + 1).toNat = bOr (rbF S (Tw 0) i 1 n.toNat w k.toNat) (if rdP S (Tw 0) i 1 n.toNat w k then bShl 1 k else 0) := setF_s c1
          have ht : tEq S2 S := frF_t (fun c hc => g1 c (by omega) (by omega))
          have e132 : S2 13 = S 13 := g1 13 (by decide) (by decide)
          have mid : ∀ (v : Int) (T3 : Nat → Nat → Int → Int), v = rbF S (Tw 0) i 0 n.toNat w (k + 1).toNat → frT 15 Tw T3 →
              G none (d + 4) 1 false none 0 0 (hO S Tw M P).length cX1_foresee Q 0 75 [some (.ref 243), some (.int (iI n)), some (.int (iI w)), some (.int (iI i)), some (.int (iI k))] [] (hO (wS S2 246 i v) T3 M P) := by
            intro v T3 hv hf
            have e03 : T3 0 = Tw 0 := hf 0 (by decide)
            have q1 : ∀ c, c ≠ 246 → c ≠ 247 → wS S2 246 i v c = S c := fun c y1 y2 => by rw [wS_o y1]; exact g1 c y1 y2
            have ht3 : tEq (wS S2 246 i v) S := frF_t (fun c hc => q1 c (by omega) (by omega))
            have e7 : wS S2 246 i v 247 i = rbF S (Tw 0) i 1 n.toNat w k.toNat := by rw [wS_o (by decide)]; exact g5
            have fin : ∀ (T4 : Nat → Nat → Int → Int) (v7 : Int), v7 = rbF S (Tw 0) i 1 n.toNat w (k + 1).toNat → frT 15 Tw T4 →
                G none (d + 4) 1 false none 0 0 (hO S Tw M P).length cX1_foresee Q 0 105 [some (.ref 243), some (.int (iI n)), some (.int (iI w)), some (.int (iI i)), some (.int (iI k))] [] (hO (wS (wS S2 246 i v) 247 i v7) T4 M P) := by
              intro T4 v7 hv7 hf4
              refine g_iinc (loc' := [some _, some _, some _, some _, some _]) dX1_foresee_105 rfl rfl rfl ?_
              refine g_goto (t := 30) dX1_foresee_108 (by decide) ?_
              refine ihr (k + 1) _ T4 (by omega) (by omega) (by omega) (fun c y1 y2 => by rw [wS_o y2]; exact q1 c y1 y2) hf4 (fun j y1 y2 => ?_) ?_ ?_
              · rw [wS_o (show (246 : Nat) ≠ 247 by decide), wS_s, if_neg (by omega), wS_s, if_neg (by omega), wS_o (show (247 : Nat) ≠ 246 by decide)]
                exact g3 j y1 y2
              · rw [wS_o (show (246 : Nat) ≠ 247 by decide), wS_e]; exact hv
              · rw [wS_e]; exact hv7
            refine g_l dX1_foresee_75 rfl rfl ?_
            refine g_getf dX1_foresee_76 h243 f_1_21 rfl rfl ?_
            refine g_l dX1_foresee_79 rfl rfl ?_
            refine g_s dX1_foresee_80 rfl rfl rfl ?_
            refine g_iald dX1_foresee_81 h247 (by omega) (by decide) rfl ?_
            refine g_l dX1_foresee_82 rfl rfl ?_
            refine g_l dX1_foresee_83 rfl rfl ?_
            refine g_l dX1_foresee_84 rfl rfl ?_
            refine g_iconst dX1_foresee_86 rfl ?_
            refine g_l dX1_foresee_87 rfl rfl ?_
            refine g_l dX1_foresee_88 rfl rfl ?_
            refine g_callV dX1_foresee_89 m_1_86 (n := 5) rfl h243 rfl (Nat.le_of_ble_eq_true rfl) (Nat.le_of_ble_eq_true rfl) rfl rfl ?_
            refine s_X1_isReadyIn (ht3.p hp) (by rw [e03]; exact ht3.tw hk) hB (by rw [ht3.1]; exact ⟨b1, by omega⟩) (by rw [e03]; exact ⟨c1, by omega⟩) (Or.inr rfl) hn hw (fun y T4 hf4 => ?_) (fun y T4 hf4 => ?_)
            · rw [e03, ht3.rd] at y
              rw [if_pos y] at s1
              simp only [Option.toList_some, Option.toList_none, List.cons_append, List.nil_append]
              refine g_if_eq (t := 102) dX1_foresee_92 (by decide) rfl (by omega) (fun c_92 => False.elim (by omega)) (fun c_92 => ?_)
              refine g_iconst dX1_foresee_95 rfl ?_
              refine g_l dX1_foresee_96 rfl rfl ?_
              refine g_ishl dX1_foresee_98 rfl ?_
              refine g_goto (t := 103) dX1_foresee_99 (by decide) ?_
              refine g_ior dX1_foresee_103 rfl ?_
              refine g_iast dX1_foresee_104 h247 (by omega) (by decide) p247 rfl ?_
              exact fin T4 _ (by rw [e7]; exact s1.symm) (hf.tr hf4)
            · rw [e03, ht3.rd] at y
              rw [if_neg y] at s1
              simp only [Option.toList_some, Option.toList_none, List.cons_append, List.nil_append]
              refine g_if_eq (t := 102) dX1_foresee_92 (by decide) rfl (by omega) (fun c_92 => ?_) (fun c_92 => False.elim (by omega))
              refine g_iconst dX1_foresee_102 rfl ?_
              refine g_ior dX1_foresee_103 rfl ?_
              refine g_iast dX1_foresee_104 h247 (by omega) (by decide) p247 rfl ?_
              exact fin T4 _ (by rw [e7]; exact s1.symm) (hf.tr hf4)
          refine g_l dX1_foresee_30 rfl rfl ?_
          refine g_l dX1_foresee_32 rfl rfl ?_
          refine g_getf dX1_foresee_33 h243 f_1_24 rfl rfl ?_
          refine g_getf dX1_foresee_36 (hT0 (by omega)) f_1_79 rfl rfl ?_
          refine g_getf dX1_foresee_39 (hT1 (by omega)) f_1_83 rfl rfl ?_
          rw [e0]
          refine g_icmp_ge (t := 111) dX1_foresee_42 (by decide) rfl (by omega) (by omega) (fun c_42 => False.elim (by omega)) (fun c_42 => ?_)
          refine g_l dX1_foresee_45 rfl rfl ?_
          refine g_getf dX1_foresee_46 h243 f_1_18 rfl rfl ?_
          refine g_l dX1_foresee_49 rfl rfl ?_
          refine g_s dX1_foresee_50 rfl rfl rfl ?_
          refine g_iald dX1_foresee_51 h246 (by omega) (by decide) rfl ?_
          refine g_l dX1_foresee_52 rfl rfl ?_
          refine g_l dX1_foresee_53 rfl rfl ?_
          refine g_l dX1_foresee_54 rfl rfl ?_
          refine g_iconst dX1_foresee_56 rfl ?_
          refine g_l dX1_foresee_57 rfl rfl ?_
          refine g_l dX1_foresee_58 rfl rfl ?_
          refine g_callV dX1_foresee_59 m_1_86 (n := 5) rfl h243 rfl (Nat.le_of_ble_eq_true rfl) (Nat.le_of_ble_eq_true rfl) rfl rfl ?_
          refine s_X1_isReadyIn (ht.p hp) (by rw [e0]; exact ht.tw hk) hB (by rw [e132]; exact ⟨b1, by omega⟩) (by rw [e0]; exact ⟨c1, by omega⟩) (Or.inl rfl) hn hw (fun y T4 hf4 => ?_) (fun y T4 hf4 => ?_)
          · rw [e0, ht.rd] at y
            rw [if_pos y] at s0
            simp only [Option.toList_some, Option.toList_none, List.cons_append, List.nil_append]
            refine g_if_eq (t := 72) dX1_foresee_62 (by decide) rfl (by omega) (fun c_62 => False.elim (by omega)) (fun c_62 => ?_)
            refine g_iconst dX1_foresee_65 rfl ?_
            refine g_l dX1_foresee_66 rfl rfl ?_
            refine g_ishl dX1_foresee_68 rfl ?_
            refine g_goto (t := 73) dX1_foresee_69 (by decide) ?_
            refine g_ior dX1_foresee_73 rfl ?_
            refine g_iast dX1_foresee_74 h246 (by omega) (by decide) p246 rfl ?_
            exact mid _ T4 (by rw [g4]; exact s0.symm) (g2.tr hf4)
          · rw [e0, ht.rd] at y
            rw [if_neg y] at s0
            simp only [Option.toList_some, Option.toList_none, List.cons_append, List.nil_append]
            refine g_if_eq (t := 72) dX1_foresee_62 (by decide) rfl (by omega) (fun c_62 => ?_) (fun c_62 => False.elim (by omega))
            refine g_iconst dX1_foresee_72 rfl ?_
            refine g_ior dX1_foresee_73 rfl ?_
            refine g_iast dX1_foresee_74 h246 (by omega) (by decide) p246 rfl ?_
            exact mid _ T4 (by rw [g4]; exact s0.symm) (g2.tr hf4)
      refine g_l dX1_foresee_2 rfl rfl ?_
      refine g_l dX1_foresee_3 rfl rfl ?_
      refine g_getf dX1_foresee_4 h243 f_1_43 rfl rfl ?_
      refine g_getf dX1_foresee_7 h13 f_1_48 rfl rfl ?_
      rw [e13]
      refine g_icmp_ge (t := 117) dX1_foresee_10 (by decide) rfl (by omega) (by omega) (fun c_10 => False.elim (by omega)) (fun c_10 => ?_)
      refine g_l dX1_foresee_13 rfl rfl ?_
      refine g_getf dX1_foresee_14 h243 f_1_18 rfl rfl ?_
      refine g_l dX1_foresee_17 rfl rfl ?_
      refine g_iconst dX1_foresee_18 rfl ?_
      refine g_iast dX1_foresee_19 h246 (by omega) (by decide) p246 rfl ?_
      refine g_l dX1_foresee_20 rfl rfl ?_
      refine g_getf dX1_foresee_21 h243 f_1_21 rfl rfl ?_
      refine g_l dX1_foresee_24 rfl rfl ?_
      refine g_iconst dX1_foresee_25 rfl ?_
      refine g_iast dX1_foresee_26 h247 (by omega) (by decide) p247 rfl ?_
      refine g_iconst dX1_foresee_27 rfl ?_
      refine g_l (loc' := [some _, some _, some _, some _, some _]) dX1_foresee_28 rfl rfl ?_
      refine inner (Tw 0 1 5).toNat 0 _ T1 (by omega) (by omega) (by rw [Int.sub_zero]) (fun c y1 y2 => by rw [wS_o y2, wS_o y1]; exact f1 c y1 y2) f2 (fun j y1 y2 => ?_) ?_ ?_
      · rw [wS_o (show (246 : Nat) ≠ 247 by decide), wS_s, if_neg (by omega), wS_s, if_neg (by omega), wS_o (show (247 : Nat) ≠ 246 by decide)]
        exact f3 j y1 y2
      · rw [wS_o (show (246 : Nat) ≠ 247 by decide), wS_e]; rfl
      · rw [wS_e]; rfl
  exact loop (S 13 5).toNat 0 _ S Tw (by omega) n1 (by rw [Int.sub_zero]) (fun _ _ _ => rfl) frT.rf (fun j y1 y2 => by omega)
end FS
