/-! floors: what is foreseen, and the search -/
theorem tEq.fe {S S0 : Nat → Int → Int} (h : tEq S S0) : feX S = feX S0 := by
  funext p sb X o k
  obtain ⟨e1, e2, e3, e4, e5, e6⟩ := h
  unfold feX nHas nHow mjF
  rw [e2, e3, e4, e5, e6]
theorem tEq.q {S S0 : Nat → Int → Int} {p sb w : Int} {X : Nat → Int → Int} (h : tEq S S0) : ∀ n : Nat, qI S p sb w X n = qI S0 p sb w X n
  | 0 => rfl
  | n + 1 => by
    show qX S p sb w 0 (qI S p sb w X n) = qX S0 p sb w 0 (qI S0 p sb w X n)
    rw [tEq.q h n]
    unfold qX
    rw [h.fe]
theorem tEq.rd {S S0 : Nat → Int → Int} {X : Nat → Int → Int} {p sb : Int} {n : Nat} {w k : Int} (h : tEq S S0) : rdP S X p sb n w k ↔ rdP S0 X p sb n w k := by
  unfold rdP
  rw [h.q n]
/-- the kilns in which pot p is READY, as bits -/
def rbF (S : Nat → Int → Int) (X : Nat → Int → Int) (p sb : Int) (n : Nat) (w : Int) (m : Nat) : Int := setF (fun k => rdP S X p sb n w k) m
theorem frF_t {S S1 : Nat → Int → Int} (h : ∀ c, ¬ (244 ≤ c ∧ c ≤ 247) → S1 c = S c) : tEq S1 S := ⟨h 13 (by decide), h 14 (by decide), h 15 (by decide), h 16 (by decide), h 17 (by decide), h 18 (by decide)⟩
theorem mpF_c {S S1 : Nat → Int → Int} (e6 : S 246 = S1 246) (e7 : S 247 = S1 247) : ∀ n : Nat, mpF S n = mpF S1 n
  | 0 => rfl
  | n + 1 => by rw [mpF, mpF, mpF_c e6 e7 n, e6, e7]
theorem abF_c {S S1 : Nat → Int → Int} {pl : Int → Int} (e : S 14 = S1 14) : ∀ n : Nat, abF S pl n = abF S1 pl n
  | 0 => rfl
  | n + 1 => by rw [abF, abF, abF_c e n, e]
theorem npF_in {X : Nat → Int → Int} (hx : X 1 5 ≤ 5) : ∀ (n : Nat) (g : Int → Int) (N : Int), (∀ i, 0 ≤ i → i < N → 0 ≤ g i ∧ g i < 5) → (n : Int) ≤ N → ((npF X n g).1 = 0 ∨ (npF X n g).1 = 1) ∧ ∀ i, 0 ≤ i → i < N → 0 ≤ (npF X n g).2 i ∧ (npF X n g).2 i < 5
  | 0, g, N, h, _ => ⟨Or.inl rfl, h⟩
  | n + 1, g, N, h, hn => by
    rw [npF]
    split
    · split
      · refine ⟨Or.inr rfl, fun i y1 y2 => ?_⟩
        have := h i y1 y2
        have := h n (by omega) (by omega)
        show 0 ≤ (if i = (n : Int) then g n + 1 else g i) ∧ (if i = (n : Int) then g n + 1 else g i) < 5
        split <;> omega
      · refine npF_in hx n _ N (fun i y1 y2 => ?_) (by omega)
        have := h i y1 y2
        show 0 ≤ (if i = (n : Int) then 0 else g i) ∧ (if i = (n : Int) then 0 else g i) < 5
        split <;> omega
    · exact npF_in hx n _ N h (by omega)
/-- the best placing from pl on, m tries; (most, best) so far -/
def flL (S : Nat → Int → Int) (g6 g7 : Int → Int) (X : Nat → Int → Int) (poss : Int) (N : Nat) : Nat → Int → (Int → Int) → (Int → Int) → Int × (Int → Int)
  | 0, most, best, _ => (most, best)
  | m + 1, most, best, pl =>
    if most < rhF g6 g7 pl (abF S pl N) N then
      (if rhF g6 g7 pl (abF S pl N) N < poss ∧ (npF X N pl).1 = 1 then flL S g6 g7 X poss N m (rhF g6 g7 pl (abF S pl N) N) pl (npF X N pl).2 else (rhF g6 g7 pl (abF S pl N) N, pl))
    else (if most < poss ∧ (npF X N pl).1 = 1 then flL S g6 g7 X poss N m most best (npF X N pl).2 else (most, best))
section FS
variable {S : Nat → Int → Int} {Tw : Nat → Nat → Int → Int} {M : Nat → Int → Int} {P : Nat → Nat} {d : Nat} {Q : Option Value → GH → Prop}
theorem s_X1_foresee {n w B : Int} (hp : pOk S) (hk : twOk S (Tw 0) B) (hB : B ≤ 900000) (hn : 0 ≤ n ∧ n ≤ 9) (hw : 0 ≤ w ∧ w ≤ 9)
    (hq : ∀ S' Tw', (∀ c, c ≠ 246 → c ≠ 247 → S' c = S c) → frT 15 Tw Tw' → (∀ j, 0 ≤ j → j < S 13 5 → S' 246 j = rbF S (Tw 0) j 0 n.toNat w (Tw 0 1 5).toNat ∧ S' 247 j = rbF S (Tw 0) j 1 n.toNat w (Tw 0 1 5).toNat) → Q none (hO S' Tw' M P)) : CallD (d + 5) 10 [.ref 243, .int (iI n), .int (iI w)] (hO S Tw M P) Q := by
  have n1 := hp.1
  have n2 := hp.2.1
  have t1 := hk.1.1
  have t2 := hk.1.2.1
  refine g_enter (loc := [some _, some _, some _, _, _]) e_X1_foresee i_X1_foresee (Nat.le_of_ble_eq_true rfl) rfl ?_
  refine g_iconst dX1_foresee_0 rfl ?_
  refine g_l (loc' := [some _, some _, some _, some _, _]) dX1_foresee_1 rfl rfl ?_
  have loop : ∀ (m : Nat) (i : Int) (z4 : Option Value) (S1 : Nat → Int → Int) (T1 : Nat → Nat → Int → Int), 0 ≤ i → i ≤ S 13 5 → (S 13 5 - i).toNat = m → (∀ c, c ≠ 246 → c ≠ 247 → S1 c = S c) → frT 15 Tw T1 → (∀ j, 0 ≤ j → j < i → S1 246 j = rbF S (Tw 0) j 0 n.toNat w (Tw 0 1 5).toNat ∧ S1 247 j = rbF S (Tw 0) j 1 n.toNat w (Tw 0 1 5).toNat) →
      G none (d + 4) 1 false none 0 0 (hO S Tw M P).length cX1_foresee Q 0 2 [some (.ref 243), some (.int (iI n)), some (.int (iI w)), some (.int (iI i)), z4] [] (hO S1 T1 M P) := by
    intro m
    induction m with
    | zero =>
      intro i z4 S1 T1 b1 b2 hm f1 f2 f3
      have e13 : S1 13 = S 13 := f1 13 (by decide) (by decide)
      refine g_l dX1_foresee_2 rfl rfl ?_
      refine g_l dX1_foresee_3 rfl rfl ?_
      refine g_getf dX1_foresee_4 h243 f_1_43 rfl rfl ?_
      refine g_getf dX1_foresee_7 h13 f_1_48 rfl rfl ?_
      rw [e13]
      refine g_icmp_ge (t := 117) dX1_foresee_10 (by decide) rfl (by omega) (by omega) (fun c_10 => ?_) (fun c_10 => False.elim (by omega))
      refine g_retV dX1_foresee_117 rfl rfl ?_
      exact hq S1 T1 f1 f2 (fun j y1 y2 => f3 j y1 (by omega))
    | succ m ih =>
      intro i z4 S1 T1 b1 b2 hm f1 f2 f3
      have e13 : S1 13 = S 13 := f1 13 (by decide) (by decide)
      have inner : ∀ (r : Nat) (k : Int) (S2 : Nat → Int → Int) (T2 : Nat → Nat → Int → Int), 0 ≤ k → k ≤ Tw 0 1 5 → (Tw 0 1 5 - k).toNat = r → (∀ c, c ≠ 246 → c ≠ 247 → S2 c = S c) → frT 15 Tw T2 → (∀ j, 0 ≤ j → j < i → S2 246 j = rbF S (Tw 0) j 0 n.toNat w (Tw 0 1 5).toNat ∧ S2 247 j = rbF S (Tw 0) j 1 n.toNat w (Tw 0 1 5).toNat) →
          S2 246 i = rbF S (Tw 0) i 0 n.toNat w k.toNat → S2 247 i = rbF S (Tw 0) i 1 n.toNat w k.toNat →
          G none (d + 4) 1 false none 0 0 (hO S Tw M P).length cX1_foresee Q 0 30 [some (.ref 243), some (.int (iI n)), some (.int (iI w)), some (.int (iI i)), some (.int (iI k))] [] (hO S2 T2 M P) := by
        intro r
        induction r with
        | zero =>
          intro k S2 T2 c1 c2 hr g1 g2 g3 g4 g5
          have e0 : T2 0 = Tw 0 := g2 0 (by decide)
          have ek : k = Tw 0 1 5 := by omega
          refine g_l dX1_foresee_30 rfl rfl ?_
          refine g_l dX1_foresee_32 rfl rfl ?_
          refine g_getf dX1_foresee_33 h243 f_1_24 rfl rfl ?_
          refine g_getf dX1_foresee_36 (hT0 (by omega)) f_1_79 rfl rfl ?_
          refine g_getf dX1_foresee_39 (hT1 (by omega)) f_1_83 rfl rfl ?_
          rw [e0]
          refine g_icmp_ge (t := 111) dX1_foresee_42 (by decide) rfl (by omega) (by omega) (fun c_42 => ?_) (fun c_42 => False.elim (by omega))
          refine g_iinc (loc' := [some _, some _, some _, some _, some _]) dX1_foresee_111 rfl rfl rfl ?_
          refine g_goto (t := 2) dX1_foresee_114 (by decide) ?_
          refine ih (i + 1) _ S2 T2 (by omega) (by omega) (by omega) g1 g2 (fun j y1 y2 => ?_)
          by_cases e : j = i
          · subst e
            rw [ek] at g4 g5
            exact ⟨g4, g5⟩
          · exact g3 j y1 (by omega)
        | succ r ihr =>
          intro k S2 T2 c1 c2 hr g1 g2 g3 g4 g5
          have e0 : T2 0 = Tw 0 := g2 0 (by decide)
          have s0 : rbF S (Tw 0) i 0 n.toNat w (k + 1).toNat = bOr (rbF S (Tw 0) i 0 n.toNat w k.toNat) (if rdP S (Tw 0) i 0 n.toNat w k then bShl 1 k else 0) := setF_s c1
          have s1 : rbF S (Tw 0) i 1 n.toNat w (k + 1).toNat = bOr (rbF S (Tw 0) i 1 n.toNat w k.toNat) (if rdP S (Tw 0) i 1 n.toNat w k then bShl 1 k else 0) := setF_s c1
          have ht : tEq S2 S := frF_t (fun c hc => g1 c (by omega) (by omega))
          have e132 : S2 13 = S 13 := g1 13 (by decide) (by decide)
          have mid : ∀ (v : Int) (T3 : Nat → Nat → Int → Int), v = rbF S (Tw 0) i 0 n.toNat w (k + 1).toNat → frT 15 Tw T3 →
              G none (d + 4) 1 false none 0 0 (hO S Tw M P).length cX1_foresee Q 0 75 [some (.ref 243), some (.int (iI n)), some (.int (iI w)), some (.int (iI i)), some (.int (iI k))] [] (hO (wS S2 246 i v) T3 M P) := by
            intro v T3 hv hf
            have e03 : T3 0 = Tw 0 := hf 0 (by decide)
            have q1 : ∀ c, c ≠ 246 → c ≠ 247 → wS S2 246 i v c = S c := fun c y1 y2 => by rw [wS_o y1]; exact g1 c y1 y2
            have ht3 : tEq (wS S2 246 i v) S := frF_t (fun c hc => q1 c (by omega) (by omega))
            have e7 : wS S2 246 i v 247 i = rbF S (Tw 0) i 1 n.toNat w k.toNat := by rw [wS_o (by decide)]; exact g5
            have fin : ∀ (T4 : Nat → Nat → Int → Int) (v7 : Int), v7 = rbF S (Tw 0) i 1 n.toNat w (k + 1).toNat → frT 15 Tw T4 →
                G none (d + 4) 1 false none 0 0 (hO S Tw M P).length cX1_foresee Q 0 105 [some (.ref 243), some (.int (iI n)), some (.int (iI w)), some (.int (iI i)), some (.int (iI k))] [] (hO (wS (wS S2 246 i v) 247 i v7) T4 M P) := by
              intro T4 v7 hv7 hf4
              refine g_iinc (loc' := [some _, some _, some _, some _, some _]) dX1_foresee_105 rfl rfl rfl ?_
              refine g_goto (t := 30) dX1_foresee_108 (by decide) ?_
              refine ihr (k + 1) _ T4 (by omega) (by omega) (by omega) (fun c y1 y2 => by rw [wS_o y2]; exact q1 c y1 y2) hf4 (fun j y1 y2 => ?_) ?_ ?_
              · rw [wS_o (show (246 : Nat) ≠ 247 by decide), wS_s, if_neg (by omega), wS_s, if_neg (by omega), wS_o (show (247 : Nat) ≠ 246 by decide)]
                exact g3 j y1 y2
              · rw [wS_o (show (246 : Nat) ≠ 247 by decide), wS_e]; exact hv
              · rw [wS_e]; exact hv7
            refine g_l dX1_foresee_75 rfl rfl ?_
            refine g_getf dX1_foresee_76 h243 f_1_21 rfl rfl ?_
            refine g_l dX1_foresee_79 rfl rfl ?_
            refine g_s dX1_foresee_80 rfl rfl rfl ?_
            refine g_iald dX1_foresee_81 h247 (by omega) (by decide) rfl ?_
            refine g_l dX1_foresee_82 rfl rfl ?_
            refine g_l dX1_foresee_83 rfl rfl ?_
            refine g_l dX1_foresee_84 rfl rfl ?_
            refine g_iconst dX1_foresee_86 rfl ?_
            refine g_l dX1_foresee_87 rfl rfl ?_
            refine g_l dX1_foresee_88 rfl rfl ?_
            refine g_callV dX1_foresee_89 m_1_86 (n := 5) rfl h243 rfl (Nat.le_of_ble_eq_true rfl) (Nat.le_of_ble_eq_true rfl) rfl rfl ?_
            refine s_X1_isReadyIn (ht3.p hp) (by rw [e03]; exact ht3.tw hk) hB (by rw [ht3.1]; exact ⟨b1, by omega⟩) (by rw [e03]; exact ⟨c1, by omega⟩) (Or.inr rfl) hn hw (fun y T4 hf4 => ?_) (fun y T4 hf4 => ?_)
            · rw [e03, ht3.rd] at y
              rw [if_pos y] at s1
              simp only [Option.toList_some, Option.toList_none, List.cons_append, List.nil_append]
              refine g_if_eq (t := 102) dX1_foresee_92 (by decide) rfl (by omega) (fun c_92 => False.elim (by omega)) (fun c_92 => ?_)
              refine g_iconst dX1_foresee_95 rfl ?_
              refine g_l dX1_foresee_96 rfl rfl ?_
              refine g_ishl dX1_foresee_98 rfl ?_
              refine g_goto (t := 103) dX1_foresee_99 (by decide) ?_
              refine g_ior dX1_foresee_103 rfl ?_
              refine g_iast dX1_foresee_104 h247 (by omega) (by decide) p247 rfl ?_
              exact fin T4 _ (by rw [e7]; exact s1.symm) (hf.tr hf4)
            · rw [e03, ht3.rd] at y
              rw [if_neg y] at s1
              simp only [Option.toList_some, Option.toList_none, List.cons_append, List.nil_append]
              refine g_if_eq (t := 102) dX1_foresee_92 (by decide) rfl (by omega) (fun c_92 => ?_) (fun c_92 => False.elim (by omega))
              refine g_iconst dX1_foresee_102 rfl ?_
              refine g_ior dX1_foresee_103 rfl ?_
              refine g_iast dX1_foresee_104 h247 (by omega) (by decide) p247 rfl ?_
              exact fin T4 _ (by rw [e7]; exact s1.symm) (hf.tr hf4)
          refine g_l dX1_foresee_30 rfl rfl ?_
          refine g_l dX1_foresee_32 rfl rfl ?_
          refine g_getf dX1_foresee_33 h243 f_1_24 rfl rfl ?_
          refine g_getf dX1_foresee_36 (hT0 (by omega)) f_1_79 rfl rfl ?_
          refine g_getf dX1_foresee_39 (hT1 (by omega)) f_1_83 rfl rfl ?_
          rw [e0]
          refine g_icmp_ge (t := 111) dX1_foresee_42 (by decide) rfl (by omega) (by omega) (fun c_42 => False.elim (by omega)) (fun c_42 => ?_)
          refine g_l dX1_foresee_45 rfl rfl ?_
          refine g_getf dX1_foresee_46 h243 f_1_18 rfl rfl ?_
          refine g_l dX1_foresee_49 rfl rfl ?_
          refine g_s dX1_foresee_50 rfl rfl rfl ?_
          refine g_iald dX1_foresee_51 h246 (by omega) (by decide) rfl ?_
          refine g_l dX1_foresee_52 rfl rfl ?_
          refine g_l dX1_foresee_53 rfl rfl ?_
          refine g_l dX1_foresee_54 rfl rfl ?_
          refine g_iconst dX1_foresee_56 rfl ?_
          refine g_l dX1_foresee_57 rfl rfl ?_
          refine g_l dX1_foresee_58 rfl rfl ?_
          refine g_callV dX1_foresee_59 m_1_86 (n := 5) rfl h243 rfl (Nat.le_of_ble_eq_true rfl) (Nat.le_of_ble_eq_true rfl) rfl rfl ?_
          refine s_X1_isReadyIn (ht.p hp) (by rw [e0]; exact ht.tw hk) hB (by rw [e132]; exact ⟨b1, by omega⟩) (by rw [e0]; exact ⟨c1, by omega⟩) (Or.inl rfl) hn hw (fun y T4 hf4 => ?_) (fun y T4 hf4 => ?_)
          · rw [e0, ht.rd] at y
            rw [if_pos y] at s0
            simp only [Option.toList_some, Option.toList_none, List.cons_append, List.nil_append]
            refine g_if_eq (t := 72) dX1_foresee_62 (by decide) rfl (by omega) (fun c_62 => False.elim (by omega)) (fun c_62 => ?_)
            refine g_iconst dX1_foresee_65 rfl ?_
            refine g_l dX1_foresee_66 rfl rfl ?_
            refine g_ishl dX1_foresee_68 rfl ?_
            refine g_goto (t := 73) dX1_foresee_69 (by decide) ?_
            refine g_ior dX1_foresee_73 rfl ?_
            refine g_iast dX1_foresee_74 h246 (by omega) (by decide) p246 rfl ?_
            exact mid _ T4 (by rw [g4]; exact s0.symm) (g2.tr hf4)
          · rw [e0, ht.rd] at y
            rw [if_neg y] at s0
            simp only [Option.toList_some, Option.toList_none, List.cons_append, List.nil_append]
            refine g_if_eq (t := 72) dX1_foresee_62 (by decide) rfl (by omega) (fun c_62 => ?_) (fun c_62 => False.elim (by omega))
            refine g_iconst dX1_foresee_72 rfl ?_
            refine g_ior dX1_foresee_73 rfl ?_
            refine g_iast dX1_foresee_74 h246 (by omega) (by decide) p246 rfl ?_
            exact mid _ T4 (by rw [g4]; exact s0.symm) (g2.tr hf4)
      refine g_l dX1_foresee_2 rfl rfl ?_
      refine g_l dX1_foresee_3 rfl rfl ?_
      refine g_getf dX1_foresee_4 h243 f_1_43 rfl rfl ?_
      refine g_getf dX1_foresee_7 h13 f_1_48 rfl rfl ?_
      rw [e13]
      refine g_icmp_ge (t := 117) dX1_foresee_10 (by decide) rfl (by omega) (by omega) (fun c_10 => False.elim (by omega)) (fun c_10 => ?_)
      refine g_l dX1_foresee_13 rfl rfl ?_
      refine g_getf dX1_foresee_14 h243 f_1_18 rfl rfl ?_
      refine g_l dX1_foresee_17 rfl rfl ?_
      refine g_iconst dX1_foresee_18 rfl ?_
      refine g_iast dX1_foresee_19 h246 (by omega) (by decide) p246 rfl ?_
      refine g_l dX1_foresee_20 rfl rfl ?_
      refine g_getf dX1_foresee_21 h243 f_1_21 rfl rfl ?_
      refine g_l dX1_foresee_24 rfl rfl ?_
      refine g_iconst dX1_foresee_25 rfl ?_
      refine g_iast dX1_foresee_26 h247 (by omega) (by decide) p247 rfl ?_
      refine g_iconst dX1_foresee_27 rfl ?_
      refine g_l (loc' := [some _, some _, some _, some _, some _]) dX1_foresee_28 rfl rfl ?_
      refine inner (Tw 0 1 5).toNat 0 _ T1 (by omega) (by omega) (by rw [Int.sub_zero]) (fun c y1 y2 => by rw [wS_o y2, wS_o y1]; exact f1 c y1 y2) f2 (fun j y1 y2 => ?_) ?_ ?_
      · rw [wS_o (show (246 : Nat) ≠ 247 by decide), wS_s, if_neg (by omega), wS_s, if_neg (by omega), wS_o (show (247 : Nat) ≠ 246 by decide)]
        exact f3 j y1 y2
      · rw [wS_o (show (246 : Nat) ≠ 247 by decide), wS_e]; rfl
      · rw [wS_e]; rfl
  exact loop (S 13 5).toNat 0 _ S Tw (by omega) n1 (by rw [Int.sub_zero]) (fun _ _ _ => rfl) frT.rf (fun j y1 y2 => by omega)
theorem s_X1_search {n w B : Int} (hp : pOk S) (hk : twOk S (Tw 0) B) (hB : B ≤ 900000) (hn : 0 ≤ n ∧ n ≤ 9) (hw : 0 ≤ w ∧ w ≤ 9)
    (hq : ∀ S' Tw' pl b, (∀ c, ¬ (244 ≤ c ∧ c ≤ 247) → S' c = S c) → frT 15 Tw Tw' → (∀ j, 0 ≤ j → j < S 13 5 → S' 246 j = rbF S (Tw 0) j 0 n.toNat w (Tw 0 1 5).toNat ∧ S' 247 j = rbF S (Tw 0) j 1 n.toNat w (Tw 0 1 5).toNat) → (∀ j, 0 ≤ j → j < S 13 5 → pl j = if Tw 0 10 j = 0 then 0 else Tw 0 8 j) →
      S' 244 = (flL S (S' 246) (S' 247) (Tw 0) (mpF S' (S 13 5).toNat) (S 13 5).toNat 3125 (-1) b pl).2 → Q (some (.int (iI (flL S (S' 246) (S' 247) (Tw 0) (mpF S' (S 13 5).toNat) (S 13 5).toNat 3125 (-1) b pl).1))) (hO S' Tw' M P)) : CallD (d + 6) 8 [.ref 243, .int (iI n), .int (iI w)] (hO S Tw M P) Q := by
  have n1 := hp.1
  have n2 := hp.2.1
  have t1 := hk.1.1
  have t2 := hk.1.2.1
  have hr10 : ∀ i, 0 ≤ i → i < S 13 5 → R32 (Tw 0 10 i) := fun i y1 y2 => by
    have := (hk.2.1 i y1 y2).2.2.1
    omega
  refine g_enter (loc := [some _, some _, some _, _, _, _, _, _]) e_X1_search i_X1_search (Nat.le_of_ble_eq_true rfl) rfl ?_
  refine g_l dX1_search_0 rfl rfl ?_
  refine g_l dX1_search_1 rfl rfl ?_
  refine g_l dX1_search_2 rfl rfl ?_
  refine g_callV dX1_search_3 m_1_44 (n := 2) rfl h243 rfl (Nat.le_of_ble_eq_true rfl) (Nat.le_of_ble_eq_true rfl) rfl rfl ?_
  refine s_X1_foresee hp hk hB hn hw (fun S1 T1 f1 f2 f3 => ?_)
  simp only [Option.toList_some, Option.toList_none, List.cons_append, List.nil_append]
  have e13 : S1 13 = S 13 := f1 13 (by decide) (by decide)
  have e0 : T1 0 = Tw 0 := f2 0 (by decide)
  refine g_iconst dX1_search_6 rfl ?_
  refine g_l (loc' := [some _, some _, some _, some _, _, _, _, _]) dX1_search_7 rfl rfl ?_
  have search : ∀ (S2 : Nat → Int → Int), (∀ c, c ≠ 245 → S2 c = S1 c) → (∀ j, 0 ≤ j → j < S 13 5 → S2 245 j = if Tw 0 10 j = 0 then 0 else Tw 0 8 j) →
      G none (d + 5) 1 false (some .int) 0 0 (hO S Tw M P).length cX1_search Q 0 55 [some (.ref 243), some (.int (iI n)), some (.int (iI w)), some (.int (iI (S 13 5))), none, none, none, none] [] (hO S2 T1 M P) := by
    intro S2 g1 g2
    have ht2 : ∀ c, ¬ (244 ≤ c ∧ c ≤ 247) → S2 c = S c := fun c hc => by rw [g1 c (by omega)]; exact f1 c (by omega) (by omega)
    have e132 : S2 13 = S 13 := ht2 13 (by decide)
    have e14 : S2 14 = S 14 := ht2 14 (by decide)
    refine g_iconst dX1_search_55 rfl ?_
    refine g_l (loc' := [some _, some _, some _, some _, _, _, _, _]) dX1_search_56 rfl rfl ?_
    refine g_l dX1_search_57 rfl rfl ?_
    refine g_callV dX1_search_58 m_1_59 (n := 0) rfl h243 rfl (Nat.le_of_ble_eq_true rfl) (Nat.le_of_ble_eq_true rfl) rfl rfl ?_
    refine s_X1_mostPossible (by rw [e132]; exact ⟨n1, n2⟩) ?_
    simp only [Option.toList_some, Option.toList_none, List.cons_append, List.nil_append]
    rw [e132]
    have hpos := mpF_in (S := S2) (S 13 5).toNat
    obtain ⟨N, hN⟩ : ∃ N, N = (S 13 5).toNat := ⟨_, rfl⟩
    rw [← hN] at hpos hq ⊢
    obtain ⟨poss, hposs⟩ : ∃ z, z = mpF S2 N := ⟨_, rfl⟩
    rw [← hposs] at hpos ⊢
    refine g_l (loc' := [some _, some _, some _, some _, some _, _, _, _]) dX1_search_61 rfl rfl ?_
    refine g_iconst dX1_search_63 rfl ?_
    refine g_l (loc' := [some _, some _, some _, some _, some _, some _, _, _]) dX1_search_64 rfl rfl ?_
    refine g_iconst dX1_search_66 rfl ?_
    refine g_l (loc' := [some _, some _, some _, some _, some _, some _, some _, _]) dX1_search_67 rfl rfl ?_
    have fin : ∀ (S3 : Nat → Int → Int) (most : Int) (best : Int → Int) (z4 z5 z6 z7 : Option Value), (∀ c, c ≠ 244 → c ≠ 245 → S3 c = S2 c) → S3 244 = best → (most, best) = flL S (S2 246) (S2 247) (Tw 0) poss N 3125 (-1) (S2 244) (S2 245) →
        G none (d + 5) 1 false (some .int) 0 0 (hO S Tw M P).length cX1_search Q 0 137 [some (.ref 243), some (.int (iI n)), some (.int (iI w)), some (.int (iI most)), z4, z5, z6, z7] [] (hO S3 T1 M P) := by
      intro S3 most best z4 z5 z6 z7 k1 k2 k3
      have e6 : S3 246 = S2 246 := k1 246 (by decide) (by decide)
      have e7 : S3 247 = S2 247 := k1 247 (by decide) (by decide)
      have h := hq S3 T1 (S2 245) (S2 244) (fun c hc => by rw [k1 c (by omega) (by omega)]; exact ht2 c hc) f2 (fun j y1 y2 => by rw [e6, e7, g1 246 (by decide), g1 247 (by decide)]; exact f3 j y1 y2) g2
      rw [e6, e7, mpF_c e6 e7 N, ← hposs, ← k3] at h
      refine g_l dX1_search_137 rfl rfl ?_
      refine g_retI dX1_search_138 rfl rfl ?_
      exact h k2
    have loop : ∀ (m : Nat) (tried most : Int) (best pl : Int → Int) (z7 : Option Value) (S3 : Nat → Int → Int), 0 ≤ tried → tried ≤ 3125 → (3125 - tried).toNat = m → -1 ≤ most → most ≤ 5 → (∀ c, c ≠ 244 → c ≠ 245 → S3 c = S2 c) → S3 244 = best → S3 245 = pl → (∀ i, 0 ≤ i → i < S 13 5 → 0 ≤ pl i ∧ pl i < 5) → flL S (S2 246) (S2 247) (Tw 0) poss N m most best pl = flL S (S2 246) (S2 247) (Tw 0) poss N 3125 (-1) (S2 244) (S2 245) →
        G none (d + 5) 1 false (some .int) 0 0 (hO S Tw M P).length cX1_search Q 0 69 [some (.ref 243), some (.int (iI n)), some (.int (iI w)), some (.int (iI most)), some (.int (iI poss)), some (.int (iI 1)), some (.int (iI tried)), z7] [] (hO S3 T1 M P) := by
      intro m
      induction m with
      | zero =>
        intro tried most best pl z7 S3 a1 a2 hm a3 a4 k1 k2 k3 k4 hz
        rw [flL] at hz
        refine g_l dX1_search_69 rfl rfl ?_
        refine g_sipush dX1_search_71 (by decide) rfl ?_
        refine g_icmp_ge (t := 137) dX1_search_74 (by decide) rfl (by omega) (by omega) (fun c_74 => ?_) (fun c_74 => False.elim (by omega))
        exact fin S3 most best _ _ _ _ k1 k2 hz
      | succ m ih =>
        intro tried most best pl z7 S3 a1 a2 hm a3 a4 k1 k2 k3 k4 hz
        rw [flL] at hz
        have e133 : S3 13 = S 13 := by rw [k1 13 (by decide) (by decide)]; exact e132
        have e143 : S3 14 = S 14 := by rw [k1 14 (by decide) (by decide)]; exact e14
        have e63 : S3 246 = S2 246 := k1 246 (by decide) (by decide)
        have e73 : S3 247 = S2 247 := k1 247 (by decide) (by decide)
        have ht3 : tEq S3 S := frF_t (fun c hc => by rw [k1 c (by omega) (by omega)]; exact ht2 c hc)
        have hab : abF S3 pl N = abF S pl N := abF_c e143 N
        have hrh := rhF_in (g6 := S2 246) (g7 := S2 247) (pl := pl) (ab := abF S pl N) N
        have hnp := npF_in (X := Tw 0) t2 N pl (S 13 5) k4 (by omega)
        refine g_l dX1_search_69 rfl rfl ?_
        refine g_sipush dX1_search_71 (by decide) rfl ?_
        refine g_icmp_ge (t := 137) dX1_search_74 (by decide) rfl (by omega) (by omega) (fun c_74 => False.elim (by omega)) (fun c_74 => ?_)
        refine g_l dX1_search_77 rfl rfl ?_
        refine g_if_eq (t := 137) dX1_search_79 (by decide) rfl (by omega) (fun c_79 => False.elim (by omega)) (fun c_79 => ?_)
        refine g_l dX1_search_82 rfl rfl ?_
        refine g_callV dX1_search_83 m_1_63 (n := 0) rfl h243 rfl (Nat.le_of_ble_eq_true rfl) (Nat.le_of_ble_eq_true rfl) rfl rfl ?_
        refine s_X1_readyHere (ht3.p hp) e63 e73 k3 ?_
        simp only [Option.toList_some, Option.toList_none, List.cons_append, List.nil_append]
        rw [e133, ← hN, hab]
        generalize rhF (S2 246) (S2 247) pl (abF S pl N) N = r at hrh hz ⊢
        have next : ∀ (S4 : Nat → Int → Int) (mo : Int) (be : Int → Int), (∀ c, c ≠ 244 → c ≠ 245 → S4 c = S2 c) → S4 244 = be → S4 245 = pl → -1 ≤ mo → mo ≤ 5 → (if mo < poss ∧ (npF (Tw 0) N pl).1 = 1 then flL S (S2 246) (S2 247) (Tw 0) poss N m mo be (npF (Tw 0) N pl).2 else (mo, be)) = flL S (S2 246) (S2 247) (Tw 0) poss N 3125 (-1) (S2 244) (S2 245) →
            G none (d + 5) 1 false (some .int) 0 0 (hO S Tw M P).length cX1_search Q 0 111 [some (.ref 243), some (.int (iI n)), some (.int (iI w)), some (.int (iI mo)), some (.int (iI poss)), some (.int (iI 1)), some (.int (iI tried)), some (.int (iI r))] [] (hO S4 T1 M P) := by
          intro S4 mo be j1 j2 j3 j4 j5 hz2
          have ht4 : tEq S4 S := frF_t (fun c hc => by rw [j1 c (by omega) (by omega)]; exact ht2 c hc)
          have stop : ∀ (S5 : Nat → Int → Int), (∀ c, c ≠ 244 → c ≠ 245 → S5 c = S2 c) → S5 244 = be → (mo, be) = flL S (S2 246) (S2 247) (Tw 0) poss N 3125 (-1) (S2 244) (S2 245) →
              G none (d + 5) 1 false (some .int) 0 0 (hO S Tw M P).length cX1_search Q 0 128 [some (.ref 243), some (.int (iI n)), some (.int (iI w)), some (.int (iI mo)), some (.int (iI poss)), some (.int (iI 1)), some (.int (iI tried)), some (.int (iI r))] [] (hO S5 T1 M P) := by
            intro S5 i1 i2 i3
            refine g_iconst dX1_search_128 rfl ?_
            refine g_l (loc' := [some _, some _, some _, some _, some _, some _, some _, some _]) dX1_search_129 rfl rfl ?_
            refine g_iinc (loc' := [some _, some _, some _, some _, some _, some _, some _, some _]) dX1_search_131 rfl rfl rfl ?_
            refine g_goto (t := 69) dX1_search_134 (by decide) ?_
            refine g_l dX1_search_69 rfl rfl ?_
            refine g_sipush dX1_search_71 (by decide) rfl ?_
            refine g_icmp_ge (t := 137) dX1_search_74 (by decide) rfl (by omega) (by omega) (fun c_74 => ?_) (fun c_74 => ?_)
            · exact fin S5 mo be _ _ _ _ i1 i2 i3
            · refine g_l dX1_search_77 rfl rfl ?_
              refine g_if_eq (t := 137) dX1_search_79 (by decide) rfl (by omega) (fun c_79 => ?_) (fun c_79 => False.elim (by omega))
              exact fin S5 mo be _ _ _ _ i1 i2 i3
          refine g_l dX1_search_111 rfl rfl ?_
          refine g_l dX1_search_112 rfl rfl ?_
          refine g_icmp_ge (t := 128) dX1_search_114 (by decide) rfl (by omega) (by omega) (fun c_114 => ?_) (fun c_114 => ?_)
          · rw [if_neg (by omega)] at hz2
            exact stop S4 j1 j2 hz2
          · refine g_l dX1_search_117 rfl rfl ?_
            refine g_callV dX1_search_118 m_1_72 (n := 0) rfl h243 rfl (Nat.le_of_ble_eq_true rfl) (Nat.le_of_ble_eq_true rfl) rfl rfl ?_
            refine s_X1_nextPlacing (g := pl) (by rw [ht4.1]; exact ⟨n1, n2⟩) (by rw [e0]; exact ⟨t1, t2⟩) (by rw [ht4.1, e0]; exact hr10) j3 (by rw [ht4.1]; exact k4) (fun S5 i1 i2 => ?_)
            rw [ht4.1, e0, ← hN] at i2 ⊢
            have i3 : ∀ c, c ≠ 244 → c ≠ 245 → S5 c = S2 c := fun c y1 y2 => by rw [i1 c y2]; exact j1 c y1 y2
            have i4 : S5 244 = be := by rw [i1 244 (by decide)]; exact j2
            simp only [Option.toList_some, Option.toList_none, List.cons_append, List.nil_append]
            rcases hnp.1 with e | e
            · rw [if_neg (by omega)] at hz2
              rw [e]
              refine g_if_eq (t := 128) dX1_search_121 (by decide) rfl (by omega) (fun c_121 => ?_) (fun c_121 => False.elim (by omega))
              exact stop S5 i3 i4 hz2
            · rw [if_pos ⟨c_114, e⟩] at hz2
              rw [e]
              refine g_if_eq (t := 128) dX1_search_121 (by decide) rfl (by omega) (fun c_121 => False.elim (by omega)) (fun c_121 => ?_)
              refine g_iconst dX1_search_124 rfl ?_
              refine g_goto (t := 129) dX1_search_125 (by decide) ?_
              refine g_l (loc' := [some _, some _, some _, some _, some _, some _, some _, some _]) dX1_search_129 rfl rfl ?_
              refine g_iinc (loc' := [some _, some _, some _, some _, some _, some _, some _, some _]) dX1_search_131 rfl rfl rfl ?_
              refine g_goto (t := 69) dX1_search_134 (by decide) ?_
              exact ih (tried + 1) mo be (npF (Tw 0) N pl).2 _ S5 (by omega) (by omega) (by omega) j4 j5 i3 i4 i2 hnp.2 hz2
        refine g_l (loc' := [some _, some _, some _, some _, some _, some _, some _, some _]) dX1_search_86 rfl rfl ?_
        refine g_l dX1_search_88 rfl rfl ?_
        refine g_l dX1_search_90 rfl rfl ?_
        refine g_icmp_le (t := 111) dX1_search_91 (by decide) rfl (by omega) (by omega) (fun c_91 => ?_) (fun c_91 => ?_)
        · rw [if_neg (by omega)] at hz
          exact next S3 most best k1 k2 k3 a3 a4 hz
        · rw [if_pos (by omega)] at hz
          refine g_l dX1_search_94 rfl rfl ?_
          refine g_l (loc' := [some _, some _, some _, some _, some _, some _, some _, some _]) dX1_search_96 rfl rfl ?_
          refine g_l dX1_search_97 rfl rfl ?_
          refine g_getf dX1_search_98 h243 f_1_15 rfl rfl ?_
          refine g_iconst dX1_search_101 rfl ?_
          refine g_l dX1_search_102 rfl rfl ?_
          refine g_getf dX1_search_103 h243 f_1_9 rfl rfl ?_
          refine g_iconst dX1_search_106 rfl ?_
          refine g_iconst dX1_search_107 rfl ?_
          refine g_copy dX1_search_108 ac_1_66 h245 h244 rfl (by decide) q244 (Nat.le_of_ble_eq_true rfl) rfl ?_
          refine next _ r pl (fun c y1 y2 => by rw [rS_o y1]; exact k1 c y1 y2) (by rw [rS_s]; exact k3) (by rw [rS_o (by decide)]; exact k3) (by omega) (by omega) hz
    refine loop 3125 0 (-1) (S2 244) (S2 245) _ S2 (by omega) (by omega) (by omega) (by omega) (by omega) (fun _ _ _ => rfl) rfl rfl (fun i y1 y2 => ?_) rfl
    rw [g2 i y1 y2]
    have := (hk.2.1 i y1 y2).1
    split <;> omega
  have init : ∀ (m : Nat) (i : Int) (S2 : Nat → Int → Int), 0 ≤ i → i ≤ S 13 5 → (S 13 5 - i).toNat = m → (∀ c, c ≠ 245 → S2 c = S1 c) → (∀ j, 0 ≤ j → j < i → S2 245 j = if Tw 0 10 j = 0 then 0 else Tw 0 8 j) →
      G none (d + 5) 1 false (some .int) 0 0 (hO S Tw M P).length cX1_search Q 0 8 [some (.ref 243), some (.int (iI n)), some (.int (iI w)), some (.int (iI i)), none, none, none, none] [] (hO S2 T1 M P) := by
    intro m
    induction m with
    | zero =>
      intro i S2 a1 a2 hm k1 k2
      have e : i = S 13 5 := by omega
      have e132 : S2 13 = S 13 := by rw [k1 13 (by decide)]; exact e13
      refine g_l dX1_search_8 rfl rfl ?_
      refine g_l dX1_search_9 rfl rfl ?_
      refine g_getf dX1_search_10 h243 f_1_43 rfl rfl ?_
      refine g_getf dX1_search_13 h13 f_1_48 rfl rfl ?_
      rw [e132]
      refine g_icmp_ge (t := 55) dX1_search_16 (by decide) rfl (by omega) (by omega) (fun c_16 => ?_) (fun c_16 => False.elim (by omega))
      rw [e] at k2 ⊢
      exact search S2 k1 k2
    | succ m ih =>
      intro i S2 a1 a2 hm k1 k2
      have e132 : S2 13 = S 13 := by rw [k1 13 (by decide)]; exact e13
      have step : ∀ v, v = (if Tw 0 10 i = 0 then 0 else Tw 0 8 i) → G none (d + 5) 1 false (some .int) 0 0 (hO S Tw M P).length cX1_search Q 0 49 [some (.ref 243), some (.int (iI n)), some (.int (iI w)), some (.int (iI i)), none, none, none, none] [] (hO (wS S2 245 i v) T1 M P) := by
        intro v hv
        refine g_iinc (loc' := [some _, some _, some _, some _, _, _, _, _]) dX1_search_49 rfl rfl rfl ?_
        refine g_goto (t := 8) dX1_search_52 (by decide) ?_
        refine ih (i + 1) _ (by omega) (by omega) (by omega) (fun c hc => by rw [wS_o hc]; exact k1 c hc) (fun j y1 y2 => ?_)
        rw [wS_s]
        by_cases e : j = i
        · rw [if_pos e, hv, e]
        · rw [if_neg e]; exact k2 j y1 (by omega)
      refine g_l dX1_search_8 rfl rfl ?_
      refine g_l dX1_search_9 rfl rfl ?_
      refine g_getf dX1_search_10 h243 f_1_43 rfl rfl ?_
      refine g_getf dX1_search_13 h13 f_1_48 rfl rfl ?_
      rw [e132]
      refine g_icmp_ge (t := 55) dX1_search_16 (by decide) rfl (by omega) (by omega) (fun c_16 => False.elim (by omega)) (fun c_16 => ?_)
      refine g_l dX1_search_19 rfl rfl ?_
      refine g_getf dX1_search_20 h243 f_1_15 rfl rfl ?_
      refine g_l dX1_search_23 rfl rfl ?_
      refine g_l dX1_search_24 rfl rfl ?_
      refine g_l dX1_search_25 rfl rfl ?_
      refine g_callV dX1_search_26 m_1_54 (n := 1) rfl h243 rfl (Nat.le_of_ble_eq_true rfl) (Nat.le_of_ble_eq_true rfl) rfl rfl ?_
      refine s_X1_isFree ⟨a1, by omega⟩ (by rw [e0]; exact hr10 i a1 (by omega)) (fun y => ?_) (fun y => ?_)
      · rw [e0] at y
        simp only [Option.toList_some, Option.toList_none, List.cons_append, List.nil_append]
        refine g_if_eq (t := 36) dX1_search_29 (by decide) rfl (by omega) (fun c_29 => False.elim (by omega)) (fun c_29 => ?_)
        refine g_iconst dX1_search_32 rfl ?_
        refine g_goto (t := 48) dX1_search_33 (by decide) ?_
        refine g_iast dX1_search_48 h245 (by omega) (by decide) p245 rfl ?_
        exact step 0 (by rw [if_pos y])
      · rw [e0] at y
        simp only [Option.toList_some, Option.toList_none, List.cons_append, List.nil_append]
        refine g_if_eq (t := 36) dX1_search_29 (by decide) rfl (by omega) (fun c_29 => ?_) (fun c_29 => False.elim (by omega))
        refine g_l dX1_search_36 rfl rfl ?_
        refine g_getf dX1_search_37 h243 f_1_24 rfl rfl ?_
        refine g_getf dX1_search_40 (hT0 (by omega)) f_1_31 rfl rfl ?_
        refine g_getf dX1_search_43 (hT7 (by omega)) f_1_58 rfl rfl ?_
        refine g_l dX1_search_46 rfl rfl ?_
        refine g_iald dX1_search_47 (hTa8 (by omega)) (by omega) (by decide) rfl ?_
        rw [e0]
        refine g_iast dX1_search_48 h245 (by omega) (by decide) p245 rfl ?_
        exact step _ (by rw [if_neg y])
  exact init (S 13 5).toNat 0 S1 (by omega) n1 (by rw [Int.sub_zero]) (fun _ _ => rfl) (fun j y1 y2 => by omega)
end FS
