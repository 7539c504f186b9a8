/-! the reference: the book of quarters; slots -/
def sh6 (e : Int) (X : Nat → Int → Int) : Nat → Int → Int := fun o k => if o = 1 ∧ k = 6 then X 1 6 + e else X o k
theorem sh6_o {e : Int} {X : Nat → Int → Int} {o : Nat} (h : o ≠ 1) : sh6 e X o = X o := by
  funext k
  unfold sh6
  rw [if_neg (fun q => h q.1)]
theorem sh6_n {e : Int} {X : Nat → Int → Int} {o : Nat} {k : Int} (h : ¬ (o = 1 ∧ k = 6)) : sh6 e X o k = X o k := by
  unfold sh6
  rw [if_neg h]
theorem bX_sh {e w : Int} {X : Nat → Int → Int} : bX w (sh6 e X) = sh6 e (bX w X) := by
  funext o k
  by_cases h : o = 1 ∧ k = 6
  · obtain ⟨rfl, rfl⟩ := h
    show X 1 6 + e + outF (X 1 5) (X 3) (X 4) (X 2) = X 1 6 + outF (X 1 5) (X 3) (X 4) (X 2) + e
    omega
  · rw [sh6_n h]
    show (if o = 2 then nhF (X 1 5) (X 3) (X 4) w (X 2) k else if o = 5 then X 2 k else if o = 6 then cmF (X 3) (X 2) w k else if o = 1 ∧ k = 6 then X 1 6 + e + outF (X 1 5) (X 3) (X 4) (X 2) else sh6 e X o k) = (if o = 2 then nhF (X 1 5) (X 3) (X 4) w (X 2) k else if o = 5 then X 2 k else if o = 6 then cmF (X 3) (X 2) w k else if o = 1 ∧ k = 6 then X 1 6 + outF (X 1 5) (X 3) (X 4) (X 2) else X o k)
    rw [if_neg h, if_neg h, sh6_n h]
theorem blX_sh {e : Int} {X : Nat → Int → Int} : blX (sh6 e X) = sh6 e (blX X) := by
  funext o k
  by_cases h : o = 1 ∧ k = 6
  · obtain ⟨rfl, rfl⟩ := h
    rfl
  · rw [sh6_n h]
    show (if o = 2 then blF (X 1 5) (X 2) k else sh6 e X o k) = (if o = 2 then blF (X 1 5) (X 2) k else X o k)
    rw [sh6_n h]
theorem gZ_sh {e w b : Int} {X : Nat → Int → Int} : gZ w b (sh6 e X) = sh6 e (gZ w b X) := by
  unfold gZ
  split
  · rw [bX_sh, blX_sh]
  · rw [bX_sh]
theorem lX_sh {S : Nat → Int → Int} {e : Int} {X : Nat → Int → Int} : lX S (sh6 e X) = sh6 e (lX S X) := by
  have hs : ∀ k, sbF S (sh6 e X) k = sbF S X k := fun k => sbF_congr (sh6_o (by decide))
  funext o k
  by_cases h : o = 1 ∧ k = 6
  · obtain ⟨rfl, rfl⟩ := h
    rfl
  · rw [sh6_n h]
    unfold lX nHas nHow
    rw [hs, sh6_n h, sh6_o (show (8 : Nat) ≠ 1 by decide), sh6_o (show (9 : Nat) ≠ 1 by decide), sh6_o (show (10 : Nat) ≠ 1 by decide), sh6_o (show (2 : Nat) ≠ 1 by decide), sh6_o (show (5 : Nat) ≠ 1 by decide), sh6_o (show (6 : Nat) ≠ 1 by decide)]
theorem gX_sh {S : Nat → Int → Int} {e w b : Int} {X : Nat → Int → Int} : gX S w b (sh6 e X) = sh6 e (gX S w b X) := by
  unfold gX
  rw [gZ_sh, lX_sh]
theorem fX_sh {S : Nat → Int → Int} {e w : Int} {X : Nat → Int → Int} : fX S w (sh6 e X) = sh6 e (fX S w X) := gX_sh (b := 0)
theorem itX_sh {S : Nat → Int → Int} {e w : Int} {X : Nat → Int → Int} : ∀ n : Nat, itX S w (sh6 e X) n = sh6 e (itX S w X n)
  | 0 => rfl
  | n + 1 => by
    show fX S w (itX S w (sh6 e X) n) = sh6 e (fX S w (itX S w X n))
    rw [itX_sh n, fX_sh]
theorem sh6_ok {S : Nat → Int → Int} {e B : Int} {X : Nat → Int → Int} (h : twOk S X B) : twOk S (sh6 e X) B := h
/-- what the reference's questions leave -/
def quFr (M M' : Nat → Int → Int) : Prop := (∀ c, c ≠ 0 → ¬ (13 ≤ c ∧ c ≤ 15) → ¬ (19 ≤ c ∧ c ≤ 24) → c ≠ 30 → c ≠ 31 → M' c = M c) ∧ ∀ j, (j = 2 ∨ j = 4 ∨ j = 5 ∨ j = 17 ∨ j = 25 ∨ j = 35) → M' 0 j = M 0 j
theorem quFr.rf {M : Nat → Int → Int} : quFr M M := ⟨fun _ _ _ _ _ _ => rfl, fun _ _ => rfl⟩
theorem quFr.tr {M M' M2 : Nat → Int → Int} (h : quFr M M') (g : quFr M' M2) : quFr M M2 := ⟨fun c a1 a2 a3 a4 a5 => (g.1 c a1 a2 a3 a4 a5).trans (h.1 c a1 a2 a3 a4 a5), fun j hj => (g.2 j hj).trans (h.2 j hj)⟩
theorem thP.q {M M' : Nat → Int → Int} (h : thP M M') : quFr M M' := ⟨fun c a1 _ _ _ _ => h.1 c a1, fun j hj => h.2 j (by omega)⟩
theorem goFr.q {M M' : Nat → Int → Int} (h : goFr M M') : quFr M M' := ⟨fun c a1 _ a2 _ _ => h.1 c a1 (by omega) (by omega) (by omega) (by omega) (by omega), fun j hj => h.2 j (by omega)⟩
theorem bgP.q {M M' : Nat → Int → Int} (h : bgP M M') : quFr M M' := ⟨fun c a1 _ a2 _ _ => h.1 c a1 (by omega) (by omega) (by omega) (by omega), fun j hj => h.2.1 j (by omega)⟩
theorem quFr.d {S0 M M' : Nat → Int → Int} (h : quFr M M') (ht : tdP S0 M) : tdP S0 M' := by
  unfold tdP at *
  rw [h.2 5 (by decide), h.1 6 (by decide) (by decide) (by decide) (by decide) (by decide), h.1 7 (by decide) (by decide) (by decide) (by decide) (by decide), h.1 8 (by decide) (by decide) (by decide) (by decide) (by decide), h.1 9 (by decide) (by decide) (by decide) (by decide) (by decide), h.1 10 (by decide) (by decide) (by decide) (by decide) (by decide)]
  exact ht
theorem quFr.n {M M' : Nat → Int → Int} (h : quFr M M') : nX M' = nX M := by
  funext o k
  unfold nX
  rw [h.2 4 (by decide), h.2 17 (by decide), h.1 4 (by decide) (by decide) (by decide) (by decide) (by decide), h.1 2 (by decide) (by decide) (by decide) (by decide) (by decide), h.1 3 (by decide) (by decide) (by decide) (by decide) (by decide), h.1 5 (by decide) (by decide) (by decide) (by decide) (by decide), h.1 11 (by decide) (by decide) (by decide) (by decide) (by decide), h.1 12 (by decide) (by decide) (by decide) (by decide) (by decide)]
/-- behind begin the reference looks at what is now -/
theorem bgP.a {S0 M M' X : Nat → Int → Int} (h : bgP M M') (ht : tdP S0 M) (ha : agr S0 (nX M) X) : agr S0 (mX M') (sh6 (-(X 1 6)) X) := by
  obtain ⟨g1, g2, g3, g4, g5⟩ := h
  obtain ⟨a1, a2, a3, a4⟩ := ha
  refine ⟨?_, ?_, fun k y1 y2 => ⟨?_, ?_, ?_⟩, fun p y1 y2 => ?_⟩
  · show M' 0 4 = X 1 5
    rw [g2 4 (by decide)]; exact a1
  · show M' 0 34 = X 1 6 + -(X 1 6)
    omega
  · show (if k < M' 0 4 then M' 19 k else M' 4 k) = X 2 k
    rw [g2 4 (by decide), g1 4 (by decide) (by decide) (by decide) (by decide) (by decide)]
    by_cases c : k < M 0 4
    · rw [if_pos c, g4 k y1 c]; exact (a3 k y1 y2).1
    · rw [if_neg c]; exact (a3 k y1 y2).1
  · show M' 2 k = X 3 k
    rw [g1 2 (by decide) (by decide) (by decide) (by decide) (by decide)]; exact (a3 k y1 y2).2.1
  · show M' 3 k = X 4 k
    rw [g1 3 (by decide) (by decide) (by decide) (by decide) (by decide)]; exact (a3 k y1 y2).2.2
  · obtain ⟨z1, z2, z3⟩ := g5 p y1 (by rw [← ht.1]; exact y2)
    obtain ⟨x1, x2, x3⟩ := a4 p y1 y2
    exact ⟨z3.trans x1, z1.trans x2, z2.trans x3⟩
/-- where the page stands on which the next quarter is noted -/
def noQ (q : Int) : Int := if q = 12 then 11 else q
/-- what note does to the book -/
def noP (M M' : Nat → Int → Int) : Prop := (∀ k, 0 ≤ k → k < 5 → M' 16 (16 * noQ (M 0 25) + k) = M 4 k ∧ M' 16 (16 * noQ (M 0 25) + 5 + k) = M 11 k ∧ M' 16 (16 * noQ (M 0 25) + 10 + k) = M 12 k) ∧ M' 16 (16 * noQ (M 0 25) + 15) = M 0 17 ∧ M' 0 25 = noQ (M 0 25) + 1 ∧ ∀ j, 0 ≤ j → j < 16 * noQ (M 0 25) → M' 16 j = (if M 0 25 = 12 then M 16 (j + 16) else M 16 j)
section RE
variable {S : Nat → Int → Int} {Tw : Nat → Nat → Int → Int} {M : Nat → Int → Int} {P : Nat → Nat} {d : Nat} {Q : Option Value → GH → Prop}
set_option maxHeartbeats 2000000 in
theorem s_X12_note (hb : 0 ≤ M 0 25 ∧ M 0 25 ≤ 12) (hq : ∀ M', (∀ c, c ≠ 0 → c ≠ 16 → M' c = M c) → (∀ j, j ≠ 25 → M' 0 j = M 0 j) → noP M M' → Q none (hO S Tw M' P)) : CallD (d + 1) 142 [.ref 248] (hO S Tw M P) Q := by
  refine g_enter (loc := [some _, _, _]) e_X12_note i_X12_note (Nat.le_of_ble_eq_true rfl) rfl ?_
  have page : ∀ (M1 : Nat → Int → Int) (a1 : Option Value), (∀ c, c ≠ 0 → c ≠ 16 → M1 c = M c) → (∀ j, j ≠ 25 → M1 0 j = M 0 j) → M1 0 25 = noQ (M 0 25) → (∀ j, 0 ≤ j → j < 16 * noQ (M 0 25) → M1 16 j = (if M 0 25 = 12 then M 16 (j + 16) else M 16 j)) →
      G none d 12 false none 0 0 (hO S Tw M P).length cX12_note Q 0 49 [some (.ref 248), a1, none] [] (hO S Tw M1 P) := by
    intro M1 a1 f1 f2 f3 f4
    have hq25 : 0 ≤ noQ (M 0 25) ∧ noQ (M 0 25) ≤ 11 := by
      unfold noQ
      split <;> omega
    unfold noP at hq
    generalize noQ (M 0 25) = at' at f3 f4 hq25 hq
    refine g_bipush dX12_note_49 (by decide) rfl ?_
    refine g_l dX12_note_51 rfl rfl ?_
    refine g_getf dX12_note_52 h248 f_12_159 rfl rfl ?_
    rw [f3]
    refine g_imul dX12_note_55 rfl ?_
    refine g_l (loc' := [some _, some _, _]) dX12_note_56 rfl rfl ?_
    refine g_iconst dX12_note_57 rfl ?_
    refine g_l (loc' := [some _, some _, some _]) dX12_note_58 rfl rfl ?_
    have loop : ∀ (m : Nat) (i : Int) (M2 : Nat → Int → Int), 0 ≤ i → i ≤ 5 → (5 - i).toNat = m → (∀ c, c ≠ 0 → c ≠ 16 → M2 c = M c) → M2 0 = M1 0 → (∀ j, 0 ≤ j → j < 16 * at' → M2 16 j = (if M 0 25 = 12 then M 16 (j + 16) else M 16 j)) → (∀ k, 0 ≤ k → k < i → M2 16 (16 * at' + k) = M 4 k ∧ M2 16 (16 * at' + 5 + k) = M 11 k ∧ M2 16 (16 * at' + 10 + k) = M 12 k) →
        G none d 12 false none 0 0 (hO S Tw M P).length cX12_note Q 0 59 [some (.ref 248), some (.int (iI (16 * at'))), some (.int (iI i))] [] (hO S Tw M2 P) := by
      intro m
      induction m with
      | zero =>
        intro i M2 b1 b2 hm g1 g2 g3 g4
        have t0 : ∀ v, wS M2 16 (16 * at' + 15) v 0 = M1 0 := fun v => by rw [wS_o (by decide)]; exact g2
        refine g_l dX12_note_59 rfl rfl ?_
        refine g_iconst dX12_note_60 rfl ?_
        refine g_icmp_ge (t := 117) dX12_note_61 (by decide) rfl (by omega) (by omega) (fun c_61 => ?_) (fun c_61 => False.elim (by omega))
        refine g_l dX12_note_117 rfl rfl ?_
        refine g_getf dX12_note_118 h248 f_12_59 rfl rfl ?_
        refine g_l dX12_note_121 rfl rfl ?_
        refine g_bipush dX12_note_122 (by decide) rfl ?_
        refine g_iadd dX12_note_124 rfl ?_
        refine g_l dX12_note_125 rfl rfl ?_
        refine g_getf dX12_note_126 h248 f_12_156 rfl rfl ?_
        rw [g2, f2 17 (by decide)]
        refine g_iast dX12_note_129 h264 (by omega) (by decide) p264 rfl ?_
        refine g_l dX12_note_130 rfl rfl ?_
        refine g_s dX12_note_131 rfl rfl rfl ?_
        refine g_getf dX12_note_132 h248 f_12_159 rfl rfl ?_
        rw [t0, f3]
        refine g_iconst dX12_note_135 rfl ?_
        refine g_iadd dX12_note_136 rfl ?_
        refine g_putf dX12_note_137 h248 f_12_159 (Nat.le_of_ble_eq_true rfl) rfl rfl p248_25 rfl ?_
        refine g_retV dX12_note_140 rfl rfl ?_
        refine hq _ (fun c y1 y2 => ?_) (fun j hj => ?_) ⟨fun k y1 y2 => ?_, ?_, ?_, fun j y1 y2 => ?_⟩
        · rw [wS_o y1, wS_o y2]; exact g1 c y1 y2
        · rw [wS_s, if_neg hj, t0]; exact f2 j hj
        · rw [wS_o (by decide), wS_s, wS_s, wS_s, if_neg (by omega), if_neg (by omega), if_neg (by omega)]
          exact g4 k y1 (by omega)
        · rw [wS_o (by decide), wS_e]
        · rw [wS_e]
        · rw [wS_o (by decide), wS_s, if_neg (by omega)]
          exact g3 j y1 y2
      | succ m ih =>
        intro i M2 b1 b2 hm g1 g2 g3 g4
        have e4 : M2 4 = M 4 := g1 4 (by decide) (by decide)
        have e11 : M2 11 = M 11 := g1 11 (by decide) (by decide)
        have e12 : M2 12 = M 12 := g1 12 (by decide) (by decide)
        refine g_l dX12_note_59 rfl rfl ?_
        refine g_iconst dX12_note_60 rfl ?_
        refine g_icmp_ge (t := 117) dX12_note_61 (by decide) rfl (by omega) (by omega) (fun c_61 => False.elim (by omega)) (fun c_61 => ?_)
        refine g_l dX12_note_64 rfl rfl ?_
        refine g_getf dX12_note_65 h248 f_12_59 rfl rfl ?_
        refine g_l dX12_note_68 rfl rfl ?_
        refine g_l dX12_note_69 rfl rfl ?_
        refine g_iadd dX12_note_70 rfl ?_
        refine g_l dX12_note_71 rfl rfl ?_
        refine g_getf dX12_note_72 h248 f_12_23 rfl rfl ?_
        refine g_l dX12_note_75 rfl rfl ?_
        refine g_iald dX12_note_76 h252 (by omega) (by decide) rfl ?_
        refine g_iast dX12_note_77 h264 (by omega) (by decide) p264 rfl ?_
        refine g_l dX12_note_78 rfl rfl ?_
        refine g_getf dX12_note_79 h248 f_12_59 rfl rfl ?_
        refine g_l dX12_note_82 rfl rfl ?_
        refine g_iconst dX12_note_83 rfl ?_
        refine g_iadd dX12_note_84 rfl ?_
        refine g_l dX12_note_85 rfl rfl ?_
        refine g_iadd dX12_note_86 rfl ?_
        refine g_l dX12_note_87 rfl rfl ?_
        refine g_getf dX12_note_88 h248 f_12_44 rfl rfl ?_
        refine g_l dX12_note_91 rfl rfl ?_
        refine g_iald dX12_note_92 h259 (by omega) (by decide) rfl ?_
        refine g_iast dX12_note_93 h264 (by omega) (by decide) p264 rfl ?_
        refine g_l dX12_note_94 rfl rfl ?_
        refine g_getf dX12_note_95 h248 f_12_59 rfl rfl ?_
        refine g_l dX12_note_98 rfl rfl ?_
        refine g_bipush dX12_note_99 (by decide) rfl ?_
        refine g_iadd dX12_note_101 rfl ?_
        refine g_l dX12_note_102 rfl rfl ?_
        refine g_iadd dX12_note_103 rfl ?_
        refine g_l dX12_note_104 rfl rfl ?_
        refine g_getf dX12_note_105 h248 f_12_47 rfl rfl ?_
        refine g_l dX12_note_108 rfl rfl ?_
        refine g_iald dX12_note_109 h260 (by omega) (by decide) rfl ?_
        refine g_iast dX12_note_110 h264 (by omega) (by decide) p264 rfl ?_
        refine g_iinc (loc' := [some _, some _, some _]) dX12_note_111 rfl rfl rfl ?_
        refine g_goto (t := 59) dX12_note_114 (by decide) ?_
        refine ih (i + 1) _ (by omega) (by omega) (by omega) (fun c y1 y2 => ?_) ?_ (fun j y1 y2 => ?_) (fun k y1 y2 => ?_)
        · rw [wS_o y2, wS_o y2, wS_o y2]; exact g1 c y1 y2
        · rw [wS_o (by decide), wS_o (by decide), wS_o (by decide)]; exact g2
        · rw [wS_s, if_neg (by omega), wS_s, if_neg (by omega), wS_s, if_neg (by omega)]
          exact g3 j y1 y2
        · simp only [wS_s, wS_o (show (11 : Nat) ≠ 16 by decide), wS_o (show (12 : Nat) ≠ 16 by decide), e4, e11, e12]
          by_cases c : k = i
          · rw [c, if_neg (by omega), if_neg (by omega), if_pos rfl, if_neg (by omega), if_pos rfl, if_pos rfl]
            exact ⟨rfl, rfl, rfl⟩
          · rw [if_neg (by omega), if_neg (by omega), if_neg (by omega), if_neg (by omega), if_neg (by omega), if_neg (by omega), if_neg (by omega), if_neg (by omega), if_neg (by omega)]
            exact g4 k y1 (by omega)
    exact loop 5 0 M1 (by omega) (by omega) rfl f1 rfl f4 (fun k y1 y2 => by omega)
  refine g_l dX12_note_0 rfl rfl ?_
  refine g_getf dX12_note_1 h248 f_12_159 rfl rfl ?_
  refine g_bipush dX12_note_4 (by decide) rfl ?_
  refine g_icmp_ne (t := 49) dX12_note_6 (by decide) rfl (by omega) (by omega) (fun c_6 => ?_) (fun c_6 => ?_)
  · have e : noQ (M 0 25) = M 0 25 := by unfold noQ; rw [if_neg c_6]
    refine page M none (fun _ _ _ => rfl) (fun _ _ => rfl) e.symm (fun j y1 y2 => ?_)
    rw [if_neg c_6]
  · have e : noQ (M 0 25) = 11 := by unfold noQ; rw [if_pos c_6]
    refine g_iconst dX12_note_9 rfl ?_
    refine g_l (loc' := [some _, some _, _]) dX12_note_10 rfl rfl ?_
    have loop : ∀ (m : Nat) (i : Int) (M1 : Nat → Int → Int), 0 ≤ i → i ≤ 176 → (176 - i).toNat = m → (∀ c, c ≠ 16 → M1 c = M c) → (∀ j, M1 16 j = (if 0 ≤ j ∧ j < i then M 16 (j + 16) else M 16 j)) →
        G none d 12 false none 0 0 (hO S Tw M P).length cX12_note Q 0 11 [some (.ref 248), some (.int (iI i)), none] [] (hO S Tw M1 P) := by
      intro m
      induction m with
      | zero =>
        intro i M1 b1 b2 hm f1 f2
        have e0 : M1 0 = M 0 := f1 0 (by decide)
        refine g_l dX12_note_11 rfl rfl ?_
        refine g_sipush dX12_note_12 (by decide) rfl ?_
        refine g_icmp_ge (t := 39) dX12_note_15 (by decide) rfl (by omega) (by omega) (fun c_15 => ?_) (fun c_15 => False.elim (by omega))
        refine g_l dX12_note_39 rfl rfl ?_
        refine g_s dX12_note_40 rfl rfl rfl ?_
        refine g_getf dX12_note_41 h248 f_12_159 rfl rfl ?_
        rw [e0, c_6]
        refine g_iconst dX12_note_44 rfl ?_
        refine g_isub dX12_note_45 rfl ?_
        refine g_putf dX12_note_46 h248 f_12_159 (Nat.le_of_ble_eq_true rfl) rfl rfl p248_25 rfl ?_
        refine page _ _ (fun c y1 y2 => ?_) (fun j hj => ?_) ?_ (fun j y1 y2 => ?_)
        · rw [wS_o y1]; exact f1 c y2
        · rw [wS_s, if_neg hj, e0]
        · rw [wS_e, e]; rfl
        · rw [wS_o (by decide), f2, if_pos (by omega), if_pos c_6]
      | succ m ih =>
        intro i M1 b1 b2 hm f1 f2
        have e1 : M1 16 (i + 16) = M 16 (i + 16) := by rw [f2, if_neg (by omega)]
        refine g_l dX12_note_11 rfl rfl ?_
        refine g_sipush dX12_note_12 (by decide) rfl ?_
        refine g_icmp_ge (t := 39) dX12_note_15 (by decide) rfl (by omega) (by omega) (fun c_15 => False.elim (by omega)) (fun c_15 => ?_)
        refine g_l dX12_note_18 rfl rfl ?_
        refine g_getf dX12_note_19 h248 f_12_59 rfl rfl ?_
        refine g_l dX12_note_22 rfl rfl ?_
        refine g_l dX12_note_23 rfl rfl ?_
        refine g_getf dX12_note_24 h248 f_12_59 rfl rfl ?_
        refine g_l dX12_note_27 rfl rfl ?_
        refine g_bipush dX12_note_28 (by decide) rfl ?_
        refine g_iadd dX12_note_30 rfl ?_
        refine g_iald dX12_note_31 h264 (by omega) (by decide) rfl ?_
        rw [e1]
        refine g_iast dX12_note_32 h264 (by omega) (by decide) p264 rfl ?_
        refine g_iinc (loc' := [some _, some _, _]) dX12_note_33 rfl rfl rfl ?_
        refine g_goto (t := 11) dX12_note_36 (by decide) ?_
        refine ih (i + 1) _ (by omega) (by omega) (by omega) (fun c y => by rw [wS_o y]; exact f1 c y) (fun j => ?_)
        rw [wS_s]
        by_cases c : j = i
        · rw [if_pos c, if_pos (by omega), c]
        · rw [if_neg c, f2]
          by_cases c2 : 0 ≤ j ∧ j < i
          · rw [if_pos c2, if_pos (by omega)]
          · rw [if_neg c2, if_neg (by omega)]
    exact loop 176 0 M (by omega) (by omega) rfl (fun _ _ => rfl) (fun j => by rw [if_neg (by omega)])
theorem s_X12_undo (hb : 0 ≤ M 0 25 ∧ M 0 25 ≤ 12) (q1 : M 0 25 = 0 → ∀ M1, thP M M1 → Q (some (.int (iI (-3)))) (hO S Tw M1 P))
    (q2 : 0 < M 0 25 → ∀ M', (∀ c, c ≠ 0 → c ≠ 4 → c ≠ 11 → c ≠ 12 → M' c = M c) → (∀ j, j ≠ 0 → j ≠ 17 → j ≠ 25 → M' 0 j = M 0 j) → M' 0 25 = M 0 25 - 1 → M' 0 17 = M 16 (16 * (M 0 25 - 1) + 15) → (∀ k, 0 ≤ k → k < 5 → M' 4 k = M 16 (16 * (M 0 25 - 1) + k) ∧ M' 11 k = M 16 (16 * (M 0 25 - 1) + 5 + k) ∧ M' 12 k = M 16 (16 * (M 0 25 - 1) + 10 + k)) → Q (some (.int (iI (M 0 25 - 1)))) (hO S Tw M' P)) : CallD (d + 1) 144 [.ref 248] (hO S Tw M P) Q := by
  refine g_enter (loc := [some _, _, _]) e_X12_undo i_X12_undo (Nat.le_of_ble_eq_true rfl) rfl ?_
  refine g_l dX12_undo_0 rfl rfl ?_
  refine g_iconst dX12_undo_1 rfl ?_
  refine g_putf dX12_undo_2 h248 f_12_108 (Nat.le_of_ble_eq_true rfl) rfl rfl p248_0 rfl ?_
  have h1 := thP_w (M := M)
  generalize wS M 0 0 0 = M1 at h1 ⊢
  obtain ⟨o1, z1⟩ := id h1
  have z25 : M1 0 25 = M 0 25 := z1 25 (by decide)
  refine g_l dX12_undo_5 rfl rfl ?_
  refine g_getf dX12_undo_6 h248 f_12_159 rfl rfl ?_
  rw [z25]
  refine g_if_ne (t := 15) dX12_undo_9 (by decide) rfl (by omega) (fun c_9 => ?_) (fun c_9 => ?_)
  · refine g_l dX12_undo_15 rfl rfl ?_
    refine g_s dX12_undo_16 rfl rfl rfl ?_
    refine g_getf dX12_undo_17 h248 f_12_159 rfl rfl ?_
    rw [z25]
    refine g_iconst dX12_undo_20 rfl ?_
    refine g_isub dX12_undo_21 rfl ?_
    refine g_putf dX12_undo_22 h248 f_12_159 (Nat.le_of_ble_eq_true rfl) rfl rfl p248_25 rfl ?_
    refine g_bipush dX12_undo_25 (by decide) rfl ?_
    refine g_l dX12_undo_27 rfl rfl ?_
    refine g_getf dX12_undo_28 h248 f_12_159 rfl rfl ?_
    rw [wS_e]
    refine g_imul dX12_undo_31 rfl ?_
    refine g_l (loc' := [some _, some _, _]) dX12_undo_32 rfl rfl ?_
    refine g_iconst dX12_undo_33 rfl ?_
    refine g_l (loc' := [some _, some _, some _]) dX12_undo_34 rfl rfl ?_
    obtain ⟨q, hq0⟩ : ∃ q, q = M 0 25 - 1 := ⟨_, rfl⟩
    rw [← hq0] at q2 ⊢
    have loop : ∀ (m : Nat) (i : Int) (M2 : Nat → Int → Int), 0 ≤ i → i ≤ 5 → (5 - i).toNat = m → (∀ c, c ≠ 0 → c ≠ 4 → c ≠ 11 → c ≠ 12 → M2 c = M c) → (∀ j, j ≠ 0 → j ≠ 25 → M2 0 j = M 0 j) → M2 0 25 = q → (∀ k, 0 ≤ k → k < i → M2 4 k = M 16 (16 * q + k) ∧ M2 11 k = M 16 (16 * q + 5 + k) ∧ M2 12 k = M 16 (16 * q + 10 + k)) →
        G none d 12 false (some .int) 0 0 (hO S Tw M P).length cX12_undo Q 0 35 [some (.ref 248), some (.int (iI (16 * q))), some (.int (iI i))] [] (hO S Tw M2 P) := by
      intro m
      induction m with
      | zero =>
        intro i M2 b1 b2 hm f1 f2 f3 f4
        have e16 : M2 16 = M 16 := f1 16 (by decide) (by decide) (by decide) (by decide)
        have t25 : ∀ v, wS M2 0 17 v 0 25 = q := fun v => by rw [wS_s, if_neg (by decide)]; exact f3
        refine g_l dX12_undo_35 rfl rfl ?_
        refine g_iconst dX12_undo_36 rfl ?_
        refine g_icmp_ge (t := 93) dX12_undo_37 (by decide) rfl (by omega) (by omega) (fun c_37 => ?_) (fun c_37 => False.elim (by omega))
        refine g_l dX12_undo_93 rfl rfl ?_
        refine g_l dX12_undo_94 rfl rfl ?_
        refine g_getf dX12_undo_95 h248 f_12_59 rfl rfl ?_
        refine g_l dX12_undo_98 rfl rfl ?_
        refine g_bipush dX12_undo_99 (by decide) rfl ?_
        refine g_iadd dX12_undo_101 rfl ?_
        refine g_iald dX12_undo_102 h264 (by omega) (by decide) rfl ?_
        refine g_putf dX12_undo_103 h248 f_12_156 (Nat.le_of_ble_eq_true rfl) rfl rfl p248_17 rfl ?_
        refine g_l dX12_undo_106 rfl rfl ?_
        refine g_getf dX12_undo_107 h248 f_12_159 rfl rfl ?_
        rw [t25]
        refine g_retI dX12_undo_110 rfl rfl ?_
        refine q2 (by omega) _ (fun c y1 y2 y3 y4 => ?_) (fun j y1 y2 y3 => ?_) (t25 _) ?_ (fun k y1 y2 => ?_)
        · rw [wS_o y1]; exact f1 c y1 y2 y3 y4
        · rw [wS_s, if_neg y2]; exact f2 j y1 y3
        · rw [wS_e, e16]
        · rw [wS_o (show (4 : Nat) ≠ 0 by decide), wS_o (show (11 : Nat) ≠ 0 by decide), wS_o (show (12 : Nat) ≠ 0 by decide)]
          exact f4 k y1 (by omega)
      | succ m ih =>
        intro i M2 b1 b2 hm f1 f2 f3 f4
        have e16 : M2 16 = M 16 := f1 16 (by decide) (by decide) (by decide) (by decide)
        refine g_l dX12_undo_35 rfl rfl ?_
        refine g_iconst dX12_undo_36 rfl ?_
        refine g_icmp_ge (t := 93) dX12_undo_37 (by decide) rfl (by omega) (by omega) (fun c_37 => False.elim (by omega)) (fun c_37 => ?_)
        refine g_l dX12_undo_40 rfl rfl ?_
        refine g_getf dX12_undo_41 h248 f_12_23 rfl rfl ?_
        refine g_l dX12_undo_44 rfl rfl ?_
        refine g_l dX12_undo_45 rfl rfl ?_
        refine g_getf dX12_undo_46 h248 f_12_59 rfl rfl ?_
        refine g_l dX12_undo_49 rfl rfl ?_
        refine g_l dX12_undo_50 rfl rfl ?_
        refine g_iadd dX12_undo_51 rfl ?_
        refine g_iald dX12_undo_52 h264 (by omega) (by decide) rfl ?_
        refine g_iast dX12_undo_53 h252 (by omega) (by decide) p252 rfl ?_
        refine g_l dX12_undo_54 rfl rfl ?_
        refine g_getf dX12_undo_55 h248 f_12_44 rfl rfl ?_
        refine g_l dX12_undo_58 rfl rfl ?_
        refine g_l dX12_undo_59 rfl rfl ?_
        refine g_getf dX12_undo_60 h248 f_12_59 rfl rfl ?_
        refine g_l dX12_undo_63 rfl rfl ?_
        refine g_iconst dX12_undo_64 rfl ?_
        refine g_iadd dX12_undo_65 rfl ?_
        refine g_l dX12_undo_66 rfl rfl ?_
        refine g_iadd dX12_undo_67 rfl ?_
        refine g_iald dX12_undo_68 h264 (by omega) (by decide) rfl ?_
        refine g_iast dX12_undo_69 h259 (by omega) (by decide) p259 rfl ?_
        refine g_l dX12_undo_70 rfl rfl ?_
        refine g_getf dX12_undo_71 h248 f_12_47 rfl rfl ?_
        refine g_l dX12_undo_74 rfl rfl ?_
        refine g_l dX12_undo_75 rfl rfl ?_
        refine g_getf dX12_undo_76 h248 f_12_59 rfl rfl ?_
        refine g_l dX12_undo_79 rfl rfl ?_
        refine g_bipush dX12_undo_80 (by decide) rfl ?_
        refine g_iadd dX12_undo_82 rfl ?_
        refine g_l dX12_undo_83 rfl rfl ?_
        refine g_iadd dX12_undo_84 rfl ?_
        refine g_iald dX12_undo_85 h264 (by omega) (by decide) rfl ?_
        refine g_iast dX12_undo_86 h260 (by omega) (by decide) p260 rfl ?_
        refine g_iinc (loc' := [some _, some _, some _]) dX12_undo_87 rfl rfl rfl ?_
        refine g_goto (t := 35) dX12_undo_90 (by decide) ?_
        refine ih (i + 1) _ (by omega) (by omega) (by omega) (fun c y1 y2 y3 y4 => ?_) (fun j y1 y2 => ?_) ?_ (fun k y1 y2 => ?_)
        · rw [wS_o y4, wS_o y3, wS_o y2]; exact f1 c y1 y2 y3 y4
        · rw [wS_o (by decide), wS_o (by decide), wS_o (by decide)]; exact f2 j y1 y2
        · rw [wS_o (by decide), wS_o (by decide), wS_o (by decide)]; exact f3
        · simp only [wS_s, wS_o (show (4 : Nat) ≠ 12 by decide), wS_o (show (4 : Nat) ≠ 11 by decide), wS_o (show (11 : Nat) ≠ 12 by decide), wS_o (show (16 : Nat) ≠ 11 by decide), wS_o (show (16 : Nat) ≠ 4 by decide), wS_o (show (11 : Nat) ≠ 4 by decide), wS_o (show (12 : Nat) ≠ 11 by decide), wS_o (show (12 : Nat) ≠ 4 by decide), e16]
          by_cases c : k = i
          · rw [if_pos c, if_pos c, if_pos c, c]; exact ⟨rfl, rfl, rfl⟩
          · rw [if_neg c, if_neg c, if_neg c]; exact f4 k y1 (by omega)
    refine loop 5 0 _ (by omega) (by omega) rfl (fun c y1 y2 y3 y4 => ?_) (fun j y1 y2 => ?_) ?_ (fun k y1 y2 => by omega)
    · rw [wS_o y1]; exact o1 c y1
    · rw [wS_s, if_neg y2]; exact z1 j y1
    · rw [wS_e]
  · refine g_bipush dX12_undo_12 (by decide) rfl ?_
    refine g_retI dX12_undo_14 rfl rfl ?_
    exact q1 (by omega) M1 h1
end RE
