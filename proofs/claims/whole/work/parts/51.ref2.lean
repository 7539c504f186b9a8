/-! the reference: a quarter -/
/-- the reference has told what S has -/
def tdP (S M : Nat → Int → Int) : Prop := S 13 5 = M 0 5 ∧ ∀ p, 0 ≤ p → p < M 0 5 → S 14 p = M 6 p ∧ S 15 p = M 7 p ∧ S 16 p = M 8 p ∧ S 17 p = M 9 p ∧ S 18 p = M 10 p
/-- what is looked at, as a tower -/
def mX (M : Nat → Int → Int) : Nat → Int → Int := fun o k => if o = 1 then (if k = 5 then M 0 4 else if k = 6 then M 0 34 else 0) else if o = 2 then (if k < M 0 4 then M 19 k else M 4 k) else if o = 3 then M 2 k else if o = 4 then M 3 k else if o = 8 then M 24 k else if o = 9 then M 22 k else if o = 10 then M 23 k else 0
/-- all as it is now, as a tower -/
def nX (M : Nat → Int → Int) : Nat → Int → Int := fun o k => if o = 1 then (if k = 5 then M 0 4 else if k = 6 then M 0 17 else 0) else if o = 2 then M 4 k else if o = 3 then M 2 k else if o = 4 then M 3 k else if o = 8 then M 5 k else if o = 9 then M 11 k else if o = 10 then M 12 k else 0
/-- a quarter, with a gale or not -/
def gZ (w b : Int) (X : Nat → Int → Int) : Nat → Int → Int := if b = 1 then blX (bX w X) else bX w X
noncomputable def gX (S : Nat → Int → Int) (w b : Int) (X : Nat → Int → Int) : Nat → Int → Int := lX S (gZ w b X)
theorem gX_0 {S : Nat → Int → Int} {w : Int} {X : Nat → Int → Int} : gX S w 0 X = fX S w X := rfl
theorem nhF_lo {n w : Int} {s dm h h' : Int → Int} (hh : ∀ k, 0 ≤ k → k < n → h k = h' k) : ∀ k, 0 ≤ k → k < n → nhF n s dm w h k = nhF n s dm w h' k := by
  intro k a b
  unfold nhF cmF upF awF
  have hc : 0 ≤ k ∧ k < n := ⟨a, b⟩
  rw [if_pos hc, if_pos hc, hh k a b]
  by_cases c : k = 0
  · rw [if_pos c, if_pos c]
  · rw [if_neg c, if_neg c, hh (k - 1) (by omega) (by omega)]
theorem outF_lo {n : Int} {s dm h h' : Int → Int} (hn : 1 ≤ n) (hh : ∀ k, 0 ≤ k → k < n → h k = h' k) : outF n s dm h = outF n s dm h' := by
  have e : ∀ m : Nat, (m : Int) ≤ n → sumF (awF dm h) m = sumF (awF dm h') m := by
    intro m
    induction m with
    | zero => intro _; rfl
    | succ m ih =>
      intro hm
      show sumF (awF dm h) m + awF dm h m = sumF (awF dm h') m + awF dm h' m
      rw [ih (by omega)]
      unfold awF
      rw [hh m (by omega) (by omega)]
  unfold outF
  rw [e n.toNat (by omega)]
  unfold upF
  rw [hh (n - 1) (by omega) (by omega)]
/-- kilns that are looked at burn well -/
def hkOk (M : Nat → Int → Int) : Prop := (2 ≤ M 0 4 ∧ M 0 4 ≤ 5) ∧ ∀ k, 0 ≤ k → k < M 0 4 → (0 ≤ M 19 k ∧ M 19 k ≤ 10000000) ∧ 0 ≤ M 2 k ∧ 0 ≤ M 3 k ∧ M 2 k + M 3 k ≤ 10
/-- what goHeat does -/
def gohP (w b : Int) (M M' : Nat → Int → Int) : Prop := (∀ c, c ≠ 0 → c ≠ 19 → c ≠ 20 → c ≠ 21 → M' c = M c) ∧ (∀ j, j ≠ 34 → M' 0 j = M 0 j) ∧ M' 0 34 = M 0 34 + outF (M 0 4) (M 2) (M 3) (M 19) ∧ ∀ k, 0 ≤ k → k < M 0 4 → M' 20 k = M 19 k ∧ M' 21 k = upF (M 2) (M 19) k ∧ M' 19 k = (if b = 1 then blF (M 0 4) (nhF (M 0 4) (M 2) (M 3) w (M 19)) k else nhF (M 0 4) (M 2) (M 3) w (M 19) k)
section RB
variable {S : Nat → Int → Int} {Tw : Nat → Nat → Int → Int} {M : Nat → Int → Int} {P : Nat → Nat} {d : Nat} {Q : Option Value → GH → Prop}
set_option maxHeartbeats 2000000 in
theorem s_X12_goHeat {w b : Int} (hb : b = 0 ∨ b = 1) (hw : 0 ≤ w ∧ w ≤ 9) (hk : hkOk M) (hq : ∀ M', gohP w b M M' → Q none (hO S Tw M' P)) : CallD (d + 1) 137 [.ref 248, .int (iI w), .int (iI b)] (hO S Tw M P) Q := by
  obtain ⟨⟨n1, n2⟩, hk⟩ := hk
  refine g_enter (loc := [some _, some _, some _, _, _]) e_X12_goHeat i_X12_goHeat (Nat.le_of_ble_eq_true rfl) rfl ?_
  refine g_iconst dX12_goHeat_0 rfl ?_
  refine g_l (loc' := [some _, some _, some _, some _, _]) dX12_goHeat_1 rfl rfl ?_
  have loop2 : ∀ (m : Nat) (i : Int) (a4 : Option Value) (M1 : Nat → Int → Int), 0 ≤ i → i ≤ M 0 4 → (M 0 4 - i).toNat = m → (∀ c, c ≠ 0 → c ≠ 19 → c ≠ 20 → c ≠ 21 → M1 c = M c) → (∀ j, j ≠ 34 → M1 0 j = M 0 j) → M1 0 34 = M 0 34 + (sumF (awF (M 3) (M 19)) i.toNat + (if i = M 0 4 then upF (M 2) (M 19) (M 0 4 - 1) else 0)) → (∀ k, 0 ≤ k → k < M 0 4 → M1 20 k = M 19 k ∧ M1 21 k = upF (M 2) (M 19) k) → (∀ k, 0 ≤ k → k < i → M1 19 k = (if b = 1 then blF (M 0 4) (nhF (M 0 4) (M 2) (M 3) w (M 19)) k else nhF (M 0 4) (M 2) (M 3) w (M 19) k)) →
      G none d 12 false none 0 0 (hO S Tw M P).length cX12_goHeat Q 0 52 [some (.ref 248), some (.int (iI w)), some (.int (iI b)), some (.int (iI i)), a4] [] (hO S Tw M1 P) := by
    intro m
    induction m with
    | zero =>
      intro i a4 M1 b1 b2 hm f1 f2 f3 f4 f5
      have e4 : M1 0 4 = M 0 4 := f2 4 (by decide)
      refine g_l dX12_goHeat_52 rfl rfl ?_
      refine g_l dX12_goHeat_53 rfl rfl ?_
      refine g_getf dX12_goHeat_54 h248 f_12_13 rfl rfl ?_
      rw [e4]
      refine g_icmp_ge (t := 184) dX12_goHeat_57 (by decide) rfl (by omega) (by omega) (fun c_57 => ?_) (fun c_57 => False.elim (by omega))
      refine g_retV dX12_goHeat_184 rfl rfl ?_
      refine hq _ ⟨f1, f2, ?_, fun k y1 y2 => ⟨(f4 k y1 y2).1, (f4 k y1 y2).2, f5 k y1 (by omega)⟩⟩
      rw [f3, if_pos (by omega), show i = M 0 4 by omega]
      rfl
    | succ m ih =>
      intro i a4 M1 b1 b2 hm f1 f2 f3 f4 f5
      have e4 : M1 0 4 = M 0 4 := f2 4 (by decide)
      have e3 : M1 3 = M 3 := f1 3 (by decide) (by decide) (by decide) (by decide)
      obtain ⟨e20, e21⟩ := f4 i b1 (by omega)
      obtain ⟨z1, z2, z3, z4⟩ := hk i b1 (by omega)
      have zz : (0 : Int) ≤ M 3 i ∧ M 3 i ≤ 10 := by omega
      have l1 := leave_le z1.1 z2 z3 z4
      have l2 : 0 ≤ cmF (M 2) (M 19) w i ∧ cmF (M 2) (M 19) w i ≤ 10000000 := by
        unfold cmF
        split
        · omega
        · obtain ⟨y1, y2, y3, y4⟩ := hk (i - 1) (by omega) (by omega)
          have := leave_le y1.1 y2 y3 y4
          unfold upF
          omega
      have env : nhF (M 0 4) (M 2) (M 3) w (M 19) i = M 19 i + (cmF (M 2) (M 19) w i - upF (M 2) (M 19) i - awF (M 3) (M 19) i) := by
        unfold nhF
        rw [if_pos (by omega)]
      have hv : 0 ≤ nhF (M 0 4) (M 2) (M 3) w (M 19) i ∧ nhF (M 0 4) (M 2) (M 3) w (M 19) i ≤ 20000000 := by
        rw [env]
        unfold upF awF
        omega
      refine g_l dX12_goHeat_52 rfl rfl ?_
      refine g_l dX12_goHeat_53 rfl rfl ?_
      refine g_getf dX12_goHeat_54 h248 f_12_13 rfl rfl ?_
      rw [e4]
      refine g_icmp_ge (t := 184) dX12_goHeat_57 (by decide) rfl (by omega) (by omega) (fun c_57 => False.elim (by omega)) (fun c_57 => ?_)
      refine g_l dX12_goHeat_60 rfl rfl ?_
      refine g_getf dX12_goHeat_61 h248 f_12_72 rfl rfl ?_
      refine g_l dX12_goHeat_64 rfl rfl ?_
      refine g_iald dX12_goHeat_65 h268 (by omega) (by decide) rfl ?_
      refine g_l dX12_goHeat_66 rfl rfl ?_
      refine g_getf dX12_goHeat_67 h248 f_12_20 rfl rfl ?_
      refine g_l dX12_goHeat_70 rfl rfl ?_
      refine g_iald dX12_goHeat_71 h251 (by omega) (by decide) rfl ?_
      refine g_imul dX12_goHeat_72 rfl ?_
      refine g_bipush dX12_goHeat_73 (by decide) rfl ?_
      refine g_idiv dX12_goHeat_75 (by rw [e20, e3]; exact prodB z1 zz) (by omega) rfl ?_
      rw [e20, e3, show M 19 i * M 3 i / 10 = awF (M 3) (M 19) i from rfl]
      have tail2 : ∀ (M2 : Nat → Int → Int) (u : Int), M2 = wS M1 19 i (nhF (M 0 4) (M 2) (M 3) w (M 19) i) → u = (if i = M 0 4 - 1 then upF (M 2) (M 19) i else 0) →
          G none d 12 false none 0 0 (hO S Tw M P).length cX12_goHeat Q 0 147 [some (.ref 248), some (.int (iI w)), some (.int (iI b)), some (.int (iI i)), some (.int (iI (awF (M 3) (M 19) i)))] [.int (iI u), .int (iI (awF (M 3) (M 19) i)), .int (iI (M1 0 34)), .ref 248] (hO S Tw M2 P) := by
        intro M2 u h2 hu
        have es : sumF (awF (M 3) (M 19)) (i + 1).toNat = sumF (awF (M 3) (M 19)) i.toNat + awF (M 3) (M 19) i := by
          rw [show (i + 1).toNat = i.toNat + 1 by omega]
          show sumF (awF (M 3) (M 19)) i.toNat + awF (M 3) (M 19) ((i.toNat : Nat) : Int) = _
          rw [Int.toNat_of_nonneg b1]
        have key : ∀ x, x = (if b = 1 then blF (M 0 4) (nhF (M 0 4) (M 2) (M 3) w (M 19)) i else nhF (M 0 4) (M 2) (M 3) w (M 19) i) →
            G none d 12 false none 0 0 (hO S Tw M P).length cX12_goHeat Q 0 178 [some (.ref 248), some (.int (iI w)), some (.int (iI b)), some (.int (iI i)), some (.int (iI (awF (M 3) (M 19) i)))] [] (hO S Tw (wS (wS M2 0 34 (M1 0 34 + (awF (M 3) (M 19) i + u))) 19 i x) P) := by
          intro x hx
          refine g_iinc (loc' := [some _, some _, some _, some _, some _]) dX12_goHeat_178 rfl rfl rfl ?_
          refine g_goto (t := 52) dX12_goHeat_181 (by decide) ?_
          refine ih (i + 1) _ _ (by omega) (by omega) (by omega) (fun c y1 y2 y3 y4 => ?_) (fun j hj => ?_) ?_ (fun k y1 y2 => ?_) (fun k y1 y2 => ?_)
          · rw [wS_o y2, wS_o y1, h2, wS_o y2]; exact f1 c y1 y2 y3 y4
          · rw [wS_o (by decide), wS_s, if_neg hj, h2, wS_o (by decide)]; exact f2 j hj
          · rw [wS_o (by decide), wS_e, f3, es, hu, if_neg (show ¬ i = M 0 4 by omega)]
            by_cases c : i = M 0 4 - 1
            · rw [if_pos c, if_pos (by omega), c]
              omega
            · rw [if_neg c, if_neg (by omega)]
              omega
          · rw [wS_o (show (20 : Nat) ≠ 19 by decide), wS_o (show (20 : Nat) ≠ 0 by decide), wS_o (show (21 : Nat) ≠ 19 by decide), wS_o (show (21 : Nat) ≠ 0 by decide), h2, wS_o (show (20 : Nat) ≠ 19 by decide), wS_o (show (21 : Nat) ≠ 19 by decide)]
            exact f4 k y1 y2
          · rw [wS_s]
            by_cases c : k = i
            · rw [if_pos c, hx, c]
            · rw [if_neg c, wS_o (by decide), h2, wS_s, if_neg c]
              exact f5 k y1 (by omega)
        have e19 : wS M2 0 34 (M1 0 34 + (awF (M 3) (M 19) i + u)) 19 i = nhF (M 0 4) (M 2) (M 3) w (M 19) i := by
          rw [wS_o (by decide), h2, wS_e]
        rcases hb with hb | hb
        · rw [if_neg (by omega)] at key
          rw [hb] at key ih ⊢
          refine g_iadd dX12_goHeat_147 rfl ?_
          refine g_iadd dX12_goHeat_148 rfl ?_
          refine g_putf dX12_goHeat_149 h248 f_12_179 (Nat.le_of_ble_eq_true rfl) rfl rfl p248_34 rfl ?_
          refine g_l dX12_goHeat_152 rfl rfl ?_
          refine g_getf dX12_goHeat_153 h248 f_12_69 rfl rfl ?_
          refine g_l dX12_goHeat_156 rfl rfl ?_
          refine g_s dX12_goHeat_157 rfl rfl rfl ?_
          refine g_iald dX12_goHeat_158 h267 (by omega) (by decide) rfl ?_
          rw [e19]
          refine g_l dX12_goHeat_159 rfl rfl ?_
          refine g_if_eq (t := 175) dX12_goHeat_160 (by decide) rfl (by omega) (fun c_160 => ?_) (fun c_160 => False.elim (by omega))
          refine g_iconst dX12_goHeat_175 rfl ?_
          refine g_isub dX12_goHeat_176 rfl ?_
          rw [Int.sub_zero]
          refine g_iast dX12_goHeat_177 h267 (by omega) (by decide) p267 rfl ?_
          exact key _ rfl
        · rw [if_pos hb] at key
          rw [hb] at key ih ⊢
          refine g_iadd dX12_goHeat_147 rfl ?_
          refine g_iadd dX12_goHeat_148 rfl ?_
          refine g_putf dX12_goHeat_149 h248 f_12_179 (Nat.le_of_ble_eq_true rfl) rfl rfl p248_34 rfl ?_
          refine g_l dX12_goHeat_152 rfl rfl ?_
          refine g_getf dX12_goHeat_153 h248 f_12_69 rfl rfl ?_
          refine g_l dX12_goHeat_156 rfl rfl ?_
          refine g_s dX12_goHeat_157 rfl rfl rfl ?_
          refine g_iald dX12_goHeat_158 h267 (by omega) (by decide) rfl ?_
          rw [e19]
          refine g_l dX12_goHeat_159 rfl rfl ?_
          refine g_if_eq (t := 175) dX12_goHeat_160 (by decide) rfl (by omega) (fun c_160 => False.elim (by omega)) (fun c_160 => ?_)
          refine g_l dX12_goHeat_163 rfl rfl ?_
          refine g_getf dX12_goHeat_164 h248 f_12_69 rfl rfl ?_
          refine g_l dX12_goHeat_167 rfl rfl ?_
          refine g_iald dX12_goHeat_168 h267 (by omega) (by decide) rfl ?_
          rw [e19]
          refine g_bipush dX12_goHeat_169 (by decide) rfl ?_
          refine g_idiv dX12_goHeat_171 (by omega) (by omega) rfl ?_
          refine g_goto (t := 176) dX12_goHeat_172 (by decide) ?_
          refine g_isub dX12_goHeat_176 rfl ?_
          refine g_iast dX12_goHeat_177 h267 (by omega) (by decide) p267 rfl ?_
          refine key _ ?_
          unfold blF
          rw [if_pos (by omega)]
      have tail : ∀ v, v = nhF (M 0 4) (M 2) (M 3) w (M 19) i →
          G none d 12 false none 0 0 (hO S Tw M P).length cX12_goHeat Q 0 119 [some (.ref 248), some (.int (iI w)), some (.int (iI b)), some (.int (iI i)), some (.int (iI (awF (M 3) (M 19) i)))] [.int (iI v), .int (iI i), .ref 267] (hO S Tw M1 P) := by
        intro v hv2
        have t0 : wS M1 19 i v 0 = M1 0 := wS_o (by decide)
        have t21 : wS M1 19 i v 21 = M1 21 := wS_o (by decide)
        refine g_iast dX12_goHeat_119 h267 (by omega) (by decide) p267 rfl ?_
        refine g_l dX12_goHeat_120 rfl rfl ?_
        refine g_s dX12_goHeat_121 rfl rfl rfl ?_
        refine g_getf dX12_goHeat_122 h248 f_12_179 rfl rfl ?_
        refine g_l dX12_goHeat_125 rfl rfl ?_
        refine g_l dX12_goHeat_127 rfl rfl ?_
        refine g_l dX12_goHeat_128 rfl rfl ?_
        refine g_getf dX12_goHeat_129 h248 f_12_13 rfl rfl ?_
        refine g_iconst dX12_goHeat_132 rfl ?_
        rw [t0, e4]
        refine g_isub dX12_goHeat_133 rfl ?_
        refine g_icmp_ne (t := 146) dX12_goHeat_134 (by decide) rfl (by omega) (by omega) (fun c_134 => ?_) (fun c_134 => ?_)
        · refine g_iconst dX12_goHeat_146 rfl ?_
          exact tail2 _ _ (by rw [hv2]) (by rw [if_neg c_134])
        · refine g_l dX12_goHeat_137 rfl rfl ?_
          refine g_getf dX12_goHeat_138 h248 f_12_75 rfl rfl ?_
          refine g_l dX12_goHeat_141 rfl rfl ?_
          refine g_iald dX12_goHeat_142 h269 (by omega) (by decide) rfl ?_
          rw [t21, e21]
          refine g_goto (t := 147) dX12_goHeat_143 (by decide) ?_
          exact tail2 _ _ (by rw [hv2]) (by rw [if_pos (by omega)])
      refine g_l (loc' := [some _, some _, some _, some _, some _]) dX12_goHeat_76 rfl rfl ?_
      refine g_l dX12_goHeat_78 rfl rfl ?_
      refine g_getf dX12_goHeat_79 h248 f_12_69 rfl rfl ?_
      refine g_l dX12_goHeat_82 rfl rfl ?_
      refine g_l dX12_goHeat_83 rfl rfl ?_
      refine g_getf dX12_goHeat_84 h248 f_12_72 rfl rfl ?_
      refine g_l dX12_goHeat_87 rfl rfl ?_
      refine g_iald dX12_goHeat_88 h268 (by omega) (by decide) rfl ?_
      refine g_l dX12_goHeat_89 rfl rfl ?_
      refine g_getf dX12_goHeat_90 h248 f_12_75 rfl rfl ?_
      refine g_l dX12_goHeat_93 rfl rfl ?_
      refine g_iald dX12_goHeat_94 h269 (by omega) (by decide) rfl ?_
      refine g_isub dX12_goHeat_95 rfl ?_
      refine g_l dX12_goHeat_96 rfl rfl ?_
      refine g_isub dX12_goHeat_98 rfl ?_
      refine g_l dX12_goHeat_99 rfl rfl ?_
      rw [e20, e21]
      refine g_if_ne (t := 110) dX12_goHeat_100 (by decide) rfl (by omega) (fun c_100 => ?_) (fun c_100 => ?_)
      · refine g_l dX12_goHeat_110 rfl rfl ?_
        refine g_getf dX12_goHeat_111 h248 f_12_75 rfl rfl ?_
        refine g_l dX12_goHeat_114 rfl rfl ?_
        refine g_iconst dX12_goHeat_115 rfl ?_
        refine g_isub dX12_goHeat_116 rfl ?_
        refine g_iald dX12_goHeat_117 h269 (by omega) (by decide) rfl ?_
        rw [(f4 (i - 1) (by omega) (by omega)).2]
        refine g_iadd dX12_goHeat_118 rfl ?_
        refine tail _ ?_
        rw [env]
        unfold cmF
        rw [if_neg c_100]
        omega
      · refine g_bipush dX12_goHeat_103 (by decide) rfl ?_
        refine g_l dX12_goHeat_105 rfl rfl ?_
        refine g_imul dX12_goHeat_106 rfl ?_
        refine g_goto (t := 118) dX12_goHeat_107 (by decide) ?_
        refine g_iadd dX12_goHeat_118 rfl ?_
        refine tail _ ?_
        rw [env]
        unfold cmF
        rw [if_pos (by omega)]
        omega
  have loop : ∀ (m : Nat) (i : Int) (M1 : Nat → Int → Int), 0 ≤ i → i ≤ M 0 4 → (M 0 4 - i).toNat = m → (∀ c, c ≠ 20 → c ≠ 21 → M1 c = M c) → (∀ k, 0 ≤ k → k < i → M1 20 k = M 19 k ∧ M1 21 k = upF (M 2) (M 19) k) →
      G none d 12 false none 0 0 (hO S Tw M P).length cX12_goHeat Q 0 2 [some (.ref 248), some (.int (iI w)), some (.int (iI b)), some (.int (iI i)), none] [] (hO S Tw M1 P) := by
    intro m
    induction m with
    | zero =>
      intro i M1 b1 b2 hm f1 f2
      have e0 : M1 0 = M 0 := f1 0 (by decide) (by decide)
      refine g_l dX12_goHeat_2 rfl rfl ?_
      refine g_l dX12_goHeat_3 rfl rfl ?_
      refine g_getf dX12_goHeat_4 h248 f_12_13 rfl rfl ?_
      rw [e0]
      refine g_icmp_ge (t := 50) dX12_goHeat_7 (by decide) rfl (by omega) (by omega) (fun c_7 => ?_) (fun c_7 => False.elim (by omega))
      refine g_iconst dX12_goHeat_50 rfl ?_
      refine g_l (loc' := [some _, some _, some _, some _, _]) dX12_goHeat_51 rfl rfl ?_
      refine loop2 (M 0 4).toNat 0 _ M1 (by omega) (by omega) (by rw [Int.sub_zero]) (fun c y1 y2 y3 y4 => f1 c y3 y4) (fun j _ => by rw [e0]) ?_ (fun k y1 y2 => f2 k y1 (by omega)) (fun k y1 y2 => by omega)
      rw [if_neg (by omega), e0]
      show M 0 34 = M 0 34 + (0 + 0)
      omega
    | succ m ih =>
      intro i M1 b1 b2 hm f1 f2
      have e0 : M1 0 = M 0 := f1 0 (by decide) (by decide)
      have e19 : M1 19 = M 19 := f1 19 (by decide) (by decide)
      have e2 : M1 2 = M 2 := f1 2 (by decide) (by decide)
      obtain ⟨z1, z2, z3, z4⟩ := hk i b1 (by omega)
      have zz : (0 : Int) ≤ M 2 i ∧ M 2 i ≤ 10 := by omega
      have t1 : ∀ v, wS M1 20 i v 19 = M 19 := fun v => by rw [wS_o (by decide)]; exact e19
      have t2 : ∀ v, wS M1 20 i v 2 = M 2 := fun v => by rw [wS_o (by decide)]; exact e2
      refine g_l dX12_goHeat_2 rfl rfl ?_
      refine g_l dX12_goHeat_3 rfl rfl ?_
      refine g_getf dX12_goHeat_4 h248 f_12_13 rfl rfl ?_
      rw [e0]
      refine g_icmp_ge (t := 50) dX12_goHeat_7 (by decide) rfl (by omega) (by omega) (fun c_7 => False.elim (by omega)) (fun c_7 => ?_)
      refine g_l dX12_goHeat_10 rfl rfl ?_
      refine g_getf dX12_goHeat_11 h248 f_12_72 rfl rfl ?_
      refine g_l dX12_goHeat_14 rfl rfl ?_
      refine g_l dX12_goHeat_15 rfl rfl ?_
      refine g_getf dX12_goHeat_16 h248 f_12_69 rfl rfl ?_
      refine g_l dX12_goHeat_19 rfl rfl ?_
      refine g_iald dX12_goHeat_20 h267 (by omega) (by decide) rfl ?_
      rw [e19]
      refine g_iast dX12_goHeat_21 h268 (by omega) (by decide) p268 rfl ?_
      refine g_l dX12_goHeat_22 rfl rfl ?_
      refine g_getf dX12_goHeat_23 h248 f_12_75 rfl rfl ?_
      refine g_l dX12_goHeat_26 rfl rfl ?_
      refine g_l dX12_goHeat_27 rfl rfl ?_
      refine g_getf dX12_goHeat_28 h248 f_12_69 rfl rfl ?_
      refine g_l dX12_goHeat_31 rfl rfl ?_
      refine g_iald dX12_goHeat_32 h267 (by omega) (by decide) rfl ?_
      refine g_l dX12_goHeat_33 rfl rfl ?_
      refine g_getf dX12_goHeat_34 h248 f_12_17 rfl rfl ?_
      refine g_l dX12_goHeat_37 rfl rfl ?_
      refine g_iald dX12_goHeat_38 h250 (by omega) (by decide) rfl ?_
      refine g_imul dX12_goHeat_39 rfl ?_
      refine g_bipush dX12_goHeat_40 (by decide) rfl ?_
      refine g_idiv dX12_goHeat_42 (by rw [t1, t2]; exact prodB z1 zz) (by omega) rfl ?_
      refine g_iast dX12_goHeat_43 h269 (by omega) (by decide) p269 rfl ?_
      refine g_iinc (loc' := [some _, some _, some _, some _, _]) dX12_goHeat_44 rfl rfl rfl ?_
      refine g_goto (t := 2) dX12_goHeat_47 (by decide) ?_
      refine ih (i + 1) _ (by omega) (by omega) (by omega) (fun c y1 y2 => by rw [wS_o y2, wS_o y1]; exact f1 c y1 y2) (fun k y1 y2 => ?_)
      rw [wS_o (show (20 : Nat) ≠ 21 by decide), wS_s, wS_s, t1, t2]
      by_cases c : k = i
      · rw [if_pos c, if_pos c, c]
        exact ⟨rfl, rfl⟩
      · rw [if_neg c, if_neg c, wS_o (by decide)]
        exact f2 k y1 (by omega)
  exact loop (M 0 4).toNat 0 M (by omega) (by omega) (by rw [Int.sub_zero]) (fun _ _ _ => rfl) (fun k y1 y2 => by omega)
/-- a pot of the reference feels a quarter -/
theorem s_X12_feel {S0 : Nat → Int → Int} {p ca sb : Int} (ht : tdP S0 M) (hp : pOk S0) (hp0 : 0 ≤ p ∧ p < M 0 5) (hr : ∀ i, 0 ≤ i → i < M 0 5 → 0 ≤ M 24 i ∧ M 24 i < 5) (hg : 0 ≤ M 22 p ∧ M 22 p < M 9 p) (h1 : 0 ≤ M 19 (M 24 p) ∧ M 19 (M 24 p) ≤ 20000000) (h2 : 0 ≤ M 20 (M 24 p) ∧ M 20 (M 24 p) ≤ 20000000) (hu : 0 < M 24 p → R32 (M 21 (M 24 p - 1)))
    (hca : (sltP M (M 24 p) ∧ 0 < M 24 p ∧ 0 < M 21 (M 24 p - 1)) ↔ (sb = 1 ∧ 0 < ca))
    (hq : ∀ M', (∀ c, c ≠ 22 → M' c = M c) → (∀ j, j ≠ p → M' 22 j = M 22 j) → M' 22 p = fHas (mjF S0 p) (M 6 p) (M 7 p) (M 8 p) (M 22 p) (M 19 (M 24 p)) (M 20 (M 24 p)) ca sb → Q (some (.int (iI (fHow (mjF S0 p) (M 6 p) (M 7 p) (M 8 p) (M 9 p) (M 22 p) (M 19 (M 24 p)) (M 20 (M 24 p)) ca sb)))) (hO S Tw M' P)) : CallD (d + 2) 139 [.ref 248, .int (iI p)] (hO S Tw M P) Q := by
  obtain ⟨n1, n2, hp⟩ := hp
  obtain ⟨e5, ht⟩ := ht
  rw [e5] at n1 n2
  obtain ⟨b1, b2, b3, b4, b5⟩ := hp p hp0.1 (by rw [e5]; exact hp0.2)
  obtain ⟨t6, t7, t8, t9, t10⟩ := ht p hp0.1 hp0.2
  rw [t6] at b1
  rw [t7] at b2
  rw [t8] at b3
  rw [t9] at b4
  rw [t10] at b5
  have rk := hr p hp0.1 hp0.2
  have emj : mjF S0 p = M 10 p * (if M 6 p = 3 then 20 else 10) := by unfold mjF; rw [t6, t10]
  refine g_enter (loc := [some _, some _, _, _]) e_X12_feel i_X12_feel (Nat.le_of_ble_eq_true rfl) rfl ?_
  have main : ∀ (v : Int), v = (if 0 ≤ M 19 (M 24 p) - M 20 (M 24 p) then M 19 (M 24 p) - M 20 (M 24 p) else -(M 19 (M 24 p) - M 20 (M 24 p))) →
      G none (d + 1) 12 false (some .int) 0 0 (hO S Tw M P).length cX12_feel Q 0 51 [some (.ref 248), some (.int (iI p)), some (.int (iI (M 24 p))), none] [.int (iI v)] (hO S Tw M P) := by
    intro v hv
    have rv : 0 ≤ v ∧ v ≤ 20000000 := by rw [hv]; split <;> omega
    unfold fHas fHow at hq
    rw [← hv] at hq
    have main2 : ∀ (z : Int), z = (if M 6 p = 3 then 20 else 10) →
        G none (d + 1) 12 false (some .int) 0 0 (hO S Tw M P).length cX12_feel Q 0 70 [some (.ref 248), some (.int (iI p)), some (.int (iI (M 24 p))), some (.int (iI v))] [.int (iI z), .int (iI v)] (hO S Tw M P) := by
      intro z hz
      have ez : z * M 10 p = mjF S0 p := by rw [emj, ← hz, Int.mul_comm]
      have rz : 0 ≤ z * M 10 p ∧ z * M 10 p ≤ 180 := by
        by_cases c : M 6 p = 3
        · rw [if_pos c] at hz; rw [hz]; omega
        · rw [if_neg c] at hz; rw [hz]; omega
      have main3 : ¬ (mjF S0 p < v) → ¬ (M 6 p = 2 ∧ sb = 1 ∧ 0 < ca) →
          G none (d + 1) 12 false (some .int) 0 0 (hO S Tw M P).length cX12_feel Q 0 102 [some (.ref 248), some (.int (iI p)), some (.int (iI (M 24 p))), some (.int (iI v))] [] (hO S Tw M P) := by
        intro c1 c2
        simp only [if_neg c1, if_neg c2] at hq
        refine g_l dX12_feel_102 rfl rfl ?_
        refine g_getf dX12_feel_103 h248 f_12_78 rfl rfl ?_
        refine g_l dX12_feel_106 rfl rfl ?_
        refine g_s dX12_feel_107 rfl rfl rfl ?_
        refine g_iald dX12_feel_108 h270 (by omega) (by decide) rfl ?_
        refine g_l dX12_feel_109 rfl rfl ?_
        refine g_getf dX12_feel_110 h248 f_12_69 rfl rfl ?_
        refine g_l dX12_feel_113 rfl rfl ?_
        refine g_iald dX12_feel_114 h267 (by omega) (by decide) rfl ?_
        refine g_i2l dX12_feel_115 (by omega) rfl ?_
        refine g_bipush dX12_feel_116 (by decide) rfl ?_
        refine g_l dX12_feel_118 rfl rfl ?_
        refine g_getf dX12_feel_119 h248 f_12_32 rfl rfl ?_
        refine g_l dX12_feel_122 rfl rfl ?_
        refine g_iald dX12_feel_123 h255 (by omega) (by decide) rfl ?_
        refine g_imul dX12_feel_124 rfl ?_
        refine g_i2l dX12_feel_125 (by omega) rfl ?_
        refine g_bipush dX12_feel_126 (by decide) rfl ?_
        refine g_l dX12_feel_128 rfl rfl ?_
        refine g_getf dX12_feel_129 h248 f_12_35 rfl rfl ?_
        refine g_l dX12_feel_132 rfl rfl ?_
        refine g_iald dX12_feel_133 h256 (by omega) (by decide) rfl ?_
        refine g_imul dX12_feel_134 rfl ?_
        refine g_i2l dX12_feel_135 (by omega) rfl ?_
        refine g_callS dX12_feel_136 m_12_111 (n := 3) rfl (by exact Nat.le_of_ble_eq_true rfl) (by exact Nat.le_of_ble_eq_true rfl) (by rfl) (by rfl) (by rfl) ?_
        have e22 : ∀ x, wS M 22 p x 22 p = x := fun x => wS_e
        have e9 : ∀ x, wS M 22 p x 9 = M 9 := fun x => wS_o (by decide)
        refine s_X12_in (by omega) (by omega) (by omega) (fun y => ?_) (fun y => ?_)
        · rw [if_pos y, if_pos y] at hq
          have h := hq (wS M 22 p (M 22 p + 1)) (fun c hc => wS_o hc) (fun j hj => by rw [wS_s, if_neg hj]) wS_e
          simp only [Option.toList_some, Option.toList_none, List.cons_append, List.nil_append]
          refine g_if_eq (t := 146) dX12_feel_139 (by decide) rfl (by omega) (fun c_139 => False.elim (by omega)) (fun c_139 => ?_)
          refine g_iconst dX12_feel_142 rfl ?_
          refine g_goto (t := 147) dX12_feel_143 (by decide) ?_
          refine g_iadd dX12_feel_147 rfl ?_
          refine g_iast dX12_feel_148 h270 (by omega) (by decide) p270 rfl ?_
          refine g_l dX12_feel_149 rfl rfl ?_
          refine g_getf dX12_feel_150 h248 f_12_78 rfl rfl ?_
          refine g_l dX12_feel_153 rfl rfl ?_
          refine g_iald dX12_feel_154 h270 (by omega) (by decide) rfl ?_
          refine g_l dX12_feel_155 rfl rfl ?_
          refine g_getf dX12_feel_156 h248 f_12_38 rfl rfl ?_
          refine g_l dX12_feel_159 rfl rfl ?_
          refine g_iald dX12_feel_160 h257 (by omega) (by decide) rfl ?_
          rw [e22, e9]
          refine g_icmp_ne (t := 168) dX12_feel_161 (by decide) rfl (by omega) (by omega) (fun c_161 => ?_) (fun c_161 => ?_)
          · rw [if_neg (by omega)] at h
            refine g_iconst dX12_feel_168 rfl ?_
            refine g_retI dX12_feel_169 rfl rfl ?_
            exact h
          · rw [if_pos (by omega)] at h
            refine g_iconst dX12_feel_164 rfl ?_
            refine g_goto (t := 169) dX12_feel_165 (by decide) ?_
            refine g_retI dX12_feel_169 rfl rfl ?_
            exact h
        · rw [if_neg y, if_neg y] at hq
          have h := hq (wS M 22 p (M 22 p + 0)) (fun c hc => wS_o hc) (fun j hj => by rw [wS_s, if_neg hj]) (by rw [wS_e, Int.add_zero])
          simp only [Option.toList_some, Option.toList_none, List.cons_append, List.nil_append]
          refine g_if_eq (t := 146) dX12_feel_139 (by decide) rfl (by omega) (fun c_139 => ?_) (fun c_139 => False.elim (by omega))
          refine g_iconst dX12_feel_146 rfl ?_
          refine g_iadd dX12_feel_147 rfl ?_
          refine g_iast dX12_feel_148 h270 (by omega) (by decide) p270 rfl ?_
          refine g_l dX12_feel_149 rfl rfl ?_
          refine g_getf dX12_feel_150 h248 f_12_78 rfl rfl ?_
          refine g_l dX12_feel_153 rfl rfl ?_
          refine g_iald dX12_feel_154 h270 (by omega) (by decide) rfl ?_
          refine g_l dX12_feel_155 rfl rfl ?_
          refine g_getf dX12_feel_156 h248 f_12_38 rfl rfl ?_
          refine g_l dX12_feel_159 rfl rfl ?_
          refine g_iald dX12_feel_160 h257 (by omega) (by decide) rfl ?_
          rw [e22, e9]
          refine g_icmp_ne (t := 168) dX12_feel_161 (by decide) rfl (by omega) (by omega) (fun c_161 => ?_) (fun c_161 => False.elim (by omega))
          refine g_iconst dX12_feel_168 rfl ?_
          refine g_retI dX12_feel_169 rfl rfl ?_
          exact h
      refine g_l dX12_feel_70 rfl rfl ?_
      refine g_getf dX12_feel_71 h248 f_12_41 rfl rfl ?_
      refine g_l dX12_feel_74 rfl rfl ?_
      refine g_iald dX12_feel_75 h258 (by omega) (by decide) rfl ?_
      refine g_imul dX12_feel_76 rfl ?_
      rw [ez] at rz ⊢
      refine g_icmp_le (t := 82) dX12_feel_77 (by decide) rfl (by omega) (by omega) (fun c_77 => ?_) (fun c_77 => ?_)
      · have c1 : ¬ (mjF S0 p < v) := by omega
        refine g_l dX12_feel_82 rfl rfl ?_
        refine g_getf dX12_feel_83 h248 f_12_29 rfl rfl ?_
        refine g_l dX12_feel_86 rfl rfl ?_
        refine g_iald dX12_feel_87 h254 (by omega) (by decide) rfl ?_
        refine g_iconst dX12_feel_88 rfl ?_
        refine g_icmp_ne (t := 102) dX12_feel_89 (by decide) rfl (by omega) (by omega) (fun c_89 => ?_) (fun c_89 => ?_)
        · exact main3 c1 (fun u => c_89 u.1)
        · refine g_l dX12_feel_92 rfl rfl ?_
          refine g_l dX12_feel_93 rfl rfl ?_
          refine g_callV dX12_feel_94 m_12_182 (n := 1) rfl h248 rfl (Nat.le_of_ble_eq_true rfl) (Nat.le_of_ble_eq_true rfl) rfl rfl ?_
          refine s_X12_isSalted ⟨n1, n2⟩ hp0 (fun i y1 y2 => ⟨by rw [← (ht i y1 y2).1]; exact (hp i y1 (by rw [e5]; exact y2)).1, hr i y1 y2⟩) hu (fun y1 y2 y3 => ?_) (fun y => ?_)
          · simp only [if_neg c1, if_pos (show M 6 p = 2 ∧ sb = 1 ∧ 0 < ca from ⟨by omega, hca.mp ⟨y1, y2, y3⟩⟩)] at hq
            simp only [Option.toList_some, Option.toList_none, List.cons_append, List.nil_append]
            refine g_if_eq (t := 102) dX12_feel_97 (by decide) rfl (by omega) (fun c_97 => False.elim (by omega)) (fun c_97 => ?_)
            refine g_iconst dX12_feel_100 rfl ?_
            refine g_retI dX12_feel_101 rfl rfl ?_
            exact hq M (fun _ _ => rfl) (fun _ _ => rfl) rfl
          · simp only [Option.toList_some, Option.toList_none, List.cons_append, List.nil_append]
            refine g_if_eq (t := 102) dX12_feel_97 (by decide) rfl (by omega) (fun c_97 => ?_) (fun c_97 => False.elim (by omega))
            exact main3 c1 (fun u => y (hca.mpr u.2))
      · simp only [if_pos c_77] at hq
        refine g_iconst dX12_feel_80 rfl ?_
        refine g_retI dX12_feel_81 rfl rfl ?_
        exact hq M (fun _ _ => rfl) (fun _ _ => rfl) rfl
    refine g_l (loc' := [some _, some _, some _, some _]) dX12_feel_51 rfl rfl ?_
    refine g_l dX12_feel_52 rfl rfl ?_
    refine g_l dX12_feel_53 rfl rfl ?_
    refine g_getf dX12_feel_54 h248 f_12_29 rfl rfl ?_
    refine g_l dX12_feel_57 rfl rfl ?_
    refine g_iald dX12_feel_58 h254 (by omega) (by decide) rfl ?_
    refine g_iconst dX12_feel_59 rfl ?_
    refine g_icmp_ne (t := 68) dX12_feel_60 (by decide) rfl (by omega) (by omega) (fun c_60 => ?_) (fun c_60 => ?_)
    · refine g_bipush dX12_feel_68 (by decide) rfl ?_
      exact main2 10 (by rw [if_neg c_60])
    · refine g_bipush dX12_feel_63 (by decide) rfl ?_
      refine g_goto (t := 70) dX12_feel_65 (by decide) ?_
      exact main2 20 (by rw [if_pos (by omega)])
  refine g_l dX12_feel_0 rfl rfl ?_
  refine g_getf dX12_feel_1 h248 f_12_84 rfl rfl ?_
  refine g_l dX12_feel_4 rfl rfl ?_
  refine g_iald dX12_feel_5 h272 (by omega) (by decide) rfl ?_
  refine g_l (loc' := [some _, some _, some _, _]) dX12_feel_6 rfl rfl ?_
  refine g_l dX12_feel_7 rfl rfl ?_
  refine g_getf dX12_feel_8 h248 f_12_69 rfl rfl ?_
  refine g_l dX12_feel_11 rfl rfl ?_
  refine g_iald dX12_feel_12 h267 (by omega) (by decide) rfl ?_
  refine g_l dX12_feel_13 rfl rfl ?_
  refine g_getf dX12_feel_14 h248 f_12_72 rfl rfl ?_
  refine g_l dX12_feel_17 rfl rfl ?_
  refine g_iald dX12_feel_18 h268 (by omega) (by decide) rfl ?_
  refine g_icmp_le (t := 38) dX12_feel_19 (by decide) rfl (by omega) (by omega) (fun c_19 => ?_) (fun c_19 => ?_)
  · refine g_l dX12_feel_38 rfl rfl ?_
    refine g_getf dX12_feel_39 h248 f_12_72 rfl rfl ?_
    refine g_l dX12_feel_42 rfl rfl ?_
    refine g_iald dX12_feel_43 h268 (by omega) (by decide) rfl ?_
    refine g_l dX12_feel_44 rfl rfl ?_
    refine g_getf dX12_feel_45 h248 f_12_69 rfl rfl ?_
    refine g_l dX12_feel_48 rfl rfl ?_
    refine g_iald dX12_feel_49 h267 (by omega) (by decide) rfl ?_
    refine g_isub dX12_feel_50 rfl ?_
    refine main _ ?_
    split <;> omega
  · refine g_l dX12_feel_22 rfl rfl ?_
    refine g_getf dX12_feel_23 h248 f_12_69 rfl rfl ?_
    refine g_l dX12_feel_26 rfl rfl ?_
    refine g_iald dX12_feel_27 h267 (by omega) (by decide) rfl ?_
    refine g_l dX12_feel_28 rfl rfl ?_
    refine g_getf dX12_feel_29 h248 f_12_72 rfl rfl ?_
    refine g_l dX12_feel_32 rfl rfl ?_
    refine g_iald dX12_feel_33 h268 (by omega) (by decide) rfl ?_
    refine g_isub dX12_feel_34 rfl ?_
    refine g_goto (t := 51) dX12_feel_35 (by decide) ?_
    refine main _ ?_
    rw [if_pos (by omega)]
end RB
