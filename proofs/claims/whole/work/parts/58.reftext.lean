/-! the reference: bytes, figures -/
theorem bv_255 (i : Nat) (h : i < 32) : (255#32).getLsbD i = decide (i < 8) := by
  have : ∀ i : Fin 32, (255#32).getLsbD i.val = decide (i.val < 8) := by decide
  exact this ⟨i, h⟩
theorem bv_sh (x : BitVec 64) (s : Nat) (hs : s ≤ 56) : ((x.sshiftRight s).signExtend 32 &&& 255#32) = ((x >>> s).signExtend 32 &&& 255#32) := by
  apply BitVec.eq_of_getLsbD_eq
  intro i hi
  rw [BitVec.getLsbD_and, BitVec.getLsbD_and, bv_255 i hi]
  by_cases c : i < 8
  · rw [BitVec.getLsbD_signExtend, BitVec.getLsbD_signExtend, BitVec.getLsbD_sshiftRight, BitVec.getLsbD_ushiftRight]
    have h1 : i < 64 := by omega
    have h2 : ¬ 64 ≤ i := by omega
    have h3 : s + i < 64 := by omega
    simp [h1, h2, h3]
  · simp [c]
theorem sh_r (v c : Int64) (s : Nat) (h : (c.toBitVec.smod 64).toNat = s) : (v >>> c).toInt32.toBitVec = (v.toBitVec.sshiftRight s).signExtend 32 := by
  subst h
  rfl
theorem sh_u (v : Int64) (c : UInt64) (s : Nat) (h : (c.toBitVec % 64).toNat = s) : ((v.toUInt64 >>> c).toInt64).toInt32.toBitVec = (v.toBitVec >>> s).signExtend 32 := by
  subst h
  rfl
/-- the byte, as the reference takes it -/
def brB (v : Int64) (left : Int) : Int := bAnd (v >>> ((iI (8 * left)).toInt64 &&& 63)).toInt32.toInt 255
theorem br_by {v : Int64} {left : Int} (h : 0 ≤ left ∧ left ≤ 7) : brB v left = byB v left := by
  have key : ∀ s : Nat, s ≤ 56 → (((iI (8 * left)).toInt64 &&& 63).toBitVec.smod 64).toNat = s → ((((iI (8 * left)).toInt64.toUInt64 &&& Int64.toUInt64 63)).toBitVec % 64).toNat = s → brB v left = byB v left := by
    intro s hs h1 h2
    unfold brB byB bAnd
    rw [iI_of, iI_of]
    have e : (v >>> ((iI (8 * left)).toInt64 &&& 63)).toInt32 &&& iI 255 = (v.toUInt64 >>> ((iI (8 * left)).toInt64.toUInt64 &&& Int64.toUInt64 63)).toInt64.toInt32 &&& iI 255 := by
      apply Int32.toBitVec_inj.mp
      show (v >>> ((iI (8 * left)).toInt64 &&& 63)).toInt32.toBitVec &&& 255#32 = (v.toUInt64 >>> ((iI (8 * left)).toInt64.toUInt64 &&& Int64.toUInt64 63)).toInt64.toInt32.toBitVec &&& 255#32
      rw [sh_r v _ s h1, sh_u v _ s h2]
      exact bv_sh _ s hs
    rw [e]
  rcases (show left = 0 ∨ left = 1 ∨ left = 2 ∨ left = 3 ∨ left = 4 ∨ left = 5 ∨ left = 6 ∨ left = 7 by omega) with rfl | rfl | rfl | rfl | rfl | rfl | rfl | rfl
  · exact key 0 (by decide) (by decide) (by decide)
  · exact key 8 (by decide) (by decide) (by decide)
  · exact key 16 (by decide) (by decide) (by decide)
  · exact key 24 (by decide) (by decide) (by decide)
  · exact key 32 (by decide) (by decide) (by decide)
  · exact key 40 (by decide) (by decide) (by decide)
  · exact key 48 (by decide) (by decide) (by decide)
  · exact key 56 (by decide) (by decide) (by decide)
/-- the text as the reference has it -/
def txP (len : Int) (by' : Int → Int) (M : Nat → Int → Int) : Prop := M 0 2 = len ∧ ∀ j, 0 ≤ j → j < len → M 1 j = by' j
theorem apL_c {v : Int64} : ∀ (m : Nat) (len : Int) (b b' : Int → Int), (∀ j, 0 ≤ j → j < len → b j = b' j) → (apL v m len b).1 = (apL v m len b').1 ∧ ∀ j, 0 ≤ j → j < (apL v m len b).1 → (apL v m len b).2 j = (apL v m len b').2 j
  | 0, len, b, b', h => ⟨rfl, h⟩
  | m + 1, len, b, b', h => by
    rw [apL, apL]
    split
    · exact ⟨rfl, h⟩
    · refine apL_c m (len + 1) _ _ (fun j y1 y2 => ?_)
      show (if j = len then byB v m else b j) = (if j = len then byB v m else b' j)
      by_cases c : j = len
      · rw [if_pos c, if_pos c]
      · rw [if_neg c, if_neg c]; exact h j y1 (by omega)
theorem apL_in {v : Int64} : ∀ (m : Nat) (len : Int) (b : Int → Int), 0 ≤ len → len ≤ 64 → (∀ j, 0 ≤ j → j < 64 → 0 ≤ b j ∧ b j ≤ 255) → xOk (apL v m len b).1 (apL v m len b).2
  | 0, len, b, h1, h2, h => ⟨h1, h2, h⟩
  | m + 1, len, b, h1, h2, h => by
    rw [apL]
    split
    · exact ⟨h1, h2, h⟩
    · refine apL_in m (len + 1) _ (by omega) (by omega) (fun j y1 y2 => ?_)
      show 0 ≤ (if j = len then byB v m else b j) ∧ (if j = len then byB v m else b j) ≤ 255
      split
      · unfold byB
        exact bAnd_255 _
      · exact h j y1 y2
section RI
variable {S : Nat → Int → Int} {Tw : Nat → Nat → Int → Int} {M : Nat → Int → Int} {P : Nat → Nat} {d : Nat} {Q : Option Value → GH → Prop}
theorem s_X12_write {len : Int} {by' : Int → Int} {n : Int} {v : Int64} (hn : R32 n) (hx : 0 ≤ len ∧ len ≤ 64) (ht : txP len by' M) (q1 : ¬ (1 ≤ n ∧ n ≤ 8) → ∀ M1, thP M M1 → Q (some (.int (iI (-2)))) (hO S Tw M1 P)) (q2 : 1 ≤ n ∧ n ≤ 8 → 64 < len + n → ∀ M1, thP M M1 → Q (some (.int (iI (-4)))) (hO S Tw M1 P))
    (q3 : 1 ≤ n ∧ n ≤ 8 → len + n ≤ 64 → ∀ M', (∀ c, c ≠ 0 → c ≠ 1 → M' c = M c) → (∀ j, j ≠ 0 → j ≠ 2 → M' 0 j = M 0 j) → txP (apL v n.toNat len by').1 (apL v n.toNat len by').2 M' → Q (some (.int (iI (apL v n.toNat len by').1))) (hO S Tw M' P)) : CallD (d + 2) 119 [.ref 248, .int (iI n), .long v] (hO S Tw M P) Q := by
  have e8 : (8 : Int64) = lI 8 := rfl
  refine g_enter (loc := [some _, some _, some _, _, _]) e_X12_write i_X12_write (Nat.le_of_ble_eq_true rfl) rfl ?_
  refine g_l dX12_write_0 rfl rfl ?_
  refine g_iconst dX12_write_1 rfl ?_
  refine g_putf dX12_write_2 h248 f_12_108 (Nat.le_of_ble_eq_true rfl) rfl rfl p248_0 rfl ?_
  have h1 := thP_w (M := M)
  generalize wS M 0 0 0 = M1 at h1 ⊢
  have z2 : M1 0 2 = len := by rw [h1.2 2 (by decide)]; exact ht.1
  refine g_l dX12_write_5 rfl rfl ?_
  refine g_i2l dX12_write_6 hn rfl ?_
  refine g_lconst1 dX12_write_7 rfl rfl ?_
  refine g_ldc2_w dX12_write_8 k_12_120 rfl ?_
  rw [e8]
  refine g_callS dX12_write_11 m_12_111 (n := 3) rfl (by exact Nat.le_of_ble_eq_true rfl) (by exact Nat.le_of_ble_eq_true rfl) (by rfl) (by rfl) (by rfl) ?_
  refine s_X12_in (by omega) (by decide) (by decide) (fun y => ?_) (fun y => ?_)
  · simp only [Option.toList_some, Option.toList_none, List.cons_append, List.nil_append]
    refine g_if_ne (t := 20) dX12_write_14 (by decide) rfl (by omega) (fun c_14 => ?_) (fun c_14 => False.elim (by omega))
    refine g_l dX12_write_20 rfl rfl ?_
    refine g_getf dX12_write_21 h248 f_12_122 rfl rfl ?_
    rw [z2]
    refine g_l dX12_write_24 rfl rfl ?_
    refine g_iadd dX12_write_25 rfl ?_
    refine g_bipush dX12_write_26 (by decide) rfl ?_
    refine g_icmp_le (t := 34) dX12_write_28 (by decide) rfl (by omega) (by omega) (fun c_28 => ?_) (fun c_28 => ?_)
    · have h3 := q3 y c_28
      have fin : ∀ (M2 : Nat → Int → Int) (b : Int → Int) (z : Int) (z5 : Option Value), (∀ c, c ≠ 0 → c ≠ 1 → M2 c = M c) → (∀ j, j ≠ 0 → j ≠ 2 → M2 0 j = M 0 j) → txP z b M2 → (z, b) = apL v n.toNat len by' →
          G none (d + 1) 12 false (some .int) 0 0 (hO S Tw M P).length cX12_write Q 0 81 [some (.ref 248), some (.int (iI n)), some (.long v), none, z5] [] (hO S Tw M2 P) := by
        intro M2 b z z5 f1 f2 f3 hz
        have h4 := h3 M2 f1 f2
        rw [← hz] at h4
        refine g_l dX12_write_81 rfl rfl ?_
        refine g_getf dX12_write_82 h248 f_12_122 rfl rfl ?_
        rw [f3.1]
        refine g_retI dX12_write_85 rfl rfl ?_
        exact h4 f3
      refine g_l dX12_write_34 rfl rfl ?_
      refine g_iconst dX12_write_35 rfl ?_
      refine g_isub dX12_write_36 rfl ?_
      refine g_l (loc' := [some _, some _, some _, _, some _]) dX12_write_37 rfl rfl ?_
      have loop : ∀ (m : Nat) (i : Int) (M2 : Nat → Int → Int) (b : Int → Int) (z : Int), -1 ≤ i → i < 8 → (i + 1).toNat = m → 0 ≤ z → z + (i + 1) ≤ 64 → (∀ c, c ≠ 0 → c ≠ 1 → M2 c = M c) → (∀ j, j ≠ 0 → j ≠ 2 → M2 0 j = M 0 j) → txP z b M2 → apL v m z b = apL v n.toNat len by' →
          G none (d + 1) 12 false (some .int) 0 0 (hO S Tw M P).length cX12_write Q 0 39 [some (.ref 248), some (.int (iI n)), some (.long v), none, some (.int (iI i))] [] (hO S Tw M2 P) := by
        intro m
        induction m with
        | zero =>
          intro i M2 b z b1 b2 hm hz0 hz64 f1 f2 f3 hz
          refine g_l dX12_write_39 rfl rfl ?_
          refine g_if_lt (t := 81) dX12_write_41 (by decide) rfl (by omega) (fun c_41 => ?_) (fun c_41 => False.elim (by omega))
          exact fin M2 b z _ f1 f2 f3 hz
        | succ m ih =>
          intro i M2 b z b1 b2 hm hz0 hz64 f1 f2 f3 hz
          rw [show apL v (m + 1) z b = if 64 ≤ z then (z, b) else apL v m (z + 1) (fun i => if i = z then byB v m else b i) from rfl, if_neg (by omega)] at hz
          have ei : i = (m : Int) := by omega
          refine g_l dX12_write_39 rfl rfl ?_
          refine g_if_lt (t := 81) dX12_write_41 (by decide) rfl (by omega) (fun c_41 => False.elim (by omega)) (fun c_41 => ?_)
          refine g_l dX12_write_44 rfl rfl ?_
          refine g_getf dX12_write_45 h248 f_12_7 rfl rfl ?_
          refine g_l dX12_write_48 rfl rfl ?_
          refine g_getf dX12_write_49 h248 f_12_122 rfl rfl ?_
          rw [f3.1]
          refine g_l dX12_write_52 rfl rfl ?_
          refine g_bipush dX12_write_53 (by decide) rfl ?_
          refine g_l dX12_write_55 rfl rfl ?_
          refine g_imul dX12_write_57 rfl ?_
          refine g_s dX12_write_58 rfl rfl rfl ?_
          refine g_l2i dX12_write_59 rfl ?_
          refine g_sipush dX12_write_60 (by decide) rfl ?_
          refine g_iand dX12_write_63 rfl ?_
          rw [show bAnd (v >>> ((iI (8 * i)).toInt64 &&& 63)).toInt32.toInt 255 = brB v i from rfl, br_by (by omega)]
          have t0 : ∀ x, wS M2 1 z x 0 2 = z := fun x => by rw [wS_o (by decide)]; exact f3.1
          refine g_iast dX12_write_64 h249 (by omega) (by decide) p249 rfl ?_
          refine g_l dX12_write_65 rfl rfl ?_
          refine g_s dX12_write_66 rfl rfl rfl ?_
          refine g_getf dX12_write_67 h248 f_12_122 rfl rfl ?_
          rw [t0]
          refine g_iconst dX12_write_70 rfl ?_
          refine g_iadd dX12_write_71 rfl ?_
          refine g_putf dX12_write_72 h248 f_12_122 (Nat.le_of_ble_eq_true rfl) rfl rfl p248_2 rfl ?_
          refine g_iinc (loc' := [some _, some _, some _, _, some _]) dX12_write_75 rfl rfl rfl ?_
          refine g_goto (t := 39) dX12_write_78 (by decide) ?_
          refine ih (i + -1) _ (fun i => if i = z then byB v m else b i) (z + 1) (by omega) (by omega) (by omega) (by omega) (by omega) (fun c y1 y2 => by rw [wS_o y1, wS_o y2]; exact f1 c y1 y2) (fun j y1 y2 => by rw [wS_s, if_neg y2, wS_o (by decide)]; exact f2 j y1 y2) ⟨wS_e, fun j y1 y2 => ?_⟩ hz
          rw [wS_o (by decide), wS_s, ei]
          show _ = (if j = z then byB v m else b j)
          by_cases c : j = z
          · rw [if_pos c, if_pos c]
          · rw [if_neg c, if_neg c]; exact f3.2 j y1 (by omega)
      exact loop n.toNat (n - 1) M1 by' len (by omega) (by omega) (by omega) hx.1 (by omega) (fun c y1 _ => h1.1 c y1) (fun j y1 _ => h1.2 j y1) ⟨z2, fun j y1 y2 => by rw [h1.1 1 (by decide)]; exact ht.2 j y1 y2⟩ rfl
    · refine g_bipush dX12_write_31 (by decide) rfl ?_
      refine g_retI dX12_write_33 rfl rfl ?_
      exact q2 y (by omega) M1 h1
  · simp only [Option.toList_some, Option.toList_none, List.cons_append, List.nil_append]
    refine g_if_ne (t := 20) dX12_write_14 (by decide) rfl (by omega) (fun c_14 => False.elim (by omega)) (fun c_14 => ?_)
    refine g_bipush dX12_write_17 (by decide) rfl ?_
    refine g_retI dX12_write_19 rfl rfl ?_
    exact q1 y M1 h1
theorem s_X12_figure {len lo hi at' : Int} {by' : Int → Int} (hx : xOk len by') (ht : txP len by' M) (ha : M 0 3 = at') (h0 : 0 ≤ at' ∧ at' ≤ len) (hl : 0 ≤ lo ∧ lo ≤ 9) (hh : -1 ≤ hi ∧ hi ≤ 9) (q1 : dgF len by' at' < lo ∨ hi < dgF len by' at' → Q (some (.int (iI (-9)))) (hO S Tw M P)) (q2 : at' < len → lo ≤ dgF len by' at' ∧ dgF len by' at' ≤ hi → Q (some (.int (iI (dgF len by' at')))) (hO S Tw (wS M 0 3 (at' + 1)) P)) : CallD (d + 2) 121 [.ref 248, .int (iI lo), .int (iI hi)] (hO S Tw M P) Q := by
  obtain ⟨hx1, hx2, hx3⟩ := id hx
  have hd := dgF_in hx at'
  refine g_enter (loc := [some _, some _, some _]) e_X12_figure i_X12_figure (Nat.le_of_ble_eq_true rfl) rfl ?_
  refine g_l dX12_figure_0 rfl rfl ?_
  refine g_getf dX12_figure_1 h248 f_12_125 rfl rfl ?_
  rw [ha]
  refine g_l dX12_figure_4 rfl rfl ?_
  refine g_getf dX12_figure_5 h248 f_12_122 rfl rfl ?_
  rw [ht.1]
  refine g_icmp_eq (t := 34) dX12_figure_8 (by decide) rfl (by omega) (by omega) (fun c_8 => ?_) (fun c_8 => ?_)
  · refine g_bipush dX12_figure_34 (by decide) rfl ?_
    refine g_retI dX12_figure_36 rfl rfl ?_
    refine q1 (Or.inl ?_)
    have : byF len by' at' = -1 := by unfold byF; rw [if_pos (by omega)]
    unfold dgF
    rw [this]
    simp
    omega
  · have hb : byF len by' at' = by' at' := by unfold byF; rw [if_neg (by omega)]
    have hb2 := hx3 at' (by omega) (by omega)
    have e1 : M 1 at' = by' at' := ht.2 at' (by omega) (by omega)
    refine g_l dX12_figure_11 rfl rfl ?_
    refine g_getf dX12_figure_12 h248 f_12_7 rfl rfl ?_
    refine g_l dX12_figure_15 rfl rfl ?_
    refine g_getf dX12_figure_16 h248 f_12_125 rfl rfl ?_
    rw [ha]
    refine g_iald dX12_figure_19 h249 (by omega) (by decide) rfl ?_
    rw [e1]
    refine g_bipush dX12_figure_20 (by decide) rfl ?_
    refine g_isub dX12_figure_22 rfl ?_
    refine g_i2l dX12_figure_23 (by omega) rfl ?_
    refine g_l dX12_figure_24 rfl rfl ?_
    refine g_i2l dX12_figure_25 (by omega) rfl ?_
    refine g_l dX12_figure_26 rfl rfl ?_
    refine g_i2l dX12_figure_27 (by omega) rfl ?_
    refine g_callS dX12_figure_28 m_12_111 (n := 3) rfl (by exact Nat.le_of_ble_eq_true rfl) (by exact Nat.le_of_ble_eq_true rfl) (by rfl) (by rfl) (by rfl) ?_
    refine s_X12_in (by omega) (by omega) (by omega) (fun y => ?_) (fun y => ?_)
    · have hdg : dgF len by' at' = by' at' - 48 := by
        unfold dgF
        rw [hb, if_neg (by omega)]
      have q3 := q2 (by omega) (by omega)
      rw [hdg] at q3
      have t1 : ∀ x, wS M 0 3 x 1 = M 1 := fun x => wS_o (by decide)
      simp only [Option.toList_some, Option.toList_none, List.cons_append, List.nil_append]
      refine g_if_ne (t := 37) dX12_figure_31 (by decide) rfl (by omega) (fun c_31 => ?_) (fun c_31 => False.elim (by omega))
      refine g_l dX12_figure_37 rfl rfl ?_
      refine g_s dX12_figure_38 rfl rfl rfl ?_
      refine g_getf dX12_figure_39 h248 f_12_125 rfl rfl ?_
      rw [ha]
      refine g_iconst dX12_figure_42 rfl ?_
      refine g_iadd dX12_figure_43 rfl ?_
      refine g_putf dX12_figure_44 h248 f_12_125 (Nat.le_of_ble_eq_true rfl) rfl rfl p248_3 rfl ?_
      refine g_l dX12_figure_47 rfl rfl ?_
      refine g_getf dX12_figure_48 h248 f_12_7 rfl rfl ?_
      refine g_l dX12_figure_51 rfl rfl ?_
      refine g_getf dX12_figure_52 h248 f_12_125 rfl rfl ?_
      rw [wS_e]
      refine g_iconst dX12_figure_55 rfl ?_
      refine g_isub dX12_figure_56 rfl ?_
      rw [show at' + 1 - 1 = at' by omega]
      refine g_iald dX12_figure_57 h249 (by omega) (by decide) rfl ?_
      rw [t1, e1]
      refine g_bipush dX12_figure_58 (by decide) rfl ?_
      refine g_isub dX12_figure_60 rfl ?_
      refine g_retI dX12_figure_61 rfl rfl ?_
      exact q3
    · simp only [Option.toList_some, Option.toList_none, List.cons_append, List.nil_append]
      refine g_if_ne (t := 37) dX12_figure_31 (by decide) rfl (by omega) (fun c_31 => False.elim (by omega)) (fun c_31 => ?_)
      refine g_bipush dX12_figure_34 (by decide) rfl ?_
      refine g_retI dX12_figure_36 rfl rfl ?_
      refine q1 ?_
      unfold dgF
      rw [hb]
      split <;> omega
end RI
