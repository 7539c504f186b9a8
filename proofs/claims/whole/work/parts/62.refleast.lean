/-! the reference: the least wood, row by row -/
theorem wdL_congr {F G' : Int → Int × (Int → Int) → Int × (Int → Int)} : ∀ (m : Nat) (w : Int) (Lb : Int × (Int → Int)), (∀ v Lb, w ≤ v → v < w + m → F v Lb = G' v Lb) → wdL F m w Lb = wdL G' m w Lb
  | 0, _, _, _ => rfl
  | m + 1, w, Lb, h => by
    rw [wdL, wdL, h w Lb (by omega) (by omega)]
    exact wdL_congr m (w + 1) _ (fun v Lb a b => h v Lb (by omega) (by omega))
theorem wdL_add {F : Int → Int × (Int → Int) → Int × (Int → Int)} : ∀ (m k : Nat) (w : Int) (Lb : Int × (Int → Int)), wdL F (m + k) w Lb = wdL F k (w + m) (wdL F m w Lb)
  | 0, k, w, Lb => by rw [Nat.zero_add, wdL]; simp
  | m + 1, k, w, Lb => by
    rw [show m + 1 + k = (m + k) + 1 by omega, wdL, wdL, wdL_add m k (w + 1)]
    rw [show w + 1 + (m : Int) = w + ((m + 1 : Nat) : Int) by omega]
theorem wdL_sh {F : Int → Int × (Int → Int) → Int × (Int → Int)} {c : Int} : ∀ (m : Nat) (w : Int) (Lb : Int × (Int → Int)), wdL (fun j => F (c + j)) m w Lb = wdL F m (c + w) Lb
  | 0, _, _ => rfl
  | m + 1, w, Lb => by
    rw [wdL, wdL, wdL_sh m (w + 1), show c + (w + 1) = c + w + 1 by omega]
theorem wdL_mul {F : Int → Int × (Int → Int) → Int × (Int → Int)} (N : Nat) : ∀ (a : Nat) (s : Int) (Lb : Int × (Int → Int)), wdL F (N * a) (s * N) Lb = wdL (fun w Lb => wdL (fun j => F (w * N + j)) N 0 Lb) a s Lb
  | 0, s, Lb => rfl
  | a + 1, s, Lb => by
    rw [show N * (a + 1) = N + N * a by rw [Nat.mul_add]; omega, wdL_add, wdL]
    rw [show s * (N : Int) + (N : Int) = (s + 1) * (N : Int) by rw [Int.add_mul]; omega, wdL_mul N a (s + 1), wdL_sh, Int.add_zero]
/-- what the woods of row make of the best so far -/
noncomputable def lfS (S : Nat → Int → Int) (x : Int) : Nat → Int → (Nat → Int → Int) → Int → (Int → Int) → Int → Int × (Int → Int) → Int × (Int → Int)
  | 0, _, X, used, g, _, Lb => @ite _ ((∀ i, 0 ≤ i → i < S 13 5 → hasB x i → X 10 i = 1) ∧ used < Lb.1) (Classical.propDecidable _) (used, g) Lb
  | r + 1, row, X, used, g, f, Lb => lfS S x r (row % (((10 ^ r : Nat)) : Int)) (fX S (row / (((10 ^ r : Nat)) : Int)) X) (used + row / (((10 ^ r : Nat)) : Int)) (fun i => if i = f then row / (((10 ^ r : Nat)) : Int) else g i) (f + 1) Lb
theorem wdS_lf {S : Nat → Int → Int} {x : Int} : ∀ (r : Nat) (X : Nat → Int → Int) (used : Int) (g : Int → Int) (f : Int) (Lb : Int × (Int → Int)), wdS S x r X used g f Lb = wdL (fun row => lfS S x r row X used g f) (10 ^ r) 0 Lb
  | 0, X, used, g, f, Lb => by
    rw [wdS, show 10 ^ 0 = 0 + 1 from rfl, wdL, wdL, lfS]
  | r + 1, X, used, g, f, Lb => by
    have hN : 0 < 10 ^ r := Nat.pow_pos (by decide)
    rw [wdS, Nat.pow_succ]
    have := wdL_mul (F := fun row => lfS S x (r + 1) row X used g f) (10 ^ r) 10 0 Lb
    rw [Int.zero_mul] at this
    rw [this]
    refine wdL_congr 10 0 Lb (fun v Lb a b => ?_)
    rw [wdS_lf r]
    refine wdL_congr _ 0 Lb (fun j Lb c e => ?_)
    rw [lfS]
    have e1 : (v * (((10 ^ r : Nat)) : Int) + j) / (((10 ^ r : Nat)) : Int) = v := by
      rw [Int.add_comm, Int.add_mul_ediv_right _ _ (by omega), Int.ediv_eq_zero_of_lt c (by omega), Int.zero_add]
    have e2 : (v * (((10 ^ r : Nat)) : Int) + j) % (((10 ^ r : Nat)) : Int) = j := by
      rw [Int.add_comm, Int.add_mul_emod_self_right, Int.emod_eq_of_lt c (by omega)]
    rw [e1, e2]
/-- the best so far, whatever was there at first -/
def lbR (A B : Int × (Int → Int)) : Prop := A.1 = B.1 ∧ (A.1 < 28 → A.2 = B.2)
theorem wdL_rel {F : Int → Int × (Int → Int) → Int × (Int → Int)} (h : ∀ v A B, lbR A B → lbR (F v A) (F v B)) : ∀ (m : Nat) (w : Int) (A B : Int × (Int → Int)), lbR A B → lbR (wdL F m w A) (wdL F m w B)
  | 0, _, _, _, g => g
  | m + 1, w, A, B, g => by
    rw [wdL, wdL]
    exact wdL_rel h m (w + 1) _ _ (h w A B g)
theorem wdS_rel {S : Nat → Int → Int} {x : Int} : ∀ (r : Nat) (X : Nat → Int → Int) (used : Int) (g : Int → Int) (f : Int) (A B : Int × (Int → Int)), lbR A B → lbR (wdS S x r X used g f A) (wdS S x r X used g f B)
  | 0, X, used, g, f, A, B, h => by
    rw [wdS, wdS]
    by_cases c : (∀ i, 0 ≤ i → i < S 13 5 → hasB x i → X 10 i = 1) ∧ used < A.1
    · rw [if_pos c, if_pos ⟨c.1, by rw [← h.1]; exact c.2⟩]; exact ⟨rfl, fun _ => rfl⟩
    · rw [if_neg c, if_neg (fun q => c ⟨q.1, by rw [h.1]; exact q.2⟩)]; exact h
  | r + 1, X, used, g, f, A, B, h => by
    rw [wdS, wdS]
    exact wdL_rel (F := fun w Lb => wdS S x r (fX S w X) (used + w) (fun i => if i = f then w else g i) (f + 1) Lb) (fun v A B q => wdS_rel r _ _ _ _ A B q) 10 0 A B h
theorem lwF_b {S : Nat → Int → Int} {x : Int} {n : Nat} {X : Nat → Int → Int} {b b' : Int → Int} : lwF S x n X b = lwF S x n X b' ∧ (lwF S x n X b ≠ -9 → (wdS S x n X 0 (fun _ => 0) 0 (28, b)).2 = (wdS S x n X 0 (fun _ => 0) 0 (28, b')).2) := by
  have h := wdS_rel (S := S) (x := x) n X 0 (fun _ => 0) 0 (28, b) (28, b') ⟨rfl, fun q => absurd q (by show ¬ (28 : Int) < 28; decide)⟩
  have h2 := wdS_in (S := S) (x := x) n X 0 (fun _ => 0) 0 (28, b) (by decide) ⟨by show (0 : Int) ≤ 28; decide, by show (28 : Int) ≤ 28; decide⟩
  unfold lwF
  rw [← h.1]
  refine ⟨rfl, fun q => h.2 ?_⟩
  split at q
  · exact absurd rfl q
  · omega
section RM
variable {S : Nat → Int → Int} {Tw : Nat → Nat → Int → Int} {M : Nat → Int → Int} {P : Nat → Nat} {d : Nat} {Q : Option Value → GH → Prop}
theorem pot_1 {n : Int} (hn : 0 ≤ n ∧ n ≤ 5) : 1 ≤ bShl 1 n ∧ bShl 1 n ≤ 32 := by
  rcases (show n = 0 ∨ n = 1 ∨ n = 2 ∨ n = 3 ∨ n = 4 ∨ n = 5 by omega) with e | e | e | e | e | e <;> (rw [e]; decide)
theorem s_X12_noLeast {x n : Int} (hx : R32 x) (hn0 : R32 n) (hm : 0 ≤ M 0 5 ∧ M 0 5 ≤ 5) (hy : ¬ ((0 ≤ x ∧ x < bShl 1 (M 0 5)) ∧ 1 ≤ n ∧ n ≤ 3) → Q (some (.int (iI 1))) (hO S Tw M P)) (hn : (0 ≤ x ∧ x < bShl 1 (M 0 5)) ∧ 1 ≤ n ∧ n ≤ 3 → Q (some (.int (iI 0))) (hO S Tw M P)) : CallD (d + 2) 148 [.ref 248, .int (iI x), .int (iI n)] (hO S Tw M P) Q := by
  have e3 : (3 : Int64) = lI 3 := rfl
  have hb := pot_1 hm
  refine g_enter (loc := [some _, some _, some _]) e_X12_noLeast i_X12_noLeast (Nat.le_of_ble_eq_true rfl) rfl ?_
  refine g_l dX12_noLeast_0 rfl rfl ?_
  refine g_i2l dX12_noLeast_1 hx rfl ?_
  refine g_lconst0 dX12_noLeast_2 rfl rfl ?_
  refine g_iconst dX12_noLeast_3 rfl ?_
  refine g_l dX12_noLeast_4 rfl rfl ?_
  refine g_getf dX12_noLeast_5 h248 f_12_115 rfl rfl ?_
  refine g_ishl dX12_noLeast_8 rfl ?_
  refine g_iconst dX12_noLeast_9 rfl ?_
  refine g_isub dX12_noLeast_10 rfl ?_
  refine g_i2l dX12_noLeast_11 (by omega) rfl ?_
  refine g_callS dX12_noLeast_12 m_12_111 (n := 3) rfl (by exact Nat.le_of_ble_eq_true rfl) (by exact Nat.le_of_ble_eq_true rfl) (by rfl) (by rfl) (by rfl) ?_
  refine s_X12_in (by omega) (by decide) (by omega) (fun z => ?_) (fun z => ?_)
  · simp only [Option.toList_some, Option.toList_none, List.cons_append, List.nil_append]
    refine g_if_eq (t := 30) dX12_noLeast_15 (by decide) rfl (by omega) (fun c_15 => False.elim (by omega)) (fun c_15 => ?_)
    refine g_l dX12_noLeast_18 rfl rfl ?_
    refine g_i2l dX12_noLeast_19 hn0 rfl ?_
    refine g_lconst1 dX12_noLeast_20 rfl rfl ?_
    refine g_ldc2_w dX12_noLeast_21 k_12_209 rfl ?_
    rw [e3]
    refine g_callS dX12_noLeast_24 m_12_111 (n := 3) rfl (by exact Nat.le_of_ble_eq_true rfl) (by exact Nat.le_of_ble_eq_true rfl) (by rfl) (by rfl) (by rfl) ?_
    refine s_X12_in (by omega) (by decide) (by decide) (fun y => ?_) (fun y => ?_)
    · simp only [Option.toList_some, Option.toList_none, List.cons_append, List.nil_append]
      refine g_if_ne (t := 34) dX12_noLeast_27 (by decide) rfl (by omega) (fun c_27 => ?_) (fun c_27 => False.elim (by omega))
      refine g_iconst dX12_noLeast_34 rfl ?_
      refine g_retZ dX12_noLeast_35 rfl rfl (by omega) ?_
      exact hn ⟨by omega, y⟩
    · simp only [Option.toList_some, Option.toList_none, List.cons_append, List.nil_append]
      refine g_if_ne (t := 34) dX12_noLeast_27 (by decide) rfl (by omega) (fun c_27 => False.elim (by omega)) (fun c_27 => ?_)
      refine g_iconst dX12_noLeast_30 rfl ?_
      refine g_goto (t := 35) dX12_noLeast_31 (by decide) ?_
      refine g_retZ dX12_noLeast_35 rfl rfl (by omega) ?_
      exact hy (fun v => y v.2)
  · simp only [Option.toList_some, Option.toList_none, List.cons_append, List.nil_append]
    refine g_if_eq (t := 30) dX12_noLeast_15 (by decide) rfl (by omega) (fun c_15 => ?_) (fun c_15 => False.elim (by omega))
    refine g_iconst dX12_noLeast_30 rfl ?_
    refine g_goto (t := 35) dX12_noLeast_31 (by decide) ?_
    refine g_retZ dX12_noLeast_35 rfl rfl (by omega) ?_
    exact hy (fun v => z ⟨v.1.1, by have := v.1.2; omega⟩)
set_option maxHeartbeats 4000000 in
theorem s_X12_findLeast {S0 X : Nat → Int → Int} {x n B : Int} (hn : 1 ≤ n ∧ n ≤ 3) (ht : tdP S0 M) (hp : pOk S0) (ha : agr S0 (nX M) X) (hX : twOk S0 X B) (hB : B ≤ 900000)
    (hq : ∀ M', quFr M M' → (∀ i, 0 ≤ i → i < n → M' 30 i = (wdS S0 x n.toNat X 0 (fun _ => 0) 0 (28, M 30)).2 i) → Q (some (.int (iI (lwF S0 x n.toNat X (M 30))))) (hO S Tw M' P)) : CallD (d + 4) 147 [.ref 248, .int (iI x), .int (iI n)] (hO S Tw M P) Q := by
  have n4 : M 0 4 = X 1 5 := ha.1
  have n5 : S0 13 5 = M 0 5 := ht.1
  have p1 := hp.1
  have p2 := hp.2.1
  have x1 := hX.1.1
  have x2 := hX.1.2.1
  unfold lwF at hq
  rw [wdS_lf] at hq
  obtain ⟨N, hN⟩ : ∃ N : Nat, N = n.toNat := ⟨_, rfl⟩
  rw [← hN] at hq
  have hN3 : N = 1 ∨ N = 2 ∨ N = 3 := by omega
  refine g_enter (loc := [some _, some _, some _, _, _, _, _, _, _, _]) e_X12_findLeast i_X12_findLeast (Nat.le_of_ble_eq_true rfl) rfl ?_
  have main : ∀ all : Int, all = ((10 ^ N : Nat) : Int) → 10 ≤ all ∧ all ≤ 1000 → G none (d + 3) 12 false (some .int) 0 0 (hO S Tw M P).length cX12_findLeast Q 0 23 [some (.ref 248), some (.int (iI x)), some (.int (iI n)), none, none, none, none, none, none, none] [.int (iI all)] (hO S Tw M P) := by
    intro all hall hall2
    refine g_l (loc' := [some _, some _, some _, some _, _, _, _, _, _, _]) dX12_findLeast_23 rfl rfl ?_
    refine g_bipush dX12_findLeast_24 (by decide) rfl ?_
    refine g_l (loc' := [some _, some _, some _, some _, some _, _, _, _, _, _]) dX12_findLeast_26 rfl rfl ?_
    refine g_iconst dX12_findLeast_28 rfl ?_
    refine g_l (loc' := [some _, some _, some _, some _, some _, some _, _, _, _, _]) dX12_findLeast_29 rfl rfl ?_
    have rows : ∀ (m : Nat) (row found : Int) (Lb : Int × (Int → Int)) (M1 : Nat → Int → Int) (z6 z7 z8 z9 : Option Value), 0 ≤ row → row ≤ all → (all - row).toNat = m → quFr M M1 → (found = -9 ∧ Lb.1 = 28 ∨ found = Lb.1 ∧ 0 ≤ Lb.1 ∧ Lb.1 ≤ 27) → (∀ i, 0 ≤ i → i < n → M1 30 i = Lb.2 i) → wdL (fun row => lfS S0 x N row X 0 (fun _ => 0) 0) m row Lb = wdL (fun row => lfS S0 x N row X 0 (fun _ => 0) 0) (10 ^ N) 0 (28, M 30) →
        G none (d + 3) 12 false (some .int) 0 0 (hO S Tw M P).length cX12_findLeast Q 0 31 [some (.ref 248), some (.int (iI x)), some (.int (iI n)), some (.int (iI all)), some (.int (iI found)), some (.int (iI row)), z6, z7, z8, z9] [] (hO S Tw M1 P) := by
      intro m
      induction m with
      | zero =>
        intro row found Lb M1 z6 z7 z8 z9 b1 b2 hm f1 f2 f3 hz
        rw [wdL] at hz
        rw [← hz] at hq
        have h := hq M1 f1 f3
        refine g_l dX12_findLeast_31 rfl rfl ?_
        refine g_l dX12_findLeast_33 rfl rfl ?_
        refine g_icmp_ge (t := 218) dX12_findLeast_34 (by decide) rfl (by omega) (by omega) (fun c_34 => ?_) (fun c_34 => False.elim (by omega))
        refine g_l dX12_findLeast_218 rfl rfl ?_
        refine g_retI dX12_findLeast_220 rfl rfl ?_
        rcases f2 with ⟨f2, f4⟩ | ⟨f2, f4⟩
        · rw [if_pos f4] at h
          rw [f2]; exact h
        · rw [if_neg (by omega)] at h
          rw [f2]; exact h
      | succ m ih =>
        intro row found Lb M1 z6 z7 z8 z9 b1 b2 hm f1 f2 f3 hz
        rw [wdL] at hz
        have m4 : M1 0 4 = M 0 4 := f1.2 4 (by decide)
        have m5 : M1 0 5 = M 0 5 := f1.2 5 (by decide)
        refine g_l dX12_findLeast_31 rfl rfl ?_
        refine g_l dX12_findLeast_33 rfl rfl ?_
        refine g_icmp_ge (t := 218) dX12_findLeast_34 (by decide) rfl (by omega) (by omega) (fun c_34 => False.elim (by omega)) (fun c_34 => ?_)
        refine g_l dX12_findLeast_37 rfl rfl ?_
        refine g_l (loc' := [some _, some _, some _, some _, some _, some _, some _, _, _, _]) dX12_findLeast_38 rfl rfl ?_
        refine g_iconst dX12_findLeast_40 rfl ?_
        refine g_l (loc' := [some _, some _, some _, some _, some _, some _, some _, some _, _, _]) dX12_findLeast_41 rfl rfl ?_
        refine g_l dX12_findLeast_43 rfl rfl ?_
        refine g_callV dX12_findLeast_44 m_12_199 (n := 0) rfl h248 rfl (Nat.le_of_ble_eq_true rfl) (Nat.le_of_ble_eq_true rfl) rfl rfl ?_
        refine s_X12_begin (by omega) (by omega) (fun M2 b => ?_)
        obtain ⟨-, -, c3⟩ := ah1 b (f1.d ht) (by rw [f1.n]; exact ha) hX
        generalize he : -(X 1 6) = e at c3
        have g1 := f1.tr b.q
        have g30 : M2 30 = M1 30 := b.1 30 (by decide) (by decide) (by decide) (by decide) (by decide)
        simp only [Option.toList_some, Option.toList_none, List.cons_append, List.nil_append]
        refine g_iconst dX12_findLeast_47 rfl ?_
        refine g_l (loc' := [some _, some _, some _, some _, some _, some _, some _, some _, some _, _]) dX12_findLeast_48 rfl rfl ?_
        -- behind all quarters
        have fin : ∀ (M3 Y : Nat → Int → Int) (used : Int) (g : Int → Int) (z6 : Int), quFr M M3 → M3 30 = M1 30 → agr S0 (mX M3) (sh6 e Y) → twOk S0 Y (B + 180 * 3) → 0 ≤ used ∧ used ≤ 27 → (∀ i : Int, 0 ≤ i → i < n → g i = row / ((10 ^ (N - 1 - i.toNat) : Nat) : Int) % 10) → lfS S0 x N row X 0 (fun _ => 0) 0 Lb = lfS S0 x 0 (row % 1) Y used g n Lb →
            G none (d + 3) 12 false (some .int) 0 0 (hO S Tw M P).length cX12_findLeast Q 0 96 [some (.ref 248), some (.int (iI x)), some (.int (iI n)), some (.int (iI all)), some (.int (iI found)), some (.int (iI row)), some (.int (iI z6)), some (.int (iI used)), some (.int (iI n)), z9] [] (hO S Tw M3 P) := by
          intro M3 Y used g z6 k1 k2 k3 k4 k5 k6 k7
          rw [lfS] at k7
          have m53 : M3 0 5 = M 0 5 := k1.2 5 (by decide)
          have nextN : ∀ (z6 z7 z8 z9 : Int), ¬ ((∀ i, 0 ≤ i → i < S0 13 5 → hasB x i → Y 10 i = 1) ∧ used < Lb.1) →
              G none (d + 3) 12 false (some .int) 0 0 (hO S Tw M P).length cX12_findLeast Q 0 212 [some (.ref 248), some (.int (iI x)), some (.int (iI n)), some (.int (iI all)), some (.int (iI found)), some (.int (iI row)), some (.int (iI z6)), some (.int (iI z7)), some (.int (iI z8)), some (.int (iI z9))] [] (hO S Tw M3 P) := by
            intro z6 z7 z8 z9 hno
            rw [if_neg hno] at k7
            rw [k7] at hz
            refine g_iinc (loc' := [some _, some _, some _, some _, some _, some _, some _, some _, some _, some _]) dX12_findLeast_212 rfl rfl rfl ?_
            refine g_goto (t := 31) dX12_findLeast_215 (by decide) ?_
            exact ih (row + 1) found Lb M3 _ _ _ _ (by omega) (by omega) (by omega) k1 f2 (fun i y1 y2 => by rw [k2]; exact f3 i y1 y2) hz
          have nextY : ∀ (z9 : Int), (∀ i, 0 ≤ i → i < S0 13 5 → hasB x i → Y 10 i = 1) ∧ used < Lb.1 →
              G none (d + 3) 12 false (some .int) 0 0 (hO S Tw M P).length cX12_findLeast Q 0 168 [some (.ref 248), some (.int (iI x)), some (.int (iI n)), some (.int (iI all)), some (.int (iI found)), some (.int (iI row)), some (.int (iI z6)), some (.int (iI used)), some (.int (iI 1)), some (.int (iI z9))] [] (hO S Tw M3 P) := by
            intro z9 hyes
            rw [if_pos hyes] at k7
            rw [k7] at hz
            refine g_l dX12_findLeast_168 rfl rfl ?_
            refine g_l (loc' := [some _, some _, some _, some _, some _, some _, some _, some _, some _, some _]) dX12_findLeast_170 rfl rfl ?_
            refine g_l dX12_findLeast_172 rfl rfl ?_
            refine g_l (loc' := [some _, some _, some _, some _, some _, some _, some _, some _, some _, some _]) dX12_findLeast_173 rfl rfl ?_
            refine g_iconst dX12_findLeast_175 rfl ?_
            refine g_l (loc' := [some _, some _, some _, some _, some _, some _, some _, some _, some _, some _]) dX12_findLeast_176 rfl rfl ?_
            have wr : ∀ (r : Nat) (k : Int) (M4 : Nat → Int → Int), 0 ≤ k → k ≤ n → (n - k).toNat = r → quFr M M4 → (∀ i, 0 ≤ i → i < k → M4 30 i = g i) →
                G none (d + 3) 12 false (some .int) 0 0 (hO S Tw M P).length cX12_findLeast Q 0 178 [some (.ref 248), some (.int (iI x)), some (.int (iI n)), some (.int (iI all)), some (.int (iI used)), some (.int (iI row)), some (.int (iI ((10 ^ r : Nat) : Int))), some (.int (iI used)), some (.int (iI 1)), some (.int (iI k))] [] (hO S Tw M4 P) := by
              intro r
              induction r with
              | zero =>
                intro k M4 w1 w2 hr v1 v2
                refine g_l dX12_findLeast_178 rfl rfl ?_
                refine g_l dX12_findLeast_180 rfl rfl ?_
                refine g_icmp_ge (t := 212) dX12_findLeast_181 (by decide) rfl (by omega) (by omega) (fun c_181 => ?_) (fun c_181 => False.elim (by omega))
                refine g_iinc (loc' := [some _, some _, some _, some _, some _, some _, some _, some _, some _, some _]) dX12_findLeast_212 rfl rfl rfl ?_
                refine g_goto (t := 31) dX12_findLeast_215 (by decide) ?_
                exact ih (row + 1) used (used, g) M4 _ _ _ _ (by omega) (by omega) (by omega) v1 (Or.inr ⟨rfl, k5⟩) (fun i y1 y2 => v2 i y1 (by omega)) hz
              | succ r ihr =>
                intro k M4 w1 w2 hr v1 v2
                have hr2 : r = 0 ∨ r = 1 ∨ r = 2 := by omega
                have hP : ((10 ^ (r + 1) : Nat) : Int) = ((10 ^ r : Nat) : Int) * 10 ∧ 1 ≤ ((10 ^ r : Nat) : Int) ∧ ((10 ^ r : Nat) : Int) ≤ 100 := by rcases hr2 with h | h | h <;> (subst h; decide)
                have hg := k6 k w1 (by omega)
                rw [show N - 1 - k.toNat = r by omega] at hg
                obtain ⟨hP1, hP2, hP3⟩ := hP
                rw [hP1]
                generalize ((10 ^ r : Nat) : Int) = PP at hP1 hP2 hP3 hg ihr ⊢
                refine g_l dX12_findLeast_178 rfl rfl ?_
                refine g_l dX12_findLeast_180 rfl rfl ?_
                refine g_icmp_ge (t := 212) dX12_findLeast_181 (by decide) rfl (by omega) (by omega) (fun c_181 => False.elim (by omega)) (fun c_181 => ?_)
                refine g_l dX12_findLeast_184 rfl rfl ?_
                refine g_bipush dX12_findLeast_186 (by decide) rfl ?_
                refine g_idiv dX12_findLeast_188 (by omega) (by omega) rfl ?_
                rw [show PP * 10 / 10 = PP by omega]
                refine g_l (loc' := [some _, some _, some _, some _, some _, some _, some _, some _, some _, some _]) dX12_findLeast_189 rfl rfl ?_
                refine g_l dX12_findLeast_191 rfl rfl ?_
                refine g_getf dX12_findLeast_192 h248 f_12_102 rfl rfl ?_
                refine g_l dX12_findLeast_195 rfl rfl ?_
                refine g_l dX12_findLeast_197 rfl rfl ?_
                refine g_l dX12_findLeast_199 rfl rfl ?_
                refine g_idiv dX12_findLeast_201 (by omega) (by omega) rfl ?_
                refine g_bipush dX12_findLeast_202 (by decide) rfl ?_
                refine g_irem dX12_findLeast_204 (by exact ⟨Int.ediv_nonneg b1 (by omega), Int.lt_of_le_of_lt (Int.ediv_le_self _ b1) (by omega)⟩) (by decide) rfl ?_
                rw [← hg]
                refine g_iast dX12_findLeast_205 h278 (by omega) (by decide) p278 rfl ?_
                refine g_iinc (loc' := [some _, some _, some _, some _, some _, some _, some _, some _, some _, some _]) dX12_findLeast_206 rfl rfl rfl ?_
                refine g_goto (t := 178) dX12_findLeast_209 (by decide) ?_
                refine ihr (k + 1) _ (by omega) (by omega) (by omega) (v1.tr ⟨fun c _ _ _ y4 _ => wS_o y4, fun j _ => by rw [wS_o (by decide)]⟩) (fun i y1 y2 => ?_)
                rw [wS_s]
                by_cases c : i = k
                · rw [if_pos c, c]
                · rw [if_neg c]; exact v2 i y1 (by omega)
            have := wr N 0 M3 (by decide) (by omega) (by omega) k1 (fun i y1 y2 => by omega)
            rw [← hall] at this
            exact this
          refine g_iconst dX12_findLeast_96 rfl ?_
          refine g_l (loc' := [some _, some _, some _, some _, some _, some _, some _, some _, some _, _]) dX12_findLeast_97 rfl rfl ?_
          refine g_iconst dX12_findLeast_99 rfl ?_
          refine g_l (loc' := [some _, some _, some _, some _, some _, some _, some _, some _, some _, some _]) dX12_findLeast_100 rfl rfl ?_
          have ready : ∀ (r : Nat) (p : Int) (b : Int), 0 ≤ p → p ≤ M 0 5 → (M 0 5 - p).toNat = r → (b = 1 ∧ (∀ i, 0 ≤ i → i < p → hasB x i → Y 10 i = 1) ∨ b = 0 ∧ ¬ (∀ i, 0 ≤ i → i < S0 13 5 → hasB x i → Y 10 i = 1)) →
              G none (d + 3) 12 false (some .int) 0 0 (hO S Tw M P).length cX12_findLeast Q 0 102 [some (.ref 248), some (.int (iI x)), some (.int (iI n)), some (.int (iI all)), some (.int (iI found)), some (.int (iI row)), some (.int (iI z6)), some (.int (iI used)), some (.int (iI b)), some (.int (iI p))] [] (hO S Tw M3 P) := by
            intro r
            induction r with
            | zero =>
              intro p b w1 w2 hr hb
              have ep : p = M 0 5 := by omega
              rcases hb with ⟨hb, h⟩ | ⟨hb, h⟩
              · subst hb
                have hall' : ∀ i, 0 ≤ i → i < S0 13 5 → hasB x i → Y 10 i = 1 := fun i y1 y2 => h i y1 (by omega)
                refine g_l dX12_findLeast_102 rfl rfl ?_
                refine g_l dX12_findLeast_104 rfl rfl ?_
                refine g_getf dX12_findLeast_105 h248 f_12_115 rfl rfl ?_
                rw [m53]
                refine g_icmp_ge (t := 149) dX12_findLeast_108 (by decide) rfl (by omega) (by omega) (fun c_108 => ?_) (fun c_108 => False.elim (by omega))
                refine g_l dX12_findLeast_149 rfl rfl ?_
                refine g_if_eq (t := 212) dX12_findLeast_151 (by decide) rfl (by omega) (fun c_151 => False.elim (by omega)) (fun c_151 => ?_)
                refine g_l dX12_findLeast_154 rfl rfl ?_
                refine g_bipush dX12_findLeast_156 (by decide) rfl ?_
                refine g_icmp_eq (t := 168) dX12_findLeast_158 (by decide) rfl (by omega) (by omega) (fun c_158 => ?_) (fun c_158 => ?_)
                · exact nextY _ ⟨hall', by omega⟩
                · refine g_l dX12_findLeast_161 rfl rfl ?_
                  refine g_l dX12_findLeast_163 rfl rfl ?_
                  refine g_icmp_ge (t := 212) dX12_findLeast_165 (by decide) rfl (by omega) (by omega) (fun c_165 => ?_) (fun c_165 => ?_)
                  · exact nextN _ _ _ _ (fun q => by have := q.2; omega)
                  · exact nextY _ ⟨hall', by omega⟩
              · subst hb
                refine g_l dX12_findLeast_102 rfl rfl ?_
                refine g_l dX12_findLeast_104 rfl rfl ?_
                refine g_getf dX12_findLeast_105 h248 f_12_115 rfl rfl ?_
                rw [m53]
                refine g_icmp_ge (t := 149) dX12_findLeast_108 (by decide) rfl (by omega) (by omega) (fun c_108 => ?_) (fun c_108 => False.elim (by omega))
                refine g_l dX12_findLeast_149 rfl rfl ?_
                refine g_if_eq (t := 212) dX12_findLeast_151 (by decide) rfl (by omega) (fun c_151 => ?_) (fun c_151 => False.elim (by omega))
                exact nextN _ _ _ _ (fun q => h q.1)
            | succ r ihr =>
              intro p b w1 w2 hr hb
              have e23 : M3 23 p = Y 10 p := (k3.2.2.2 p w1 (by omega)).2.2
              have r23 := (k4.2.1 p w1 (by omega)).2.2.1
              rcases hb with ⟨hb, h⟩ | ⟨hb, h⟩
              · subst hb
                have go1 : (hasB x p → Y 10 p = 1) → G none (d + 3) 12 false (some .int) 0 0 (hO S Tw M P).length cX12_findLeast Q 0 102 [some (.ref 248), some (.int (iI x)), some (.int (iI n)), some (.int (iI all)), some (.int (iI found)), some (.int (iI row)), some (.int (iI z6)), some (.int (iI used)), some (.int (iI 1)), some (.int (iI (p + 1)))] [] (hO S Tw M3 P) := fun hh => ihr (p + 1) 1 (by omega) (by omega) (by omega) (Or.inl ⟨rfl, fun i y1 y2 => by
                  by_cases c : i = p
                  · subst c; exact hh
                  · exact h i y1 (by omega)⟩)
                refine g_l dX12_findLeast_102 rfl rfl ?_
                refine g_l dX12_findLeast_104 rfl rfl ?_
                refine g_getf dX12_findLeast_105 h248 f_12_115 rfl rfl ?_
                rw [m53]
                refine g_icmp_ge (t := 149) dX12_findLeast_108 (by decide) rfl (by omega) (by omega) (fun c_108 => False.elim (by omega)) (fun c_108 => ?_)
                refine g_l dX12_findLeast_111 rfl rfl ?_
                refine g_if_eq (t := 140) dX12_findLeast_113 (by decide) rfl (by omega) (fun c_113 => False.elim (by omega)) (fun c_113 => ?_)
                refine g_l dX12_findLeast_116 rfl rfl ?_
                refine g_l dX12_findLeast_117 rfl rfl ?_
                refine g_callS dX12_findLeast_119 m_12_134 (n := 2) rfl (by exact Nat.le_of_ble_eq_true rfl) (by exact Nat.le_of_ble_eq_true rfl) (by rfl) (by rfl) (by rfl) ?_
                refine s_X12_has (fun z => ?_) (fun z => ?_)
                · simp only [Option.toList_some, Option.toList_none, List.cons_append, List.nil_append]
                  refine g_if_eq (t := 136) dX12_findLeast_122 (by decide) rfl (by omega) (fun c_122 => False.elim (by omega)) (fun c_122 => ?_)
                  refine g_l dX12_findLeast_125 rfl rfl ?_
                  refine g_getf dX12_findLeast_126 h248 f_12_81 rfl rfl ?_
                  refine g_l dX12_findLeast_129 rfl rfl ?_
                  refine g_iald dX12_findLeast_131 h271 (by omega) (by decide) rfl ?_
                  rw [e23]
                  refine g_iconst dX12_findLeast_132 rfl ?_
                  refine g_icmp_ne (t := 140) dX12_findLeast_133 (by decide) rfl (by omega) (by omega) (fun c_133 => ?_) (fun c_133 => ?_)
                  · refine g_iconst dX12_findLeast_140 rfl ?_
                    refine g_l (loc' := [some _, some _, some _, some _, some _, some _, some _, some _, some _, some _]) dX12_findLeast_141 rfl rfl ?_
                    refine g_iinc (loc' := [some _, some _, some _, some _, some _, some _, some _, some _, some _, some _]) dX12_findLeast_143 rfl rfl rfl ?_
                    refine g_goto (t := 102) dX12_findLeast_146 (by decide) ?_
                    exact ihr (p + 1) 0 (by omega) (by omega) (by omega) (Or.inr ⟨rfl, fun q => c_133 (q p w1 (by omega) z)⟩)
                  · refine g_iconst dX12_findLeast_136 rfl ?_
                    refine g_goto (t := 141) dX12_findLeast_137 (by decide) ?_
                    refine g_l (loc' := [some _, some _, some _, some _, some _, some _, some _, some _, some _, some _]) dX12_findLeast_141 rfl rfl ?_
                    refine g_iinc (loc' := [some _, some _, some _, some _, some _, some _, some _, some _, some _, some _]) dX12_findLeast_143 rfl rfl rfl ?_
                    refine g_goto (t := 102) dX12_findLeast_146 (by decide) ?_
                    exact go1 (fun _ => by omega)
                · simp only [Option.toList_some, Option.toList_none, List.cons_append, List.nil_append]
                  refine g_if_eq (t := 136) dX12_findLeast_122 (by decide) rfl (by omega) (fun c_122 => ?_) (fun c_122 => False.elim (by omega))
                  refine g_iconst dX12_findLeast_136 rfl ?_
                  refine g_goto (t := 141) dX12_findLeast_137 (by decide) ?_
                  refine g_l (loc' := [some _, some _, some _, some _, some _, some _, some _, some _, some _, some _]) dX12_findLeast_141 rfl rfl ?_
                  refine g_iinc (loc' := [some _, some _, some _, some _, some _, some _, some _, some _, some _, some _]) dX12_findLeast_143 rfl rfl rfl ?_
                  refine g_goto (t := 102) dX12_findLeast_146 (by decide) ?_
                  exact go1 (fun q => absurd q z)
              · subst hb
                refine g_l dX12_findLeast_102 rfl rfl ?_
                refine g_l dX12_findLeast_104 rfl rfl ?_
                refine g_getf dX12_findLeast_105 h248 f_12_115 rfl rfl ?_
                rw [m53]
                refine g_icmp_ge (t := 149) dX12_findLeast_108 (by decide) rfl (by omega) (by omega) (fun c_108 => False.elim (by omega)) (fun c_108 => ?_)
                refine g_l dX12_findLeast_111 rfl rfl ?_
                refine g_if_eq (t := 140) dX12_findLeast_113 (by decide) rfl (by omega) (fun c_113 => ?_) (fun c_113 => False.elim (by omega))
                refine g_iconst dX12_findLeast_140 rfl ?_
                refine g_l (loc' := [some _, some _, some _, some _, some _, some _, some _, some _, some _, some _]) dX12_findLeast_141 rfl rfl ?_
                refine g_iinc (loc' := [some _, some _, some _, some _, some _, some _, some _, some _, some _, some _]) dX12_findLeast_143 rfl rfl rfl ?_
                refine g_goto (t := 102) dX12_findLeast_146 (by decide) ?_
                exact ihr (p + 1) 0 (by omega) (by omega) (by omega) (Or.inr ⟨rfl, h⟩)
          exact ready (M 0 5).toNat 0 1 (by decide) (by omega) (by rw [Int.sub_zero]) (Or.inl ⟨rfl, fun i y1 y2 => by omega⟩)
        have inner : ∀ (r : Nat) (k used : Int) (Y M3 : Nat → Int → Int) (g : Int → Int), 0 ≤ k → k ≤ n → (n - k).toNat = r → quFr M M3 → M3 30 = M1 30 → agr S0 (mX M3) (sh6 e Y) → twOk S0 Y (B + 180 * k) → 0 ≤ used ∧ used ≤ 9 * k → (∀ i : Int, 0 ≤ i → i < k → g i = row / ((10 ^ (N - 1 - i.toNat) : Nat) : Int) % 10) → lfS S0 x N row X 0 (fun _ => 0) 0 Lb = lfS S0 x r (row % ((10 ^ r : Nat) : Int)) Y used g k Lb →
            G none (d + 3) 12 false (some .int) 0 0 (hO S Tw M P).length cX12_findLeast Q 0 50 [some (.ref 248), some (.int (iI x)), some (.int (iI n)), some (.int (iI all)), some (.int (iI found)), some (.int (iI row)), some (.int (iI ((10 ^ r : Nat) : Int))), some (.int (iI used)), some (.int (iI k)), z9] [] (hO S Tw M3 P) := by
          intro r
          induction r with
          | zero =>
            intro k used Y M3 g w1 w2 hr k1 k2 k3 k4 k5 k6 k7
            have ek : k = n := by omega
            subst ek
            refine g_l dX12_findLeast_50 rfl rfl ?_
            refine g_l dX12_findLeast_52 rfl rfl ?_
            refine g_icmp_ge (t := 96) dX12_findLeast_53 (by decide) rfl (by omega) (by omega) (fun c_53 => ?_) (fun c_53 => False.elim (by omega))
            have k4' : twOk S0 Y (B + 180 * 3) := by
              obtain ⟨⟨t1, t2, t3, t4⟩, q, r⟩ := k4
              exact ⟨⟨t1, t2, t3, by omega⟩, q, r⟩
            exact fin M3 Y used g _ k1 k2 k3 k4' (by omega) k6 k7
          | succ r ihr =>
            intro k used Y M3 g w1 w2 hr k1 k2 k3 k4 k5 k6 k7
            have hr2 : r = 0 ∨ r = 1 ∨ r = 2 := by omega
            have hP : ((10 ^ (r + 1) : Nat) : Int) = ((10 ^ r : Nat) : Int) * 10 ∧ 1 ≤ ((10 ^ r : Nat) : Int) ∧ ((10 ^ r : Nat) : Int) ≤ 100 := by rcases hr2 with h | h | h <;> (subst h; decide)
            have hAB : row % (((10 ^ r : Nat) : Int) * 10) / ((10 ^ r : Nat) : Int) = row / ((10 ^ r : Nat) : Int) % 10 ∧ row % (((10 ^ r : Nat) : Int) * 10) % ((10 ^ r : Nat) : Int) = row % ((10 ^ r : Nat) : Int) := by
              rcases hr2 with h | h | h
              · subst h; show row % (1 * 10) / 1 = row / 1 % 10 ∧ row % (1 * 10) % 1 = row % 1; omega
              · subst h; show row % (10 * 10) / 10 = row / 10 % 10 ∧ row % (10 * 10) % 10 = row % 10; omega
              · subst h; show row % (100 * 10) / 100 = row / 100 % 10 ∧ row % (100 * 10) % 100 = row % 100; omega
            obtain ⟨hP1, hP2, hP3⟩ := hP
            obtain ⟨hA, hB2⟩ := hAB
            rw [lfS, hP1, hA, hB2] at k7
            have hgk : row / ((10 ^ r : Nat) : Int) % 10 = row / ((10 ^ (N - 1 - k.toNat) : Nat) : Int) % 10 := by rw [show N - 1 - k.toNat = r by omega]
            rw [hP1]
            generalize ((10 ^ r : Nat) : Int) = PP at hP1 hP2 hP3 hA hB2 k7 ihr hgk ⊢
            have hdg : 0 ≤ row / PP % 10 ∧ row / PP % 10 ≤ 9 := by omega
            have hrd : 0 ≤ row / PP ∧ row / PP < 2147483648 := ⟨Int.ediv_nonneg b1 (by omega), Int.lt_of_le_of_lt (Int.ediv_le_self _ b1) (by omega)⟩
            have t3 := k1.d ht
            have k4b := (sh6_ok (e := e) k4).agr k3
            refine g_l dX12_findLeast_50 rfl rfl ?_
            refine g_l dX12_findLeast_52 rfl rfl ?_
            refine g_icmp_ge (t := 96) dX12_findLeast_53 (by decide) rfl (by omega) (by omega) (fun c_53 => False.elim (by omega)) (fun c_53 => ?_)
            refine g_l dX12_findLeast_56 rfl rfl ?_
            refine g_bipush dX12_findLeast_58 (by decide) rfl ?_
            refine g_idiv dX12_findLeast_60 (by omega) (by omega) rfl ?_
            rw [show PP * 10 / 10 = PP by omega]
            refine g_l (loc' := [some _, some _, some _, some _, some _, some _, some _, some _, some _, _]) dX12_findLeast_61 rfl rfl ?_
            refine g_l dX12_findLeast_63 rfl rfl ?_
            refine g_l dX12_findLeast_65 rfl rfl ?_
            refine g_l dX12_findLeast_67 rfl rfl ?_
            refine g_idiv dX12_findLeast_69 (by omega) (by omega) rfl ?_
            refine g_bipush dX12_findLeast_70 (by decide) rfl ?_
            refine g_irem dX12_findLeast_72 hrd (by decide) rfl ?_
            refine g_iadd dX12_findLeast_73 rfl ?_
            refine g_l (loc' := [some _, some _, some _, some _, some _, some _, some _, some _, some _, _]) dX12_findLeast_74 rfl rfl ?_
            refine g_l dX12_findLeast_76 rfl rfl ?_
            refine g_l dX12_findLeast_77 rfl rfl ?_
            refine g_l dX12_findLeast_79 rfl rfl ?_
            refine g_idiv dX12_findLeast_81 (by omega) (by omega) rfl ?_
            refine g_bipush dX12_findLeast_82 (by decide) rfl ?_
            refine g_irem dX12_findLeast_84 hrd (by decide) rfl ?_
            refine g_iconst dX12_findLeast_85 rfl ?_
            refine g_callV dX12_findLeast_86 m_12_192 (n := 2) rfl h248 rfl (Nat.le_of_ble_eq_true rfl) (Nat.le_of_ble_eq_true rfl) rfl rfl ?_
            refine s_X12_go (b := 0) (Or.inl rfl) hdg t3 hp k4b (by omega) (fun M4 a1 a2 => ?_)
            generalize setF (fun i => M3 23 i = 0 ∧ ¬ gX S0 (row / PP % 10) 0 (mX M3) 10 i = 0) (M3 0 5).toNat = zz
            have a3 := fX_agr (w := row / PP % 10) k3 (sh6_ok (e := e) k4)
            rw [fX_sh] at a3
            rw [gX_0] at a2
            simp only [Option.toList_some, Option.toList_none, List.cons_append, List.nil_append]
            refine g_s dX12_findLeast_89 rfl rfl rfl ?_
            refine g_iinc (loc' := [some _, some _, some _, some _, some _, some _, some _, some _, some _, _]) dX12_findLeast_90 rfl rfl rfl ?_
            refine g_goto (t := 50) dX12_findLeast_93 (by decide) ?_
            refine ihr (k + 1) (used + row / PP % 10) (fX S0 (row / PP % 10) Y) M4 (fun i => if i = k then row / PP % 10 else g i) (by omega) (by omega) (by omega) (k1.tr a1.q) (by rw [a1.1 30 (by decide) (by decide) (by decide) (by decide) (by decide) (by decide)]; exact k2) (a2.tr a3) ?_ (by omega) (fun i y1 y2 => ?_) k7
            · rw [show B + 180 * (k + 1) = B + 180 * k + 180 by omega]
              exact fX_ok hp k4 hdg
            · show (if i = k then row / PP % 10 else g i) = _
              by_cases c : i = k
              · rw [if_pos c, hgk, c]
              · rw [if_neg c]; exact k6 i y1 (by omega)
        have hfirst := inner N 0 0 X M2 (fun _ => 0) (by decide) (by omega) (by omega) g1 g30 c3 (by rw [Int.mul_zero, Int.add_zero]; exact hX) (by omega) (fun i y1 y2 => by omega) (by rw [Int.emod_eq_of_lt b1 (by omega)])
        rw [← hall] at hfirst
        exact hfirst
    exact rows (10 ^ N) 0 (-9) (28, M 30) M none none none none (by decide) (by omega) (by omega) quFr.rf (Or.inl ⟨rfl, rfl⟩) (fun _ _ _ => rfl) rfl
  rcases hN3 with h | h | h
  · subst h
    refine g_l dX12_findLeast_0 rfl rfl ?_
    refine g_iconst dX12_findLeast_1 rfl ?_
    refine g_icmp_ne (t := 10) dX12_findLeast_2 (by decide) rfl (by omega) (by omega) (fun c_2 => False.elim (by omega)) (fun c_2 => ?_)
    refine g_bipush dX12_findLeast_5 (by decide) rfl ?_
    refine g_goto (t := 23) dX12_findLeast_7 (by decide) ?_
    exact main 10 rfl (by decide)
  · subst h
    refine g_l dX12_findLeast_0 rfl rfl ?_
    refine g_iconst dX12_findLeast_1 rfl ?_
    refine g_icmp_ne (t := 10) dX12_findLeast_2 (by decide) rfl (by omega) (by omega) (fun c_2 => ?_) (fun c_2 => False.elim (by omega))
    refine g_l dX12_findLeast_10 rfl rfl ?_
    refine g_iconst dX12_findLeast_11 rfl ?_
    refine g_icmp_ne (t := 20) dX12_findLeast_12 (by decide) rfl (by omega) (by omega) (fun c_12 => False.elim (by omega)) (fun c_12 => ?_)
    refine g_bipush dX12_findLeast_15 (by decide) rfl ?_
    refine g_goto (t := 23) dX12_findLeast_17 (by decide) ?_
    exact main 100 rfl (by decide)
  · subst h
    refine g_l dX12_findLeast_0 rfl rfl ?_
    refine g_iconst dX12_findLeast_1 rfl ?_
    refine g_icmp_ne (t := 10) dX12_findLeast_2 (by decide) rfl (by omega) (by omega) (fun c_2 => ?_) (fun c_2 => False.elim (by omega))
    refine g_l dX12_findLeast_10 rfl rfl ?_
    refine g_iconst dX12_findLeast_11 rfl ?_
    refine g_icmp_ne (t := 20) dX12_findLeast_12 (by decide) rfl (by omega) (by omega) (fun c_12 => ?_) (fun c_12 => False.elim (by omega))
    refine g_sipush dX12_findLeast_20 (by decide) rfl ?_
    exact main 1000 rfl (by decide)
end RM
