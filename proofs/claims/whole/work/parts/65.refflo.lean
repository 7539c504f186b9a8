/-! the reference: floors -/
theorem plA_ok {S X : Nat → Int → Int} {pl : Int → Int} {B : Int} (hX : twOk S X B) (h : ∀ i : Int, 0 ≤ i → i < S 13 5 → 0 ≤ pl i ∧ pl i < X 1 5) : twOk S (plA pl X) B := by
  obtain ⟨⟨t1, t2, t3, t4⟩, q, r⟩ := hX
  refine ⟨⟨t1, t2, t3, t4⟩, fun p a b => ?_, fun p a b => (h p a b).2⟩
  have := h p a b
  exact ⟨⟨this.1, by show pl p < 5; omega⟩, (q p a b).2⟩
section RO
variable {S : Nat → Int → Int} {Tw : Nat → Nat → Int → Int} {M : Nat → Int → Int} {P : Nat → Nat} {d : Nat} {Q : Option Value → GH → Prop}
set_option maxHeartbeats 4000000 in
theorem s_X12_findFloors {S0 X : Nat → Int → Int} {n w B : Int} {N : Nat} (hN : S0 13 5 = N) (hn : 0 ≤ n ∧ n ≤ 9) (hw : 0 ≤ w ∧ w ≤ 9) (ht : tdP S0 M) (hp : pOk S0) (ha : agr S0 (nX M) X) (hX : twOk S0 X B) (hB : B ≤ 900000)
    (hq : ∀ M', quFr M M' → (∀ j : Int, 0 ≤ j → j < N → M' 31 j = (rfL S0 X n.toNat w N (frN X N).toNat 0 (-9) (M 31)).2 j) → Q (some (.int (iI (rfL S0 X n.toNat w N (frN X N).toNat 0 (-9) (M 31)).1))) (hO S Tw M' P)) : CallD (d + 5) 151 [.ref 248, .int (iI n), .int (iI w)] (hO S Tw M P) Q := by
  have n4 : M 0 4 = X 1 5 := ha.1
  have n5 : M 0 5 = N := by rw [← ht.1]; exact hN
  have p2 := hp.2.1
  have x1 := hX.1.1
  have x2 := hX.1.2.1
  have hk : 2 ≤ X 1 5 ∧ X 1 5 ≤ 5 := ⟨x1, x2⟩
  have hN5 : N ≤ 5 := by omega
  have hfr := frN_in hk
  have h12 : ∀ p : Int, 0 ≤ p → p < N → M 12 p = X 10 p := fun p a b => (ha.2.2.2 p a (by omega)).2.2
  have h10 : ∀ p : Int, 0 ≤ p → p < N → 0 ≤ X 10 p ∧ X 10 p ≤ 3 := fun p a b => (hX.2.1 p a (by omega)).2.2.1
  have pw5 : ∀ i : Fin 6, pwF 5 i.val ≤ 3125 := by decide
  have hpr : ∀ r, ∀ i : Int, 0 ≤ i → i < N → 0 ≤ plR X N r i ∧ plR X N r i < X 1 5 := fun r => plR_in hk N r (fun j a b => ⟨(hX.2.1 j a (by omega)).1.1, hX.2.2 j a (by omega)⟩)
  obtain ⟨all, hall⟩ : ∃ z, z = frN X N := ⟨_, rfl⟩
  have hall1 := (hfr N).1
  have hall2 := Int.le_trans (hfr N).2 (pw5 ⟨N, by omega⟩)
  rw [← hall] at hall1 hall2 hq
  generalize hT : rfL S0 X n.toNat w N all.toNat 0 (-9) (M 31) = T at hq
  refine g_enter (loc := [some _, some _, some _, _, _, _, _, _, _]) e_X12_findFloors i_X12_findFloors (Nat.le_of_ble_eq_true rfl) rfl ?_
  refine g_iconst dX12_findFloors_0 rfl ?_
  refine g_l (loc' := [some _, some _, some _, some _, _, _, _, _, _]) dX12_findFloors_1 rfl rfl ?_
  refine g_iconst dX12_findFloors_2 rfl ?_
  refine g_l (loc' := [some _, some _, some _, some _, some _, _, _, _, _]) dX12_findFloors_3 rfl rfl ?_
  have rows : ∀ (m : Nat) (row most : Int) (be : Int → Int) (M1 : Nat → Int → Int) (z6 z7 z8 : Option Value), 0 ≤ row → row ≤ all → (all - row).toNat = m → -9 ≤ most ∧ most ≤ 5 → quFr M M1 → (∀ j : Int, 0 ≤ j → j < N → M1 31 j = be j) → rfL S0 X n.toNat w N m row most be = T →
      G none (d + 4) 12 false (some .int) 0 0 (hO S Tw M P).length cX12_findFloors Q 0 48 [some (.ref 248), some (.int (iI n)), some (.int (iI w)), some (.int (iI all)), some (.int (iI most)), some (.int (iI row)), z6, z7, z8] [] (hO S Tw M1 P) := by
    intro m
    induction m with
    | zero =>
      intro row most be M1 z6 z7 z8 b1 b2 hm hmo f1 f2 hz
      rw [rfL] at hz
      rw [← hz] at hq
      refine g_l dX12_findFloors_48 rfl rfl ?_
      refine g_l dX12_findFloors_50 rfl rfl ?_
      refine g_icmp_ge (t := 211) dX12_findFloors_51 (by decide) rfl (by omega) (by omega) (fun c_51 => ?_) (fun c_51 => False.elim (by omega))
      refine g_l dX12_findFloors_211 rfl rfl ?_
      refine g_retI dX12_findFloors_213 rfl rfl ?_
      exact hq M1 f1 f2
    | succ m ih =>
      intro row most be M1 z6 z7 z8 b1 b2 hm hmo f1 f2 hz
      rw [rfL] at hz
      have m4 : M1 0 4 = M 0 4 := f1.2 4 (by decide)
      have m5 : M1 0 5 = M 0 5 := f1.2 5 (by decide)
      refine g_l dX12_findFloors_48 rfl rfl ?_
      refine g_l dX12_findFloors_50 rfl rfl ?_
      refine g_icmp_ge (t := 211) dX12_findFloors_51 (by decide) rfl (by omega) (by omega) (fun c_51 => False.elim (by omega)) (fun c_51 => ?_)
      refine g_l dX12_findFloors_54 rfl rfl ?_
      refine g_callV dX12_findFloors_55 m_12_199 (n := 0) rfl h248 rfl (Nat.le_of_ble_eq_true rfl) (Nat.le_of_ble_eq_true rfl) rfl rfl ?_
      refine s_X12_begin (by omega) (by omega) (fun M2 b => ?_)
      obtain ⟨-, -, c3⟩ := ah1 b (f1.d ht) (by rw [f1.n]; exact ha) hX
      generalize he : -(X 1 6) = e at c3
      have g1 := f1.tr b.q
      have g31 : M2 31 = M1 31 := b.1 31 (by decide) (by decide) (by decide) (by decide) (by decide)
      have w4 : M2 0 4 = X 1 5 := by rw [g1.2 4 (by decide)]; exact n4
      have w5 : M2 0 5 = N := by rw [g1.2 5 (by decide)]; exact n5
      have w12 : M2 12 = M 12 := g1.1 12 (by decide) (by decide) (by decide) (by decide) (by decide)
      have w24 : ∀ j : Int, 0 ≤ j → j < N → M2 24 j = X 8 j := fun j a z => (c3.2.2.2 j a (by omega)).1
      simp only [Option.toList_some, Option.toList_none, List.cons_append, List.nil_append]
      refine g_l dX12_findFloors_58 rfl rfl ?_
      refine g_l (loc' := [some _, some _, some _, some _, some _, some _, some _, _, _]) dX12_findFloors_60 rfl rfl ?_
      refine g_l dX12_findFloors_62 rfl rfl ?_
      -- the rest, the pots standing
      have rest : ∀ (M3 : Nat → Int → Int) (left i7 : Int), (∀ c, c ≠ 24 → M3 c = M2 c) → (∀ j : Int, 0 ≤ j → j < N → M3 24 j = plR X N row j) →
          G none (d + 4) 12 false (some .int) 0 0 (hO S Tw M P).length cX12_findFloors Q 0 114 [some (.ref 248), some (.int (iI n)), some (.int (iI w)), some (.int (iI all)), some (.int (iI most)), some (.int (iI row)), some (.int (iI left)), some (.int (iI i7)), z8] [] (hO S Tw M3 P) := by
        intro M3 left i7 k1 k2
        have q3 : quFr M M3 := g1.tr ⟨fun c _ _ y3 _ _ => k1 c (by omega), fun j _ => by rw [k1 0 (by decide)]⟩
        have c4 : agr S0 (mX M3) (sh6 e (plA (plR X N row) X)) := by
          obtain ⟨a1, a2, a3, a4⟩ := c3
          refine ⟨?_, ?_, fun k y1 y2 => ⟨?_, ?_, ?_⟩, fun p y1 y2 => ⟨k2 p y1 (by omega), ?_, ?_⟩⟩
          · show M3 0 4 = X 1 5
            rw [k1 0 (by decide)]; exact w4
          · show M3 0 34 = X 1 6 + e
            rw [k1 0 (by decide)]; exact a2
          · show (if k < M3 0 4 then M3 19 k else M3 4 k) = X 2 k
            rw [k1 0 (by decide), k1 19 (by decide), k1 4 (by decide)]; exact (a3 k y1 y2).1
          · show M3 2 k = X 3 k
            rw [k1 2 (by decide)]; exact (a3 k y1 y2).2.1
          · show M3 3 k = X 4 k
            rw [k1 3 (by decide)]; exact (a3 k y1 y2).2.2
          · show M3 22 p = X 9 p
            rw [k1 22 (by decide)]; exact (a4 p y1 y2).2.1
          · show M3 23 p = X 10 p
            rw [k1 23 (by decide)]; exact (a4 p y1 y2).2.2
        have hplA : twOk S0 (plA (plR X N row) X) B := plA_ok hX (fun i a z => hpr row i a (by omega))
        refine g_l dX12_findFloors_114 rfl rfl ?_
        refine g_l dX12_findFloors_115 rfl rfl ?_
        refine g_l dX12_findFloors_116 rfl rfl ?_
        refine g_callV dX12_findFloors_117 m_12_205 (n := 2) rfl h248 rfl (Nat.le_of_ble_eq_true rfl) (Nat.le_of_ble_eq_true rfl) rfl rfl ?_
        refine s_X12_goMany hn hw (q3.d ht) hp ((sh6_ok (e := e) hplA).agr c4) hB (fun M4 a1 a2 => ?_)
        have a3 := ah2 hw hp hplA c4 a2
        have q4 := q3.tr a1.q
        have v5 : M4 0 5 = N := by rw [q4.2 5 (by decide)]; exact n5
        have v23 : ∀ j : Int, 0 ≤ j → j < N → M4 23 j = itX S0 w (plA (plR X N row) X) n.toNat 10 j := fun j y1 y2 => (a3.2.2.2 j y1 (by omega)).2.2
        have v24 : ∀ j : Int, 0 ≤ j → j < N → M4 24 j = plR X N row j := fun j y1 y2 => by rw [a1.1 24 (by decide) (by decide) (by decide) (by decide) (by decide) (by decide)]; exact k2 j y1 y2
        have v31 : M4 31 = M1 31 := by rw [a1.1 31 (by decide) (by decide) (by decide) (by decide) (by decide) (by decide), k1 31 (by decide), g31]
        have r23 : ∀ j : Int, 0 ≤ j → j < N → R32 (M4 23 j) := fun j y1 y2 => by
          rw [v23 j y1 y2]
          have := ((itX_ok hp hplA hw n.toNat).2.1 j y1 (by omega)).2.2.1
          omega
        have hcnt : cntF (fun p => M4 23 p = 1) N = rdC S0 X n.toNat w (plR X N row) N := by
          unfold rdC
          exact cntF_congr (fun j y1 y2 => by rw [v23 j y1 y2])
        have hri := rdC_in (S := S0) (X := X) (n := n.toNat) (w := w) (pl := plR X N row) (N := N)
        simp only [Option.toList_some, Option.toList_none, List.cons_append, List.nil_append]
        refine g_iconst dX12_findFloors_120 rfl ?_
        refine g_l (loc' := [some _, some _, some _, some _, some _, some _, some _, some _, _]) dX12_findFloors_121 rfl rfl ?_
        refine g_iconst dX12_findFloors_123 rfl ?_
        refine g_l (loc' := [some _, some _, some _, some _, some _, some _, some _, some _, some _]) dX12_findFloors_124 rfl rfl ?_
        have fin : G none (d + 4) 12 false (some .int) 0 0 (hO S Tw M P).length cX12_findFloors Q 0 162 [some (.ref 248), some (.int (iI n)), some (.int (iI w)), some (.int (iI all)), some (.int (iI most)), some (.int (iI row)), some (.int (iI left)), some (.int (iI (rdC S0 X n.toNat w (plR X N row) N))), some (.int (iI N))] [] (hO S Tw M4 P) := by
          generalize rdC S0 X n.toNat w (plR X N row) N = r at hri hz ⊢
          refine g_l dX12_findFloors_162 rfl rfl ?_
          refine g_l dX12_findFloors_164 rfl rfl ?_
          refine g_icmp_le (t := 205) dX12_findFloors_166 (by decide) rfl (by omega) (by omega) (fun c_166 => ?_) (fun c_166 => ?_)
          · rw [if_neg (by omega)] at hz
            refine g_iinc (loc' := [some _, some _, some _, some _, some _, some _, some _, some _, some _]) dX12_findFloors_205 rfl rfl rfl ?_
            refine g_goto (t := 48) dX12_findFloors_208 (by decide) ?_
            exact ih (row + 1) most be M4 _ _ _ (by omega) (by omega) (by omega) hmo q4 (fun j y1 y2 => by rw [v31]; exact f2 j y1 y2) hz
          · rw [if_pos (by omega)] at hz
            refine g_l dX12_findFloors_169 rfl rfl ?_
            refine g_l (loc' := [some _, some _, some _, some _, some _, some _, some _, some _, some _]) dX12_findFloors_171 rfl rfl ?_
            refine g_iconst dX12_findFloors_173 rfl ?_
            refine g_l (loc' := [some _, some _, some _, some _, some _, some _, some _, some _, some _]) dX12_findFloors_174 rfl rfl ?_
            have copy : ∀ (s : Nat) (j : Int) (M5 : Nat → Int → Int), 0 ≤ j → j ≤ N → ((N : Int) - j).toNat = s → (∀ c, c ≠ 31 → M5 c = M4 c) → (∀ i : Int, 0 ≤ i → i < j → M5 31 i = plR X N row i) →
                G none (d + 4) 12 false (some .int) 0 0 (hO S Tw M P).length cX12_findFloors Q 0 176 [some (.ref 248), some (.int (iI n)), some (.int (iI w)), some (.int (iI all)), some (.int (iI r)), some (.int (iI row)), some (.int (iI left)), some (.int (iI r)), some (.int (iI j))] [] (hO S Tw M5 P) := by
              intro s
              induction s with
              | zero =>
                intro j M5 y1 y2 hs l1 l2
                have e5 : M5 0 5 = N := by rw [l1 0 (by decide)]; exact v5
                refine g_l dX12_findFloors_176 rfl rfl ?_
                refine g_l dX12_findFloors_178 rfl rfl ?_
                refine g_getf dX12_findFloors_179 h248 f_12_115 rfl rfl ?_
                rw [e5]
                refine g_icmp_ge (t := 205) dX12_findFloors_182 (by decide) rfl (by omega) (by omega) (fun c_182 => ?_) (fun c_182 => False.elim (by omega))
                refine g_iinc (loc' := [some _, some _, some _, some _, some _, some _, some _, some _, some _]) dX12_findFloors_205 rfl rfl rfl ?_
                refine g_goto (t := 48) dX12_findFloors_208 (by decide) ?_
                exact ih (row + 1) r (plR X N row) M5 _ _ _ (by omega) (by omega) (by omega) (by omega) (q4.tr ⟨fun c _ _ _ _ y5 => l1 c y5, fun j _ => by rw [l1 0 (by decide)]⟩) (fun i a z => l2 i a (by omega)) hz
              | succ s ihs =>
                intro j M5 y1 y2 hs l1 l2
                have e5 : M5 0 5 = N := by rw [l1 0 (by decide)]; exact v5
                have e24 : M5 24 j = plR X N row j := by rw [l1 24 (by decide)]; exact v24 j y1 (by omega)
                refine g_l dX12_findFloors_176 rfl rfl ?_
                refine g_l dX12_findFloors_178 rfl rfl ?_
                refine g_getf dX12_findFloors_179 h248 f_12_115 rfl rfl ?_
                rw [e5]
                refine g_icmp_ge (t := 205) dX12_findFloors_182 (by decide) rfl (by omega) (by omega) (fun c_182 => False.elim (by omega)) (fun c_182 => ?_)
                refine g_l dX12_findFloors_185 rfl rfl ?_
                refine g_getf dX12_findFloors_186 h248 f_12_105 rfl rfl ?_
                refine g_l dX12_findFloors_189 rfl rfl ?_
                refine g_l dX12_findFloors_191 rfl rfl ?_
                refine g_getf dX12_findFloors_192 h248 f_12_84 rfl rfl ?_
                refine g_l dX12_findFloors_195 rfl rfl ?_
                refine g_iald dX12_findFloors_197 h272 (by omega) (by decide) rfl ?_
                rw [e24]
                refine g_iast dX12_findFloors_198 h279 (by omega) (by decide) p279 rfl ?_
                refine g_iinc (loc' := [some _, some _, some _, some _, some _, some _, some _, some _, some _]) dX12_findFloors_199 rfl rfl rfl ?_
                refine g_goto (t := 176) dX12_findFloors_202 (by decide) ?_
                refine ihs (j + 1) _ (by omega) (by omega) (by omega) (fun c hc => by rw [wS_o hc]; exact l1 c hc) (fun i a z => ?_)
                rw [wS_s]
                by_cases c : i = j
                · rw [if_pos c, c]
                · rw [if_neg c]; exact l2 i a (by omega)
            exact copy N 0 M4 (by decide) (by omega) (by omega) (fun _ _ => rfl) (fun i a z => by omega)
        have count : ∀ (s : Nat) (j : Int), 0 ≤ j → j ≤ N → ((N : Int) - j).toNat = s →
            G none (d + 4) 12 false (some .int) 0 0 (hO S Tw M P).length cX12_findFloors Q 0 126 [some (.ref 248), some (.int (iI n)), some (.int (iI w)), some (.int (iI all)), some (.int (iI most)), some (.int (iI row)), some (.int (iI left)), some (.int (iI (cntF (fun p => M4 23 p = 1) j.toNat))), some (.int (iI j))] [] (hO S Tw M4 P) := by
          intro s
          induction s with
          | zero =>
            intro j y1 y2 hs
            have ej : j = N := by omega
            refine g_l dX12_findFloors_126 rfl rfl ?_
            refine g_l dX12_findFloors_128 rfl rfl ?_
            refine g_getf dX12_findFloors_129 h248 f_12_115 rfl rfl ?_
            rw [v5]
            refine g_icmp_ge (t := 162) dX12_findFloors_132 (by decide) rfl (by omega) (by omega) (fun c_132 => ?_) (fun c_132 => False.elim (by omega))
            rw [ej, show ((N : Nat) : Int).toNat = N by omega, hcnt]
            exact fin
          | succ s ihs =>
            intro j y1 y2 hs
            have rj := r23 j y1 (by omega)
            have es : cntF (fun p => M4 23 p = 1) (j + 1).toNat = cntF (fun p => M4 23 p = 1) j.toNat + (if M4 23 j = 1 then 1 else 0) := cntF_s y1
            have nx := ihs (j + 1) (by omega) (by omega) (by omega)
            rw [es] at nx
            generalize cntF (fun p => M4 23 p = 1) j.toNat = acc at nx ⊢
            refine g_l dX12_findFloors_126 rfl rfl ?_
            refine g_l dX12_findFloors_128 rfl rfl ?_
            refine g_getf dX12_findFloors_129 h248 f_12_115 rfl rfl ?_
            rw [v5]
            refine g_icmp_ge (t := 162) dX12_findFloors_132 (by decide) rfl (by omega) (by omega) (fun c_132 => False.elim (by omega)) (fun c_132 => ?_)
            refine g_l dX12_findFloors_135 rfl rfl ?_
            refine g_l dX12_findFloors_137 rfl rfl ?_
            refine g_getf dX12_findFloors_138 h248 f_12_81 rfl rfl ?_
            refine g_l dX12_findFloors_141 rfl rfl ?_
            refine g_iald dX12_findFloors_143 h271 (by omega) (by decide) rfl ?_
            refine g_iconst dX12_findFloors_144 rfl ?_
            refine g_icmp_ne (t := 152) dX12_findFloors_145 (by decide) rfl (by omega) (by omega) (fun c_145 => ?_) (fun c_145 => ?_)
            · rw [if_neg c_145] at nx
              refine g_iconst dX12_findFloors_152 rfl ?_
              refine g_iadd dX12_findFloors_153 rfl ?_
              refine g_l (loc' := [some _, some _, some _, some _, some _, some _, some _, some _, some _]) dX12_findFloors_154 rfl rfl ?_
              refine g_iinc (loc' := [some _, some _, some _, some _, some _, some _, some _, some _, some _]) dX12_findFloors_156 rfl rfl rfl ?_
              refine g_goto (t := 126) dX12_findFloors_159 (by decide) ?_
              exact nx
            · rw [if_pos (by omega)] at nx
              refine g_iconst dX12_findFloors_148 rfl ?_
              refine g_goto (t := 153) dX12_findFloors_149 (by decide) ?_
              refine g_iadd dX12_findFloors_153 rfl ?_
              refine g_l (loc' := [some _, some _, some _, some _, some _, some _, some _, some _, some _]) dX12_findFloors_154 rfl rfl ?_
              refine g_iinc (loc' := [some _, some _, some _, some _, some _, some _, some _, some _, some _]) dX12_findFloors_156 rfl rfl rfl ?_
              refine g_goto (t := 126) dX12_findFloors_159 (by decide) ?_
              exact nx
        exact count N 0 (by decide) (by omega) (by omega)
      have place : ∀ (i : Nat) (left : Int) (M3 : Nat → Int → Int), i ≤ N → 0 ≤ left ∧ left ≤ row → (∀ c, c ≠ 24 → M3 c = M2 c) → (∀ j : Int, 0 ≤ j → j < i → M3 24 j = X 8 j) → (∀ j : Int, (i : Int) ≤ j → j < N → M3 24 j = plR X N row j) → (∀ j : Int, 0 ≤ j → j < i → plR X N row j = plR X i left j) →
          G none (d + 4) 12 false (some .int) 0 0 (hO S Tw M P).length cX12_findFloors Q 0 70 [some (.ref 248), some (.int (iI n)), some (.int (iI w)), some (.int (iI all)), some (.int (iI most)), some (.int (iI row)), some (.int (iI left)), some (.int (iI ((i : Int) - 1))), z8] [] (hO S Tw M3 P) := by
        intro i
        induction i with
        | zero =>
          intro left M3 y1 y2 k1 k2 k3 k4
          refine g_l dX12_findFloors_70 rfl rfl ?_
          refine g_if_lt (t := 114) dX12_findFloors_72 (by decide) rfl (by omega) (fun c_72 => ?_) (fun c_72 => False.elim (by omega))
          exact rest M3 left _ k1 (fun j a z => k3 j (by omega) z)
        | succ i ihi =>
          intro left M3 y1 y2 k1 k2 k3 k4
          have e12 : M3 12 = M 12 := by rw [k1 12 (by decide)]; exact w12
          have t12 : M 12 (i : Int) = X 10 (i : Int) := h12 i (by omega) (by omega)
          have r12 := h10 i (by omega) (by omega)
          have e4 : M3 0 4 = X 1 5 := by rw [k1 0 (by decide)]; exact w4
          have hi := k4 i (by omega) (by omega)
          rw [plR_at] at hi
          have hlo : ∀ j : Int, 0 ≤ j → j < i → plR X N row j = if X 10 i = 0 then plR X i (left / X 1 5) j else plR X i left j := fun j a z => by rw [k4 j a (by omega), plR_lo z]
          rw [show (((i + 1 : Nat) : Int) - 1) = (i : Int) by omega]
          refine g_l dX12_findFloors_70 rfl rfl ?_
          refine g_if_lt (t := 114) dX12_findFloors_72 (by decide) rfl (by omega) (fun c_72 => False.elim (by omega)) (fun c_72 => ?_)
          refine g_l dX12_findFloors_75 rfl rfl ?_
          refine g_getf dX12_findFloors_76 h248 f_12_47 rfl rfl ?_
          refine g_l dX12_findFloors_79 rfl rfl ?_
          refine g_iald dX12_findFloors_81 h260 (by omega) (by decide) rfl ?_
          rw [e12, t12]
          refine g_if_ne (t := 108) dX12_findFloors_82 (by decide) rfl (by omega) (fun c_82 => ?_) (fun c_82 => ?_)
          · rw [if_neg c_82] at hi
            simp only [if_neg c_82] at hlo
            refine g_iinc (loc' := [some _, some _, some _, some _, some _, some _, some _, some _, _]) dX12_findFloors_108 rfl rfl rfl ?_
            refine g_goto (t := 70) dX12_findFloors_111 (by decide) ?_
            refine ihi left M3 (by omega) y2 k1 (fun j a z => k2 j a (by omega)) (fun j a z => ?_) hlo
            by_cases c : j = i
            · rw [c, hi]; exact k2 i (by omega) (by omega)
            · exact k3 j (by omega) z
          · rw [if_pos c_82] at hi
            simp only [if_pos c_82] at hlo
            have t4 : wS M3 24 (i : Int) (left % X 1 5) 0 4 = X 1 5 := by rw [wS_o (by decide)]; exact e4
            have hd : 0 ≤ left / X 1 5 ∧ left / X 1 5 ≤ left := ⟨Int.ediv_nonneg y2.1 (by omega), Int.ediv_le_self _ y2.1⟩
            refine g_l dX12_findFloors_85 rfl rfl ?_
            refine g_getf dX12_findFloors_86 h248 f_12_84 rfl rfl ?_
            refine g_l dX12_findFloors_89 rfl rfl ?_
            refine g_l dX12_findFloors_91 rfl rfl ?_
            refine g_l dX12_findFloors_93 rfl rfl ?_
            refine g_getf dX12_findFloors_94 h248 f_12_13 rfl rfl ?_
            rw [e4]
            refine g_irem dX12_findFloors_97 (by omega) (by omega) rfl ?_
            refine g_iast dX12_findFloors_98 h272 (by omega) (by decide) p272 rfl ?_
            refine g_l dX12_findFloors_99 rfl rfl ?_
            refine g_l dX12_findFloors_101 rfl rfl ?_
            refine g_getf dX12_findFloors_102 h248 f_12_13 rfl rfl ?_
            rw [t4]
            refine g_idiv dX12_findFloors_105 (by omega) (by omega) rfl ?_
            refine g_l (loc' := [some _, some _, some _, some _, some _, some _, some _, some _, _]) dX12_findFloors_106 rfl rfl ?_
            refine g_iinc (loc' := [some _, some _, some _, some _, some _, some _, some _, some _, _]) dX12_findFloors_108 rfl rfl rfl ?_
            refine g_goto (t := 70) dX12_findFloors_111 (by decide) ?_
            refine ihi (left / X 1 5) _ (by omega) (by omega) (fun c hc => by rw [wS_o hc]; exact k1 c hc) (fun j a z => ?_) (fun j a z => ?_) hlo
            · rw [wS_s, if_neg (by omega)]; exact k2 j a (by omega)
            · rw [wS_s]
              by_cases c : j = i
              · rw [if_pos c, c, hi]
              · rw [if_neg c]; exact k3 j (by omega) z
      refine g_getf dX12_findFloors_63 h248 f_12_115 rfl rfl ?_
      rw [w5]
      refine g_iconst dX12_findFloors_66 rfl ?_
      refine g_isub dX12_findFloors_67 rfl ?_
      refine g_l (loc' := [some _, some _, some _, some _, some _, some _, some _, some _, _]) dX12_findFloors_68 rfl rfl ?_
      exact place N row M2 (Nat.le_refl _) ⟨b1, Int.le_refl _⟩ (fun _ _ => rfl) w24 (fun j a z => by omega) (fun j a z => rfl)
  have mul : ∀ (m : Nat) (i : Nat), i ≤ N → N - i = m →
      G none (d + 4) 12 false (some .int) 0 0 (hO S Tw M P).length cX12_findFloors Q 0 5 [some (.ref 248), some (.int (iI n)), some (.int (iI w)), some (.int (iI (frN X i))), some (.int (iI (i : Int))), none, none, none, none] [] (hO S Tw M P) := by
    intro m
    induction m with
    | zero =>
      intro i b1 hm
      have ei : i = N := by omega
      subst ei
      rw [← hall]
      refine g_l dX12_findFloors_5 rfl rfl ?_
      refine g_l dX12_findFloors_7 rfl rfl ?_
      refine g_getf dX12_findFloors_8 h248 f_12_115 rfl rfl ?_
      rw [n5]
      refine g_icmp_ge (t := 41) dX12_findFloors_11 (by decide) rfl (by omega) (by omega) (fun c_11 => ?_) (fun c_11 => False.elim (by omega))
      refine g_bipush dX12_findFloors_41 (by decide) rfl ?_
      refine g_l (loc' := [some _, some _, some _, some _, some _, _, _, _, _]) dX12_findFloors_43 rfl rfl ?_
      refine g_iconst dX12_findFloors_45 rfl ?_
      refine g_l (loc' := [some _, some _, some _, some _, some _, some _, _, _, _]) dX12_findFloors_46 rfl rfl ?_
      exact rows all.toNat 0 (-9) (M 31) M _ _ _ (by decide) (by omega) (by omega) (by decide) quFr.rf (fun _ _ _ => rfl) hT
    | succ m ih =>
      intro i b1 hm
      have t12 : M 12 (i : Int) = X 10 (i : Int) := h12 i (by omega) (by omega)
      have r12 := h10 i (by omega) (by omega)
      have nx := ih (i + 1) (by omega) (by omega)
      rw [frN, show ((i + 1 : Nat) : Int) = (i : Int) + 1 by omega] at nx
      generalize frN X i = f at nx ⊢
      refine g_l dX12_findFloors_5 rfl rfl ?_
      refine g_l dX12_findFloors_7 rfl rfl ?_
      refine g_getf dX12_findFloors_8 h248 f_12_115 rfl rfl ?_
      rw [n5]
      refine g_icmp_ge (t := 41) dX12_findFloors_11 (by decide) rfl (by omega) (by omega) (fun c_11 => False.elim (by omega)) (fun c_11 => ?_)
      refine g_l dX12_findFloors_14 rfl rfl ?_
      refine g_l dX12_findFloors_15 rfl rfl ?_
      refine g_getf dX12_findFloors_16 h248 f_12_47 rfl rfl ?_
      refine g_l dX12_findFloors_19 rfl rfl ?_
      refine g_iald dX12_findFloors_21 h260 (by omega) (by decide) rfl ?_
      rw [t12]
      refine g_if_ne (t := 32) dX12_findFloors_22 (by decide) rfl (by omega) (fun c_22 => ?_) (fun c_22 => ?_)
      · rw [if_neg c_22] at nx
        refine g_iconst dX12_findFloors_32 rfl ?_
        refine g_imul dX12_findFloors_33 rfl ?_
        rw [Int.mul_one]
        refine g_l (loc' := [some _, some _, some _, some _, some _, _, _, _, _]) dX12_findFloors_34 rfl rfl ?_
        refine g_iinc (loc' := [some _, some _, some _, some _, some _, _, _, _, _]) dX12_findFloors_35 rfl rfl rfl ?_
        refine g_goto (t := 5) dX12_findFloors_38 (by decide) ?_
        exact nx
      · rw [if_pos c_22] at nx
        refine g_l dX12_findFloors_25 rfl rfl ?_
        refine g_getf dX12_findFloors_26 h248 f_12_13 rfl rfl ?_
        rw [n4]
        refine g_goto (t := 33) dX12_findFloors_29 (by decide) ?_
        refine g_imul dX12_findFloors_33 rfl ?_
        refine g_l (loc' := [some _, some _, some _, some _, some _, _, _, _, _]) dX12_findFloors_34 rfl rfl ?_
        refine g_iinc (loc' := [some _, some _, some _, some _, some _, _, _, _, _]) dX12_findFloors_35 rfl rfl rfl ?_
        refine g_goto (t := 5) dX12_findFloors_38 (by decide) ?_
        exact nx
  exact mul N 0 (by omega) (by omega)
theorem s_X12_floors {S0 X : Nat → Int → Int} {n w B : Int} {N : Nat} (be : Int → Int) (hN : S0 13 5 = N) (hn : R32 n) (hw : R32 w) (ht : tdP S0 M) (hp : pOk S0) (ha : agr S0 (nX M) X) (hX : twOk S0 X B) (hB : B ≤ 900000) (q2 : ¬ ((1 ≤ n ∧ n ≤ 9) ∧ 0 ≤ w ∧ w ≤ 9) → ∀ M', quFr M M' → Q (some (.int (iI (-2)))) (hO S Tw M' P))
    (q3 : (1 ≤ n ∧ n ≤ 9) ∧ 0 ≤ w ∧ w ≤ 9 → ∀ M', quFr M M' → ∀ be, Q (some (.int (iI (rfL S0 X n.toNat w N (frN X N).toNat 0 (-9) be).1))) (hO S Tw M' P)) : CallD (d + 6) 152 [.ref 248, .int (iI n), .int (iI w)] (hO S Tw M P) Q := by
  refine g_enter (loc := [some _, some _, some _]) e_X12_floors i_X12_floors (Nat.le_of_ble_eq_true rfl) rfl ?_
  refine g_l dX12_floors_0 rfl rfl ?_
  refine g_iconst dX12_floors_1 rfl ?_
  refine g_putf dX12_floors_2 h248 f_12_108 (Nat.le_of_ble_eq_true rfl) rfl rfl p248_0 rfl ?_
  have h1 := thP_w (M := M)
  generalize wS M 0 0 0 = M1 at h1 ⊢
  refine g_l dX12_floors_5 rfl rfl ?_
  refine g_l dX12_floors_6 rfl rfl ?_
  refine g_callS dX12_floors_7 m_12_202 (n := 2) rfl (by exact Nat.le_of_ble_eq_true rfl) (by exact Nat.le_of_ble_eq_true rfl) (by rfl) (by rfl) (by rfl) ?_
  refine s_X12_noFire hn hw (fun y => ?_) (fun y => ?_)
  · simp only [Option.toList_some, Option.toList_none, List.cons_append, List.nil_append]
    refine g_if_eq (t := 18) dX12_floors_10 (by decide) rfl (by omega) (fun c_10 => False.elim (by omega)) (fun c_10 => ?_)
    refine g_bipush dX12_floors_13 (by decide) rfl ?_
    refine g_goto (t := 24) dX12_floors_15 (by decide) ?_
    refine g_retI dX12_floors_24 rfl rfl ?_
    exact q2 y M1 h1.q
  · simp only [Option.toList_some, Option.toList_none, List.cons_append, List.nil_append]
    refine g_if_eq (t := 18) dX12_floors_10 (by decide) rfl (by omega) (fun c_10 => ?_) (fun c_10 => False.elim (by omega))
    refine g_l dX12_floors_18 rfl rfl ?_
    refine g_l dX12_floors_19 rfl rfl ?_
    refine g_l dX12_floors_20 rfl rfl ?_
    refine g_callV dX12_floors_21 m_12_217 (n := 2) rfl h248 rfl (Nat.le_of_ble_eq_true rfl) (Nat.le_of_ble_eq_true rfl) rfl rfl ?_
    refine s_X12_findFloors hN (by omega) y.2 (h1.q.d ht) hp (by rw [h1.q.n]; exact ha) hX hB (fun M2 a1 a2 => ?_)
    have h := q3 y M2 (h1.q.tr a1) (M1 31)
    simp only [Option.toList_some, Option.toList_none, List.cons_append, List.nil_append]
    generalize (rfL S0 X n.toNat w N (frN X N).toNat 0 (-9) (M1 31)).1 = r at h ⊢
    refine g_retI dX12_floors_24 rfl rfl ?_
    exact h
theorem s_X12_floorAt {S0 X : Nat → Int → Int} {p n w B : Int} {N : Nat} (hN : S0 13 5 = N) (hp0 : R32 p) (hn : R32 n) (hw : R32 w) (ht : tdP S0 M) (hp : pOk S0) (ha : agr S0 (nX M) X) (hX : twOk S0 X B) (hB : B ≤ 900000) (q1 : ¬ (0 ≤ p ∧ p < S0 13 5) → ∀ M', quFr M M' → Q (some (.int (iI (-1)))) (hO S Tw M' P)) (q2 : 0 ≤ p ∧ p < S0 13 5 → ¬ ((1 ≤ n ∧ n ≤ 9) ∧ 0 ≤ w ∧ w ≤ 9) → ∀ M', quFr M M' → Q (some (.int (iI (-2)))) (hO S Tw M' P))
    (q3 : 0 ≤ p ∧ p < S0 13 5 → (1 ≤ n ∧ n ≤ 9) ∧ 0 ≤ w ∧ w ≤ 9 → ∀ M', quFr M M' → ∀ be, Q (some (.int (iI ((rfL S0 X n.toNat w N (frN X N).toNat 0 (-9) be).2 p)))) (hO S Tw M' P)) : CallD (d + 6) 153 [.ref 248, .int (iI p), .int (iI n), .int (iI w)] (hO S Tw M P) Q := by
  have n5 : S0 13 5 = M 0 5 := ht.1
  have p1 := hp.1
  have p2 := hp.2.1
  refine g_enter (loc := [some _, some _, some _, some _]) e_X12_floorAt i_X12_floorAt (Nat.le_of_ble_eq_true rfl) rfl ?_
  refine g_l dX12_floorAt_0 rfl rfl ?_
  refine g_iconst dX12_floorAt_1 rfl ?_
  refine g_putf dX12_floorAt_2 h248 f_12_108 (Nat.le_of_ble_eq_true rfl) rfl rfl p248_0 rfl ?_
  have h1 := thP_w (M := M)
  generalize wS M 0 0 0 = M1 at h1 ⊢
  have z5 : M1 0 5 = M 0 5 := h1.2 5 (by decide)
  refine g_l dX12_floorAt_5 rfl rfl ?_
  refine g_l dX12_floorAt_6 rfl rfl ?_
  refine g_callV dX12_floorAt_7 m_12_176 (n := 1) rfl h248 rfl (Nat.le_of_ble_eq_true rfl) (Nat.le_of_ble_eq_true rfl) rfl rfl ?_
  refine s_X12_noPot hp0 (by omega) (fun z => ?_) (fun z => ?_)
  · rw [z5, ← n5] at z
    simp only [Option.toList_some, Option.toList_none, List.cons_append, List.nil_append]
    refine g_if_eq (t := 15) dX12_floorAt_10 (by decide) rfl (by omega) (fun c_10 => False.elim (by omega)) (fun c_10 => ?_)
    refine g_iconst dX12_floorAt_13 rfl ?_
    refine g_retI dX12_floorAt_14 rfl rfl ?_
    exact q1 z M1 h1.q
  · rw [z5, ← n5] at z
    simp only [Option.toList_some, Option.toList_none, List.cons_append, List.nil_append]
    refine g_if_eq (t := 15) dX12_floorAt_10 (by decide) rfl (by omega) (fun c_10 => ?_) (fun c_10 => False.elim (by omega))
    refine g_l dX12_floorAt_15 rfl rfl ?_
    refine g_l dX12_floorAt_16 rfl rfl ?_
    refine g_callS dX12_floorAt_17 m_12_202 (n := 2) rfl (by exact Nat.le_of_ble_eq_true rfl) (by exact Nat.le_of_ble_eq_true rfl) (by rfl) (by rfl) (by rfl) ?_
    refine s_X12_noFire hn hw (fun y => ?_) (fun y => ?_)
    · simp only [Option.toList_some, Option.toList_none, List.cons_append, List.nil_append]
      refine g_if_eq (t := 26) dX12_floorAt_20 (by decide) rfl (by omega) (fun c_20 => False.elim (by omega)) (fun c_20 => ?_)
      refine g_bipush dX12_floorAt_23 (by decide) rfl ?_
      refine g_retI dX12_floorAt_25 rfl rfl ?_
      exact q2 z y M1 h1.q
    · simp only [Option.toList_some, Option.toList_none, List.cons_append, List.nil_append]
      refine g_if_eq (t := 26) dX12_floorAt_20 (by decide) rfl (by omega) (fun c_20 => ?_) (fun c_20 => False.elim (by omega))
      refine g_l dX12_floorAt_26 rfl rfl ?_
      refine g_l dX12_floorAt_27 rfl rfl ?_
      refine g_l dX12_floorAt_28 rfl rfl ?_
      refine g_callV dX12_floorAt_29 m_12_217 (n := 2) rfl h248 rfl (Nat.le_of_ble_eq_true rfl) (Nat.le_of_ble_eq_true rfl) rfl rfl ?_
      refine s_X12_findFloors hN (by omega) y.2 (h1.q.d ht) hp (by rw [h1.q.n]; exact ha) hX hB (fun M2 a1 a2 => ?_)
      have h := q3 z y M2 (h1.q.tr a1) (M1 31)
      rw [← a2 p z.1 (by omega)] at h
      simp only [Option.toList_some, Option.toList_none, List.cons_append, List.nil_append]
      generalize (rfL S0 X n.toNat w N (frN X N).toNat 0 (-9) (M1 31)).1 = r
      refine g_s dX12_floorAt_32 rfl rfl rfl ?_
      refine g_l dX12_floorAt_33 rfl rfl ?_
      refine g_getf dX12_floorAt_34 h248 f_12_105 rfl rfl ?_
      refine g_l dX12_floorAt_37 rfl rfl ?_
      refine g_iald dX12_floorAt_38 h279 (by omega) (by decide) rfl ?_
      refine g_retI dX12_floorAt_39 rfl rfl ?_
      exact h
end RO
