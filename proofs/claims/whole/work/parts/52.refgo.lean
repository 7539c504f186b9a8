/-! the reference: go, goMany; what they make of the tower that is looked at -/
theorem gZ_ok {S : Nat → Int → Int} {X : Nat → Int → Int} {w b B : Int} (h : twOk S X B) (hw : 0 ≤ w ∧ w ≤ 9) : twOk S (gZ w b X) (B + 180) := by
  unfold gZ
  split
  · exact blX_ok (bX_ok h hw)
  · exact bX_ok h hw
theorem gX_ok {S : Nat → Int → Int} {X : Nat → Int → Int} {w b B : Int} (hp : pOk S) (h : twOk S X B) (hw : 0 ≤ w ∧ w ≤ 9) : twOk S (gX S w b X) (B + 180) := by
  obtain ⟨t, q, r⟩ := gZ_ok (b := b) h hw
  exact ⟨t, lX_q hp q, r⟩
theorem gZ_agr {S : Nat → Int → Int} {X Y : Nat → Int → Int} {w b : Int} (g : agr S X Y) (hn : 2 ≤ Y 1 5 ∧ Y 1 5 ≤ 5) : agr5 S (gZ w b X) (gZ w b Y) := by
  unfold gZ
  split
  · exact blX_agr (bX_agr g hn)
  · exact bX_agr g hn
theorem gZ_e {w b : Int} {X : Nat → Int → Int} : gZ w b X 1 5 = X 1 5 ∧ gZ w b X 8 = X 8 ∧ gZ w b X 9 = X 9 ∧ gZ w b X 10 = X 10 ∧ gZ w b X 5 = X 2 ∧ gZ w b X 6 = cmF (X 3) (X 2) w ∧ gZ w b X 3 = X 3 ∧ gZ w b X 4 = X 4 ∧ gZ w b X 1 6 = X 1 6 + outF (X 1 5) (X 3) (X 4) (X 2) ∧ ∀ k, gZ w b X 2 k = (if b = 1 then blF (X 1 5) (nhF (X 1 5) (X 3) (X 4) w (X 2)) k else nhF (X 1 5) (X 3) (X 4) w (X 2) k) := by
  unfold gZ
  split
  · exact ⟨rfl, rfl, rfl, rfl, rfl, rfl, rfl, rfl, rfl, fun _ => rfl⟩
  · exact ⟨rfl, rfl, rfl, rfl, rfl, rfl, rfl, rfl, rfl, fun _ => rfl⟩
theorem gX_agr {S : Nat → Int → Int} {X Y : Nat → Int → Int} {w b B : Int} (g : agr S X Y) (hY : twOk S Y B) : agr S (gX S w b X) (gX S w b Y) := by
  obtain ⟨⟨t1, t2, t3, t4⟩, q, r⟩ := hY
  obtain ⟨b1, b2⟩ := gZ_agr (w := w) (b := b) g ⟨t1, t2⟩
  obtain ⟨e1, e2, -⟩ := gZ_e (w := w) (b := b) (X := Y)
  refine lX_agr b1 b2 (by rw [e1]; exact t2) (fun p a z => ?_)
  rw [e1, e2]
  exact ⟨(q p a z).1.1, r p a z⟩
/-- what looking ahead leaves as it is -/
def goFr (M M' : Nat → Int → Int) : Prop := (∀ c, c ≠ 0 → c ≠ 19 → c ≠ 20 → c ≠ 21 → c ≠ 22 → c ≠ 23 → M' c = M c) ∧ ∀ j, j ≠ 34 → M' 0 j = M 0 j
theorem goFr.rf {M : Nat → Int → Int} : goFr M M := ⟨fun _ _ _ _ _ _ _ => rfl, fun _ _ => rfl⟩
theorem goFr.tr {M M' M2 : Nat → Int → Int} (h : goFr M M') (g : goFr M' M2) : goFr M M2 := ⟨fun c a1 a2 a3 a4 a5 a6 => (g.1 c a1 a2 a3 a4 a5 a6).trans (h.1 c a1 a2 a3 a4 a5 a6), fun j hj => (g.2 j hj).trans (h.2 j hj)⟩
theorem tdP_c {S0 M M' : Nat → Int → Int} (h : goFr M M') (ht : tdP S0 M) : tdP S0 M' := by
  unfold tdP at *
  rw [h.2 5 (by decide), h.1 6 (by decide) (by decide) (by decide) (by decide) (by decide) (by decide), h.1 7 (by decide) (by decide) (by decide) (by decide) (by decide) (by decide), h.1 8 (by decide) (by decide) (by decide) (by decide) (by decide) (by decide), h.1 9 (by decide) (by decide) (by decide) (by decide) (by decide) (by decide), h.1 10 (by decide) (by decide) (by decide) (by decide) (by decide) (by decide)]
  exact ht
theorem nX_c {M M' : Nat → Int → Int} (h : goFr M M') : nX M' = nX M := by
  funext o k
  unfold nX
  rw [h.2 4 (by decide), h.2 17 (by decide), h.1 4 (by decide) (by decide) (by decide) (by decide) (by decide) (by decide), h.1 2 (by decide) (by decide) (by decide) (by decide) (by decide) (by decide), h.1 3 (by decide) (by decide) (by decide) (by decide) (by decide) (by decide), h.1 5 (by decide) (by decide) (by decide) (by decide) (by decide) (by decide), h.1 11 (by decide) (by decide) (by decide) (by decide) (by decide) (by decide), h.1 12 (by decide) (by decide) (by decide) (by decide) (by decide) (by decide)]
theorem mX_h {S0 M : Nat → Int → Int} {B : Int} (h : twOk S0 (mX M) B) (hB : B ≤ 10000000) : hkOk M := by
  obtain ⟨t, -, -⟩ := h
  have k := t.k hB
  obtain ⟨t1, t2, t3, -⟩ := t
  change 2 ≤ M 0 4 at t1
  change M 0 4 ≤ 5 at t2
  refine ⟨⟨t1, t2⟩, fun j a b => ?_⟩
  have e : mX M 2 j = M 19 j := if_pos b
  have z := (k.2.2 j a (by omega)).1
  have y := t3 j a (by omega)
  rw [e] at z
  exact ⟨z, y.1, y.2.1, y.2.2.1⟩
section RC
variable {S : Nat → Int → Int} {Tw : Nat → Nat → Int → Int} {M : Nat → Int → Int} {P : Nat → Nat} {d : Nat} {Q : Option Value → GH → Prop}
set_option maxHeartbeats 2000000 in
theorem s_X12_go {S0 : Nat → Int → Int} {w b B : Int} (hb : b = 0 ∨ b = 1) (hw : 0 ≤ w ∧ w ≤ 9) (ht : tdP S0 M) (hp : pOk S0) (hk : twOk S0 (mX M) B) (hB : B ≤ 1000000) (hq : ∀ M', goFr M M' → agr S0 (mX M') (gX S0 w b (mX M)) → Q (some (.int (iI (setF (fun i => M 23 i = 0 ∧ ¬ gX S0 w b (mX M) 10 i = 0) (M 0 5).toNat)))) (hO S Tw M' P)) : CallD (d + 3) 140 [.ref 248, .int (iI w), .int (iI b)] (hO S Tw M P) Q := by
  have n1 := hp.1
  have n2 := hp.2.1
  have e05 := ht.1
  rw [e05] at n1 n2
  have hh := mX_h hk (by omega)
  have hZ := gZ_ok (b := b) hk hw
  obtain ⟨z15, z8, z9, z10, z5, z6, z3, z4, z16, z2⟩ := gZ_e (w := w) (b := b) (X := mX M)
  refine g_enter (loc := [some _, some _, some _, _, _]) e_X12_go i_X12_go (Nat.le_of_ble_eq_true rfl) rfl ?_
  refine g_iconst dX12_go_0 rfl ?_
  refine g_l (loc' := [some _, some _, some _, some _, _]) dX12_go_1 rfl rfl ?_
  refine g_l dX12_go_2 rfl rfl ?_
  refine g_l dX12_go_3 rfl rfl ?_
  refine g_l dX12_go_4 rfl rfl ?_
  refine g_callV dX12_go_5 m_12_185 (n := 2) rfl h248 rfl (Nat.le_of_ble_eq_true rfl) (Nat.le_of_ble_eq_true rfl) rfl rfl ?_
  refine s_X12_goHeat hb hw hh (fun Mh hg => ?_)
  obtain ⟨⟨n3, n4⟩, hh⟩ := hh
  obtain ⟨g1, g2, g3, g4⟩ := hg
  simp only [Option.toList_some, Option.toList_none, List.cons_append, List.nil_append]
  refine g_iconst dX12_go_8 rfl ?_
  refine g_l (loc' := [some _, some _, some _, some _, some _]) dX12_go_9 rfl rfl ?_
  -- heat as the tower has it
  have eh : ∀ k, 0 ≤ k → k < M 0 4 → gZ w b (mX M) 2 k = Mh 19 k := by
    intro k y1 y2
    have lo := nhF_lo (n := M 0 4) (w := w) (s := M 2) (dm := M 3) (h := mX M 2) (h' := M 19) (fun j a c => if_pos c) k y1 y2
    rw [z2 k, (g4 k y1 y2).2.2]
    show (if b = 1 then blF (M 0 4) (nhF (M 0 4) (M 2) (M 3) w (mX M 2)) k else nhF (M 0 4) (M 2) (M 3) w (mX M 2) k) = _
    by_cases c : b = 1
    · rw [if_pos c, if_pos c]
      unfold blF
      rw [if_pos ⟨y1, y2⟩, if_pos ⟨y1, y2⟩, lo]
    · rw [if_neg c, if_neg c, lo]
  have key : ∀ (M' : Nat → Int → Int), (∀ c, c ≠ 22 → c ≠ 23 → M' c = Mh c) → (∀ p, 0 ≤ p → p < M 0 5 → M' 22 p = gX S0 w b (mX M) 9 p ∧ M' 23 p = gX S0 w b (mX M) 10 p) → agr S0 (mX M') (gX S0 w b (mX M)) := by
    intro M' a1 a2
    have e0 : M' 0 = Mh 0 := a1 0 (by decide) (by decide)
    refine ⟨?_, ?_, fun k y1 y2 => ⟨?_, ?_, ?_⟩, fun p y1 y2 => ⟨?_, (a2 p y1 (by rw [← e05]; exact y2)).1, (a2 p y1 (by rw [← e05]; exact y2)).2⟩⟩
    · show M' 0 4 = gZ w b (mX M) 1 5
      rw [z15, e0]; exact g2 4 (by decide)
    · show M' 0 34 = gZ w b (mX M) 1 6
      rw [z16, e0, g3]
      show _ = M 0 34 + outF (M 0 4) (M 2) (M 3) (mX M 2)
      rw [outF_lo (h := M 19) (h' := mX M 2) (by omega) (fun j a c => (if_pos c).symm)]
    · show (if k < M' 0 4 then M' 19 k else M' 4 k) = gZ w b (mX M) 2 k
      rw [e0, g2 4 (by decide), a1 19 (by decide) (by decide), a1 4 (by decide) (by decide), g1 4 (by decide) (by decide) (by decide) (by decide)]
      by_cases c : k < M 0 4
      · rw [if_pos c, eh k y1 c]
      · rw [if_neg c, z2 k]
        have e : mX M 2 k = M 4 k := if_neg c
        have e1 : nhF (mX M 1 5) (mX M 3) (mX M 4) w (mX M 2) k = mX M 2 k := by
          unfold nhF
          rw [if_neg (fun q => c q.2)]
        have e2 : blF (mX M 1 5) (nhF (mX M 1 5) (mX M 3) (mX M 4) w (mX M 2)) k = mX M 2 k := by
          unfold blF
          rw [if_neg (fun q => c q.2), e1]
        rw [e1, e2, ite_self, e]
    · show M' 2 k = gZ w b (mX M) 3 k
      rw [z3, a1 2 (by decide) (by decide), g1 2 (by decide) (by decide) (by decide) (by decide)]
      rfl
    · show M' 3 k = gZ w b (mX M) 4 k
      rw [z4, a1 3 (by decide) (by decide), g1 3 (by decide) (by decide) (by decide) (by decide)]
      rfl
    · show M' 24 p = gZ w b (mX M) 8 p
      rw [z8, a1 24 (by decide) (by decide), g1 24 (by decide) (by decide) (by decide) (by decide)]
      rfl
  have loop : ∀ (m : Nat) (i : Int) (M1 : Nat → Int → Int), 0 ≤ i → i ≤ M 0 5 → (M 0 5 - i).toNat = m → (∀ c, c ≠ 22 → c ≠ 23 → M1 c = Mh c) → (∀ p, 0 ≤ p → p < i → M1 22 p = gX S0 w b (mX M) 9 p ∧ M1 23 p = gX S0 w b (mX M) 10 p) → (∀ p, 0 ≤ p → ¬ p < i → M1 22 p = M 22 p ∧ M1 23 p = M 23 p) →
      G none (d + 2) 12 false (some .int) 0 0 (hO S Tw M P).length cX12_go Q 0 11 [some (.ref 248), some (.int (iI w)), some (.int (iI b)), some (.int (iI (setF (fun i => M 23 i = 0 ∧ ¬ gX S0 w b (mX M) 10 i = 0) i.toNat))), some (.int (iI i))] [] (hO S Tw M1 P) := by
    intro m
    induction m with
    | zero =>
      intro i M1 b1 b2 hm f1 f2 f3
      have e5 : M1 0 5 = M 0 5 := by rw [f1 0 (by decide) (by decide)]; exact g2 5 (by decide)
      refine g_l dX12_go_11 rfl rfl ?_
      refine g_l dX12_go_13 rfl rfl ?_
      refine g_getf dX12_go_14 h248 f_12_115 rfl rfl ?_
      rw [e5]
      refine g_icmp_ge (t := 70) dX12_go_17 (by decide) rfl (by omega) (by omega) (fun c_17 => ?_) (fun c_17 => False.elim (by omega))
      refine g_l dX12_go_70 rfl rfl ?_
      refine g_retI dX12_go_71 rfl rfl ?_
      rw [show i = M 0 5 by omega]
      refine hq M1 ⟨fun c y1 y2 y3 y4 y5 y6 => by rw [f1 c y5 y6]; exact g1 c y1 y2 y3 y4, fun j hj => by rw [f1 0 (by decide) (by decide)]; exact g2 j hj⟩ (key M1 f1 (fun p y1 y2 => f2 p y1 (by omega)))
    | succ m ih =>
      intro i M1 b1 b2 hm f1 f2 f3
      have e5 : M1 0 5 = M 0 5 := by rw [f1 0 (by decide) (by decide)]; exact g2 5 (by decide)
      obtain ⟨ea, eb⟩ := f3 i b1 (by omega)
      have qi := hk.2.1 i b1 (by rw [e05]; omega)
      have ri := hk.2.2 i b1 (by rw [e05]; omega)
      change M 24 i < M 0 4 at ri
      obtain ⟨t6, t7, t8, t9, t10⟩ := ht.2 i b1 (by omega)
      rw [t9] at qi
      change (0 ≤ M 24 i ∧ M 24 i < 5) ∧ (0 ≤ M 22 i ∧ M 22 i ≤ 9) ∧ (0 ≤ M 23 i ∧ M 23 i ≤ 3) ∧ (M 23 i = 0 → M 22 i < M 9 i) at qi
      have d9 : gX S0 w b (mX M) 9 i = nHas S0 (gZ w b (mX M)) i (sbF S0 (gZ w b (mX M)) (gZ w b (mX M) 8 i)) := rfl
      have d10 : gX S0 w b (mX M) 10 i = nHow S0 (gZ w b (mX M)) i (sbF S0 (gZ w b (mX M)) (gZ w b (mX M) 8 i)) := rfl
      unfold nHas at d9
      unfold nHow at d10
      rw [t6, t7, t8] at d9
      rw [t6, t7, t8, t9] at d10
      have es : setF (fun i => M 23 i = 0 ∧ ¬ gX S0 w b (mX M) 10 i = 0) (i + 1).toNat = bOr (setF (fun i => M 23 i = 0 ∧ ¬ gX S0 w b (mX M) 10 i = 0) i.toNat) (if M 23 i = 0 ∧ ¬ gX S0 w b (mX M) 10 i = 0 then bShl 1 i else 0) := setF_s b1
      refine g_l dX12_go_11 rfl rfl ?_
      refine g_l dX12_go_13 rfl rfl ?_
      refine g_getf dX12_go_14 h248 f_12_115 rfl rfl ?_
      rw [e5]
      refine g_icmp_ge (t := 70) dX12_go_17 (by decide) rfl (by omega) (by omega) (fun c_17 => False.elim (by omega)) (fun c_17 => ?_)
      refine g_l dX12_go_20 rfl rfl ?_
      refine g_getf dX12_go_21 h248 f_12_81 rfl rfl ?_
      refine g_l dX12_go_24 rfl rfl ?_
      refine g_iald dX12_go_26 h271 (by omega) (by decide) rfl ?_
      rw [eb]
      refine g_if_ne (t := 64) dX12_go_27 (by decide) rfl (by omega) (fun c_27 => ?_) (fun c_27 => ?_)
      · -- it is done already
        rw [if_neg (fun q => c_27 q.1), bOr_0 setF_R] at es
        rw [← es]
        rw [z9, z10] at d9
        rw [z9, z10] at d10
        change _ = if M 23 i = 0 then _ else M 22 i at d9
        change _ = if M 23 i = 0 then _ else M 23 i at d10
        rw [if_neg c_27] at d9 d10
        refine g_iinc (loc' := [some _, some _, some _, some _, some _]) dX12_go_64 rfl rfl rfl ?_
        refine g_goto (t := 11) dX12_go_67 (by decide) ?_
        refine ih (i + 1) M1 (by omega) (by omega) (by omega) f1 (fun p y1 y2 => ?_) (fun p y1 y2 => f3 p y1 (by omega))
        by_cases e : p = i
        · rw [e, d9, d10]; exact ⟨ea, eb⟩
        · exact f2 p y1 (by omega)
      · have c0 : M 23 i = 0 := by omega
        have h24 : M1 24 = M 24 := by rw [f1 24 (by decide) (by decide)]; exact g1 24 (by decide) (by decide) (by decide) (by decide)
        have h19 : M1 19 = Mh 19 := f1 19 (by decide) (by decide)
        have h20 : M1 20 = Mh 20 := f1 20 (by decide) (by decide)
        have h21 : M1 21 = Mh 21 := f1 21 (by decide) (by decide)
        have ht1 : tdP S0 M1 := tdP_c (M := M) ⟨fun c y1 y2 y3 y4 y5 y6 => by rw [f1 c y5 y6]; exact g1 c y1 y2 y3 y4, fun j hj => by rw [f1 0 (by decide) (by decide)]; exact g2 j hj⟩ ht
        have h6 : M1 6 = M 6 := by rw [f1 6 (by decide) (by decide)]; exact g1 6 (by decide) (by decide) (by decide) (by decide)
        have h7 : M1 7 = M 7 := by rw [f1 7 (by decide) (by decide)]; exact g1 7 (by decide) (by decide) (by decide) (by decide)
        have h8 : M1 8 = M 8 := by rw [f1 8 (by decide) (by decide)]; exact g1 8 (by decide) (by decide) (by decide) (by decide)
        have h9 : M1 9 = M 9 := by rw [f1 9 (by decide) (by decide)]; exact g1 9 (by decide) (by decide) (by decide) (by decide)
        have k2 : Mh 19 (M 24 i) = gZ w b (mX M) 2 (M 24 i) := (eh _ qi.1.1 ri).symm
        have k5 : Mh 20 (M 24 i) = gZ w b (mX M) 5 (M 24 i) := by
          rw [z5, (g4 _ qi.1.1 ri).1]
          exact (if_pos ri).symm
        have kb := (hZ.1.k (by omega)).2.2 (M 24 i) qi.1.1 qi.1.2
        have kb5 : 0 ≤ Mh 20 (M 24 i) ∧ Mh 20 (M 24 i) ≤ 10000000 := by
          rw [(g4 _ qi.1.1 ri).1]; exact (hh _ qi.1.1 ri).1
        have up : 0 < M 24 i → Mh 21 (M 24 i - 1) = cmF (mX M 3) (mX M 2) w (M 24 i) ∧ R32 (Mh 21 (M 24 i - 1)) := by
          intro y
          have e1 := (g4 (M 24 i - 1) (by omega) (by omega)).2.1
          obtain ⟨x1, x2, x3, x4⟩ := hh (M 24 i - 1) (by omega) (by omega)
          have x5 := leave_le x1.1 x2 x3 x4
          have e2 : cmF (mX M 3) (mX M 2) w (M 24 i) = upF (M 2) (M 19) (M 24 i - 1) := by
            unfold cmF upF
            rw [if_neg (by omega)]
            show (if M 24 i - 1 < M 0 4 then M 19 (M 24 i - 1) else M 4 (M 24 i - 1)) * M 2 (M 24 i - 1) / 10 = _
            rw [if_pos (by omega)]
          refine ⟨by rw [e1, e2], ?_⟩
          rw [e1]
          unfold upF
          omega
        have hsalt : sltP M1 (M1 24 i) ↔ saltB S0 (gZ w b (mX M)) (gZ w b (mX M) 8 i) := by
          rw [z8]
          unfold sltP saltB
          rw [h24, h6, e5, z8, e05]
          constructor
          · rintro ⟨q, y1, y2, y3, y4⟩
            exact ⟨q, y1, y2, by rw [(ht.2 q y1 y2).1]; exact y3, y4⟩
          · rintro ⟨q, y1, y2, y3, y4⟩
            exact ⟨q, y1, y2, by rw [← (ht.2 q y1 y2).1]; exact y3, y4⟩
        have hca : (sltP M1 (M1 24 i) ∧ 0 < M1 24 i ∧ 0 < M1 21 (M1 24 i - 1)) ↔ (sbF S0 (gZ w b (mX M)) (gZ w b (mX M) 8 i) = 1 ∧ 0 < gZ w b (mX M) 6 (M 24 i)) := by
          rw [z6, hsalt, h24, h21]
          constructor
          · intro y
            exact ⟨sbF_1 y.1, by rw [← (up y.2.1).1]; exact y.2.2⟩
          · intro y
            have s1 : saltB S0 (gZ w b (mX M)) (gZ w b (mX M) 8 i) := by
              refine Classical.byContradiction (fun n => ?_)
              rw [sbF_0 n] at y
              exact absurd y.1 (by decide)
            have s2 : 0 < M 24 i := by
              obtain ⟨j, x1, x2, x3, x4⟩ := s1
              rw [z8] at x4
              change M 24 j = M 24 i - 1 at x4
              have := (hk.2.1 j x1 x2).1.1
              change 0 ≤ M 24 j at this
              omega
            exact ⟨s1, s2, by rw [(up s2).1]; exact y.2⟩
        have hgot := qi.2.2.2 c0
        rw [z10, z9, z8] at d9 d10
        change _ = if M 23 i = 0 then fHas (mjF S0 i) (M 6 i) (M 7 i) (M 8 i) (M 22 i) (gZ w b (mX M) 2 (M 24 i)) (gZ w b (mX M) 5 (M 24 i)) (gZ w b (mX M) 6 (M 24 i)) (sbF S0 (gZ w b (mX M)) (M 24 i)) else _ at d9
        change _ = if M 23 i = 0 then fHow (mjF S0 i) (M 6 i) (M 7 i) (M 8 i) (M 9 i) (M 22 i) (gZ w b (mX M) 2 (M 24 i)) (gZ w b (mX M) 5 (M 24 i)) (gZ w b (mX M) 6 (M 24 i)) (sbF S0 (gZ w b (mX M)) (M 24 i)) else _ at d10
        rw [if_pos c0, ← k2, ← k5] at d9 d10
        refine g_l dX12_go_30 rfl rfl ?_
        refine g_getf dX12_go_31 h248 f_12_81 rfl rfl ?_
        refine g_l dX12_go_34 rfl rfl ?_
        refine g_l dX12_go_36 rfl rfl ?_
        refine g_l dX12_go_37 rfl rfl ?_
        refine g_callV dX12_go_39 m_12_189 (n := 1) rfl h248 rfl (Nat.le_of_ble_eq_true rfl) (Nat.le_of_ble_eq_true rfl) rfl rfl ?_
        refine s_X12_feel (S0 := S0) (p := i) (ca := gZ w b (mX M) 6 (M 24 i)) (sb := sbF S0 (gZ w b (mX M)) (gZ w b (mX M) 8 i)) ht1 hp (by rw [e5]; omega) (fun j y1 y2 => ?_) ?_ ?_ ?_ ?_ hca (fun M2 a1 a2 a3 => ?_)
        · rw [e5] at y2
          rw [h24]
          have := (hk.2.1 j y1 (by rw [e05]; exact y2)).1
          exact this
        · rw [ea, h9]; exact ⟨qi.2.1.1, hgot⟩
        · rw [h24, h19, k2]; omega
        · rw [h24, h20]; omega
        · rw [h24, h21]; exact fun y => (up y).2
        · rw [h6, h7, h8, h24, h19, h20, ea, z8] at a3
          change _ = fHas _ _ _ _ _ _ _ _ (sbF S0 (gZ w b (mX M)) (M 24 i)) at a3
          rw [← d9] at a3
          have a4 : fHow (mjF S0 i) (M1 6 i) (M1 7 i) (M1 8 i) (M1 9 i) (M1 22 i) (M1 19 (M1 24 i)) (M1 20 (M1 24 i)) (gZ w b (mX M) 6 (M 24 i)) (sbF S0 (gZ w b (mX M)) (gZ w b (mX M) 8 i)) = gX S0 w b (mX M) 10 i := by
            rw [h6, h7, h8, h9, h24, h19, h20, ea, z8, d10]
            rfl
          rw [a4]
          have r10 : 0 ≤ gX S0 w b (mX M) 10 i ∧ gX S0 w b (mX M) 10 i ≤ 3 := ((gX_ok (b := b) hp hk hw).2.1 i b1 (by rw [e05]; omega)).2.2.1
          have hz := ih (i + 1) (wS M2 23 i (gX S0 w b (mX M) 10 i)) (by omega) (by omega) (by omega) (fun c y1 y2 => by rw [wS_o y2, a1 c y1]; exact f1 c y1 y2) (fun p y1 y2 => ?_) (fun p y1 y2 => ?_)
          · simp only [Option.toList_some, Option.toList_none, List.cons_append, List.nil_append]
            refine g_iast dX12_go_42 h271 (by omega) (by decide) p271 rfl ?_
            refine g_l dX12_go_43 rfl rfl ?_
            refine g_l dX12_go_44 rfl rfl ?_
            refine g_getf dX12_go_45 h248 f_12_81 rfl rfl ?_
            refine g_l dX12_go_48 rfl rfl ?_
            refine g_iald dX12_go_50 h271 (by omega) (by decide) rfl ?_
            rw [show wS M2 23 i (gX S0 w b (mX M) 10 i) 23 i = gX S0 w b (mX M) 10 i from wS_e]
            refine g_if_eq (t := 61) dX12_go_51 (by decide) rfl (by omega) (fun c_51 => ?_) (fun c_51 => ?_)
            · refine g_iconst dX12_go_61 rfl ?_
              refine g_ior dX12_go_62 rfl ?_
              refine g_l (loc' := [some _, some _, some _, some _, some _]) dX12_go_63 rfl rfl ?_
              rw [if_neg (fun q => q.2 c_51)] at es
              rw [← es]
              refine g_iinc (loc' := [some _, some _, some _, some _, some _]) dX12_go_64 rfl rfl rfl ?_
              refine g_goto (t := 11) dX12_go_67 (by decide) ?_
              exact hz
            · refine g_iconst dX12_go_54 rfl ?_
              refine g_l dX12_go_55 rfl rfl ?_
              refine g_ishl dX12_go_57 rfl ?_
              refine g_goto (t := 62) dX12_go_58 (by decide) ?_
              refine g_ior dX12_go_62 rfl ?_
              refine g_l (loc' := [some _, some _, some _, some _, some _]) dX12_go_63 rfl rfl ?_
              rw [if_pos ⟨c0, c_51⟩] at es
              rw [← es]
              refine g_iinc (loc' := [some _, some _, some _, some _, some _]) dX12_go_64 rfl rfl rfl ?_
              refine g_goto (t := 11) dX12_go_67 (by decide) ?_
              exact hz
          · rw [wS_o (show (22 : Nat) ≠ 23 by decide), wS_s]
            by_cases e : p = i
            · rw [if_pos e, e, a3]; exact ⟨rfl, rfl⟩
            · rw [if_neg e, a2 p e, a1 23 (by decide)]; exact f2 p y1 (by omega)
          · rw [wS_o (show (22 : Nat) ≠ 23 by decide), wS_s, if_neg (by omega), a2 p (by omega), a1 23 (by decide)]; exact f3 p y1 (by omega)
  refine loop (M 0 5).toNat 0 Mh (by omega) n1 (by rw [Int.sub_zero]) (fun _ _ _ => rfl) (fun p y1 y2 => by omega) (fun p y1 y2 => ?_)
  rw [g1 22 (by decide) (by decide) (by decide) (by decide), g1 23 (by decide) (by decide) (by decide) (by decide)]
  exact ⟨rfl, rfl⟩
theorem s_X12_goMany {S0 : Nat → Int → Int} {n w B : Int} (hn : 0 ≤ n ∧ n ≤ 9) (hw : 0 ≤ w ∧ w ≤ 9) (ht : tdP S0 M) (hp : pOk S0) (hk : twOk S0 (mX M) B) (hB : B ≤ 900000) (hq : ∀ M', goFr M M' → agr S0 (mX M') (itX S0 w (mX M) n.toNat) → Q none (hO S Tw M' P)) : CallD (d + 4) 141 [.ref 248, .int (iI n), .int (iI w)] (hO S Tw M P) Q := by
  refine g_enter (loc := [some _, some _, some _, _]) e_X12_goMany i_X12_goMany (Nat.le_of_ble_eq_true rfl) rfl ?_
  refine g_iconst dX12_goMany_0 rfl ?_
  refine g_l (loc' := [some _, some _, some _, some _]) dX12_goMany_1 rfl rfl ?_
  have loop : ∀ (m : Nat) (i : Int) (M1 : Nat → Int → Int), 0 ≤ i → i ≤ n → (n - i).toNat = m → goFr M M1 → agr S0 (mX M1) (itX S0 w (mX M) i.toNat) →
      G none (d + 3) 12 false none 0 0 (hO S Tw M P).length cX12_goMany Q 0 2 [some (.ref 248), some (.int (iI n)), some (.int (iI w)), some (.int (iI i))] [] (hO S Tw M1 P) := by
    intro m
    induction m with
    | zero =>
      intro i M1 b1 b2 hm f1 f2
      have e : i = n := by omega
      refine g_l dX12_goMany_2 rfl rfl ?_
      refine g_l dX12_goMany_3 rfl rfl ?_
      refine g_icmp_ge (t := 20) dX12_goMany_4 (by decide) rfl (by omega) (by omega) (fun c_4 => ?_) (fun c_4 => False.elim (by omega))
      refine g_retV dX12_goMany_20 rfl rfl ?_
      rw [e] at f2
      exact hq M1 f1 f2
    | succ m ih =>
      intro i M1 b1 b2 hm f1 f2
      have ho := itX_ok hp hk hw i.toNat
      have ht1 := tdP_c f1 ht
      refine g_l dX12_goMany_2 rfl rfl ?_
      refine g_l dX12_goMany_3 rfl rfl ?_
      refine g_icmp_ge (t := 20) dX12_goMany_4 (by decide) rfl (by omega) (by omega) (fun c_4 => False.elim (by omega)) (fun c_4 => ?_)
      refine g_l dX12_goMany_7 rfl rfl ?_
      refine g_l dX12_goMany_8 rfl rfl ?_
      refine g_iconst dX12_goMany_9 rfl ?_
      refine g_callV dX12_goMany_10 m_12_192 (n := 2) rfl h248 rfl (Nat.le_of_ble_eq_true rfl) (Nat.le_of_ble_eq_true rfl) rfl rfl ?_
      refine s_X12_go (b := 0) (B := B + 180 * (i.toNat : Int)) (Or.inl rfl) hw ht1 hp (ho.agr f2) (by omega) (fun M2 a1 a2 => ?_)
      simp only [Option.toList_some, Option.toList_none, List.cons_append, List.nil_append]
      generalize setF (fun i => M1 23 i = 0 ∧ ¬ gX S0 w 0 (mX M1) 10 i = 0) (M1 0 5).toNat = z
      refine g_s dX12_goMany_13 rfl rfl rfl ?_
      refine g_iinc (loc' := [some _, some _, some _, some _]) dX12_goMany_14 rfl rfl rfl ?_
      refine g_goto (t := 2) dX12_goMany_17 (by decide) ?_
      refine ih (i + 1) M2 (by omega) (by omega) (by omega) (f1.tr a1) ?_
      rw [show (i + 1).toNat = i.toNat + 1 by omega]
      rw [gX_0] at a2
      exact a2.tr (fX_agr f2 ho)
  exact loop n.toNat 0 M (by omega) hn.1 (by rw [Int.sub_zero]) goFr.rf agr.rf
end RC
