/-! the steps of quarters, slots and the tower -/
section SE
variable {S : Nat → Int → Int} {Tw : Nat → Nat → Int → Int} {M : Nat → Int → Int} {P : Nat → Nat} {d : Nat} {Q : Option Value → GH → Prop}
theorem s_X11_again2 {s : Int} (hs : R32 s) (ht : 0 ≤ s → s < 2 → S 187 s = 1 → ∀ u, agr S u (Tw (13 + s.toNat)) → 2 ≤ u 1 5 ∧ u 1 5 ≤ 5) (hb : 0 ≤ s → s < 2 → S 187 s = 0 ∨ S 187 s = 1) (q1 : ¬ (0 ≤ s ∧ s < 2) → Q (some (.int (iI (-1)))) (hO S Tw M P)) (q2 : 0 ≤ s ∧ s < 2 → S 187 s = 0 → Q (some (.int (iI (-3)))) (hO S Tw M P))
    (q3 : 0 ≤ s ∧ s < 2 → S 187 s = 1 → ∀ Tw', frT 0 Tw Tw' → agr S (Tw' 0) (Tw (13 + s.toNat)) → Q (some (.int (iI (sumF (Tw' 0 2) (Tw' 0 1 5).toNat)))) (hO (wS S 30 1 0) Tw' M P)) : CallD (d + 4) 108 [.ref 0, .int (iI s)] (hO S Tw M P) Q := by
  refine g_enter (loc := [some _, some _]) e_X11_again i_X11_again (Nat.le_of_ble_eq_true rfl) rfl ?_
  refine g_l dX11_again_0 rfl rfl ?_
  refine g_if_lt (t := 9) dX11_again_1 (by decide) rfl (by omega) (fun c_1 => ?_) (fun c_1 => ?_)
  · refine g_iconst dX11_again_9 rfl ?_
    refine g_retI dX11_again_10 rfl rfl ?_
    exact q1 (by omega)
  · refine g_l dX11_again_4 rfl rfl ?_
    refine g_iconst dX11_again_5 rfl ?_
    refine g_icmp_lt (t := 11) dX11_again_6 (by decide) rfl (by omega) (by omega) (fun c_6 => ?_) (fun c_6 => ?_)
    · have hb2 := hb (by omega) (by omega)
      refine g_l dX11_again_11 rfl rfl ?_
      refine g_getf dX11_again_12 h0 f_11_50 rfl rfl ?_
      refine g_l dX11_again_15 rfl rfl ?_
      refine g_bald dX11_again_16 h187 (by omega) (by decide) rfl ?_
      refine g_if_ne (t := 23) dX11_again_17 (by decide) rfl (by omega) (fun c_17 => ?_) (fun c_17 => ?_)
      · refine g_l dX11_again_23 rfl rfl ?_
        refine g_getf dX11_again_24 h0 f_11_35 rfl rfl ?_
        refine g_l dX11_again_27 rfl rfl ?_
        refine g_getf dX11_again_28 h0 f_11_46 rfl rfl ?_
        refine g_l dX11_again_31 rfl rfl ?_
        refine g_aald164 dX11_again_32 (by omega) rfl ?_
        refine g_callV dX11_again_33 m_11_251 (n := 1) rfl (hT0 (by omega)) rfl (Nat.le_of_ble_eq_true rfl) (Nat.le_of_ble_eq_true rfl) rfl rfl ?_
        refine s_X9_copyFrom (t := 0) (u := 13 + s.toNat) (by decide) (by omega) (by omega) (fun T1 a1 a2 => ?_)
        simp only [Option.toList_some, Option.toList_none, List.cons_append, List.nil_append]
        refine g_l dX11_again_36 rfl rfl ?_
        refine g_getf dX11_again_37 h0 f_11_42 rfl rfl ?_
        refine g_callV dX11_again_40 m_11_115 (n := 0) rfl h30 rfl (Nat.le_of_ble_eq_true rfl) (Nat.le_of_ble_eq_true rfl) rfl rfl ?_
        refine s_X6_forget ?_
        simp only [Option.toList_some, Option.toList_none, List.cons_append, List.nil_append]
        refine g_l dX11_again_43 rfl rfl ?_
        refine g_getf dX11_again_44 h0 f_11_35 rfl rfl ?_
        refine g_getf dX11_again_47 (hT0 (by omega)) f_11_56 rfl rfl ?_
        refine g_callV dX11_again_50 m_11_128 (n := 0) rfl (hT1 (by omega)) rfl (Nat.le_of_ble_eq_true rfl) (Nat.le_of_ble_eq_true rfl) rfl rfl ?_
        refine s_X2_allHeat (t := 0) (by decide) (by have := ht (by omega) (by omega) (by omega) _ a2; omega) ?_
        simp only [Option.toList_some, Option.toList_none, List.cons_append, List.nil_append]
        refine g_retI dX11_again_53 rfl rfl ?_
        exact q3 (by omega) (by omega) T1 a1 a2
      · refine g_bipush dX11_again_20 (by decide) rfl ?_
        refine g_retI dX11_again_22 rfl rfl ?_
        exact q2 (by omega) (by omega)
    · refine g_iconst dX11_again_9 rfl ?_
      refine g_retI dX11_again_10 rfl rfl ?_
      exact q1 (by omega)
end SE
section SD
variable {S S' : Nat → Int → Int} {Tw Tw' : Nat → Nat → Int → Int} {M M' : Nat → Int → Int} {P : Nat → Nat} {B : Int}
/-- a page that holds what is now -/
theorem pg_now {U X : Nat → Int → Int} {i : Int} (hX : twOk S X B) (g : agr S U X) (ha : agr S (nX M) X) (hk : ∀ k, 0 ≤ k → k < 5 → M' 16 (16 * i + k) = M 4 k ∧ M' 16 (16 * i + 5 + k) = M 11 k ∧ M' 16 (16 * i + 10 + k) = M 12 k) (ho : M' 16 (16 * i + 15) = M 0 17) (h5 : S 13 5 ≤ 5) : pgP S U M' i B := by
  obtain ⟨⟨t1, t2, t3, t4⟩, q, r⟩ := hX
  obtain ⟨u1, u2, u3, u4⟩ := g
  obtain ⟨v1, v2, v3, v4⟩ := ha
  refine ⟨fun k a b => ?_, fun p a b => ⟨?_, ?_⟩, ?_, fun k a b => ?_, ?_, fun p a b => ?_⟩
  · rw [(hk k a b).1, (u3 k a b).1]; exact (v3 k a b).1.symm
  · rw [(hk p a (by omega)).2.1, (u4 p a b).2.1]; exact (v4 p a b).2.1.symm
  · rw [(hk p a (by omega)).2.2, (u4 p a b).2.2]; exact (v4 p a b).2.2.symm
  · rw [ho, u2]; exact v2.symm
  · rw [(u3 k a b).1]; exact (t3 k a b).2.2.2
  · rw [(u3 0 (by decide) (by decide)).1, (u3 1 (by decide) (by decide)).1, (u3 2 (by decide) (by decide)).1, (u3 3 (by decide) (by decide)).1, (u3 4 (by decide) (by decide)).1]; exact t4
  · rw [(u4 p a b).2.1, (u4 p a b).2.2]; exact (q p a b).2
set_option maxHeartbeats 1000000 in
theorem st_quarter (h : Rel S Tw M P B) (hB : B ≤ 700000) {w : Int} (hw : R32 w) : stepI 93 143 [.int (iI w)] S Tw M P B := by
  have h2 := h
  rw [Rel_6] at h2
  obtain ⟨g1, ⟨hp, ht⟩, ⟨hX, ha⟩, ⟨hr1, hr2, hr3, hr4⟩, g5, g6⟩ := h2
  have e25 : 0 ≤ M 0 25 ∧ M 0 25 ≤ 12 := by rw [hr3]; exact hr2
  have hq1 : ¬ (0 ≤ w ∧ w ≤ 9) → ∀ M1, thP M M1 → okI B (-2) (some (.int (iI (-2)))) (hO S Tw M1 P) := fun _ M1 h1 => h.fin (fun _ _ _ => rfl) (fun _ _ => rfl) h1.q rfl
  unfold stepI
  refine s_X11_quarter hw hp hX (by omega) hr1 hr2 (fun y => ⟨_, rfl, ⟨_, _, _, rfl⟩, ?_⟩) (fun y S1 T2 P1 z T1 hz hc hS f1 f2 f3 f4 => ⟨_, rfl, ⟨_, _, _, rfl⟩, ?_⟩)
  · exact s_X12_quarter hw ht hp ha hX (by omega) e25 hq1 (fun y2 _ _ _ _ _ => absurd y2 y)
  · refine s_X12_quarter hw ht hp ha hX (by omega) e25 (fun y2 _ _ => absurd y y2) (fun _ M1 m0 mj mn mg => ⟨rfl, S1, T2, M1, P1, rfl, ?_⟩)
    have hX2 := fX_ok (w := w) hp hX y
    have t : tEq S1 S := ⟨hS 13 (by decide), hS 14 (by decide), hS 15 (by decide), hS 16 (by decide), hS 17 (by decide), hS 18 (by decide)⟩
    have h5 : S 13 5 ≤ 5 := hp.2.1
    -- the row behind
    have hlen : 1 ≤ S1 30 1 ∧ S1 30 1 ≤ 12 ∧ S1 30 1 = noQ (M 0 25) + 1 ∧ rowP P1 := by
      rcases hc with ⟨c1, c2, c3⟩ | ⟨c1, c2, c3, c4⟩
      · refine ⟨by omega, by omega, ?_, by rw [c2]; exact hr1⟩
        unfold noQ
        rw [hr3, if_neg (by omega)]; exact c3
      · refine ⟨by omega, by omega, ?_, ?_, ?_⟩
        · unfold noQ
          rw [hr3, if_pos c1]; exact c4
        · intro j hj
          by_cases e : j = 11
          · subst e; rw [c3]; exact hr1.1 0 (by decide)
          · rw [c2 j (by omega)]; exact hr1.1 (j + 1) (by omega)
        · intro i j hi hj hij
          by_cases e1 : i = 11 <;> by_cases e2 : j = 11
          · omega
          · subst e1
            rw [c3, c2 j (by omega)] at hij
            have := hr1.2 0 (j + 1) (by decide) (by omega) hij
            omega
          · subst e2
            rw [c3, c2 i (by omega)] at hij
            have := hr1.2 (i + 1) 0 (by omega) (by decide) hij
            omega
          · rw [c2 i (by omega), c2 j (by omega)] at hij
            have := hr1.2 (i + 1) (j + 1) (by omega) (by omega) hij
            omega
    obtain ⟨l1, l2, l3, l4⟩ := hlen
    have hz12 : 1 ≤ z ∧ z ≤ 12 := by rw [hz]; exact l4.1 _ (by omega)
    have tz : T2 z = T1 z := f3 z (by omega)
    have to : ∀ u, u ≠ 0 → u ≠ z → T2 u = Tw u := fun u a b => by rw [f3 u a, f1 u b]
    obtain ⟨n1, n2, n3, n4⟩ := mn
    have m16 : ∀ i : Int, 0 ≤ i → i < S1 30 1 - 1 → pgP S (T2 (P1 i.toNat)) M1 i B := by
      intro i a b
      have hne : P1 i.toNat ≠ z := fun q => by
        rw [hz] at q
        have := l4.2 _ _ (by omega) (by omega) q
        omega
      have hn0 := (l4.1 i.toNat (by omega)).1
      rw [to _ (by omega) hne]
      rcases hc with ⟨c1, c2, c3⟩ | ⟨c1, c2, c3, c4⟩
      · rw [c2]
        have e : ∀ j, 0 ≤ j → j < 16 * noQ (M 0 25) → M1 16 j = M 16 j := fun j y1 y2 => by rw [n4 j y1 y2, hr3, if_neg (by omega)]
        obtain ⟨o1, o2, o3, o4, o5, o6⟩ := hr4 i a (by omega)
        refine ⟨fun k y1 y2 => by rw [e _ (by omega) (by omega)]; exact o1 k y1 y2, fun p y1 y2 => ⟨by rw [e _ (by omega) (by omega)]; exact (o2 p y1 y2).1, by rw [e _ (by omega) (by omega)]; exact (o2 p y1 y2).2⟩, by rw [e _ (by omega) (by omega)]; exact o3, o4, o5, o6⟩
      · rw [c2 i.toNat (by omega)]
        have e : ∀ j, 0 ≤ j → j < 16 * noQ (M 0 25) → M1 16 j = M 16 (j + 16) := fun j y1 y2 => by rw [n4 j y1 y2, hr3, if_pos (by omega)]
        obtain ⟨o1, o2, o3, o4, o5, o6⟩ := hr4 (i + 1) (by omega) (by omega)
        rw [show (i + 1).toNat = i.toNat + 1 by omega] at o1 o2 o3 o4 o5 o6
        refine ⟨fun k y1 y2 => ?_, fun p y1 y2 => ⟨?_, ?_⟩, ?_, o4, o5, o6⟩
        · rw [e _ (by omega) (by omega), show 16 * i + k + 16 = 16 * (i + 1) + k by omega]; exact o1 k y1 y2
        · rw [e _ (by omega) (by omega), show 16 * i + 5 + p + 16 = 16 * (i + 1) + 5 + p by omega]; exact (o2 p y1 y2).1
        · rw [e _ (by omega) (by omega), show 16 * i + 10 + p + 16 = 16 * (i + 1) + 10 + p by omega]; exact (o2 p y1 y2).2
        · rw [e _ (by omega) (by omega), show 16 * i + 15 + 16 = 16 * (i + 1) + 15 by omega]; exact o3
    have plast : pgP S (T2 z) M1 (S1 30 1 - 1) B := by
      rw [tz]
      refine pg_now hX f2 ha ?_ ?_ h5
      · rw [show S1 30 1 - 1 = noQ (M 0 25) by omega]; exact n1
      · rw [show S1 30 1 - 1 = noQ (M 0 25) by omega]; exact n2
    rw [Rel_6]
    refine ⟨g1.c (hS 1 (by decide)) (hS 2 (by decide)) (mj 2 (by decide)) (m0 1 (by decide) (by decide) (by decide) (by decide) (by decide) (by decide)), (show RcP S M from ⟨hp, ht⟩).c t (mj 5 (by decide)) (fun c a b => m0 c (by omega) (by omega) (by omega) (by omega) (by omega) (by omega)), ⟨twOk_t (hS 13 (by decide)) (hS 17 (by decide)) (hX2.agr f4), agr_t (hS 13 (by decide)) (mg.tr f4.sy)⟩, ⟨l4, by omega, by rw [n3, l3], fun i a b => ?_⟩, ?_, g6.c (fun c a b => hS c (by omega)) (mj 35 (by decide)) (fun c a b => m0 c (by omega) (by omega) (by omega) (by omega) (by omega) (by omega))⟩
    · by_cases e : i = S1 30 1 - 1
      · subst e
        rw [← hz]
        exact (plast.c (hS 13 (by decide)) (hS 17 (by decide)) rfl).le (by omega)
      · exact ((m16 i a (by omega)).c (hS 13 (by decide)) (hS 17 (by decide)) rfl).le (by omega)
    · have g5' : RcS S Tw M (B + 180) := fun s a b => ⟨(g5 s a b).1, (g5 s a b).2.1, fun q => ((g5 s a b).2.2 q).le (by omega)⟩
      exact g5'.c (hS 13 (by decide)) (hS 17 (by decide)) (hS 187 (by decide)) (fun u a b => to u (by omega) (by omega)) f4.1 (m0 17 (by decide) (by decide) (by decide) (by decide) (by decide) (by decide)) (m0 18 (by decide) (by decide) (by decide) (by decide) (by decide) (by decide))
theorem st_undo (h : Rel S Tw M P B) : stepI 94 144 [] S Tw M P B := by
  have h2 := h.le (show B ≤ B + 180 by omega)
  rw [Rel_6] at h2
  obtain ⟨g1, g2, ⟨hX, ha⟩, ⟨hr1, hr2, hr3, hr4⟩, g5, g6⟩ := h2
  have e25 : 0 ≤ M 0 25 ∧ M 0 25 ≤ 12 := by rw [hr3]; exact hr2
  unfold stepI
  refine s_X11_undo hr1 hr2 (fun y => ⟨_, rfl, ⟨_, _, _, rfl⟩, ?_⟩) (fun y T2 u hu f1 f2 f3 f4 f5 f6 f7 => ⟨_, rfl, ⟨_, _, _, rfl⟩, ?_⟩)
  · exact s_X12_undo e25 (fun _ M1 h1 => h.fin (fun _ _ _ => rfl) (fun _ _ => rfl) h1.q rfl) (fun y2 _ _ _ _ _ _ => absurd y2 (by omega))
  · refine s_X12_undo e25 (fun y2 _ _ => absurd y2 (by omega)) (fun _ M1 m0 mj m25 m17 mk => ⟨by rw [hr3], _, T2, M1, P, rfl, ?_⟩)
    have s1 : ∀ c, c ≠ 30 → wS S 30 1 (S 30 1 - 1) c = S c := fun c hc => wS_o hc
    have s30 : wS S 30 1 (S 30 1 - 1) 30 1 = S 30 1 - 1 := wS_e
    have h5 : S 13 5 ≤ 5 := g2.1.2.1
    rw [hr3] at m25 m17 mk
    obtain ⟨o1, o2, o3, o4, o5, o6⟩ := hr4 (S 30 1 - 1) (by omega) (by omega)
    rw [← hu] at o1 o2 o3 o4 o5 o6
    obtain ⟨⟨t1, t2, t3, t4⟩, q, r⟩ := hX
    obtain ⟨v1, v2, v3, v4⟩ := ha
    have e15 : T2 0 1 5 = Tw 0 1 5 := f6 5 (by decide)
    have e3 : T2 0 3 = Tw 0 3 := f7 3 (by decide) (by decide) (by decide) (by decide)
    have e4 : T2 0 4 = Tw 0 4 := f7 4 (by decide) (by decide) (by decide) (by decide)
    have e8 : T2 0 8 = Tw 0 8 := f7 8 (by decide) (by decide) (by decide) (by decide)
    rw [Rel_6]
    refine ⟨g1.c (s1 1 (by decide)) (s1 2 (by decide)) (mj 2 (by decide) (by decide) (by decide)) (m0 1 (by decide) (by decide) (by decide) (by decide)), g2.c (tEq_w (by decide)) (mj 5 (by decide) (by decide) (by decide)) (fun c a b => m0 c (by omega) (by omega) (by omega) (by omega)), ⟨twOk_t (s1 13 (by decide)) (s1 17 (by decide)) ⟨⟨?_, ?_, fun k a b => ?_, ?_⟩, fun p a b => ?_, fun p a b => ?_⟩, agr_t (s1 13 (by decide)) ⟨?_, ?_, fun k a b => ⟨?_, ?_, ?_⟩, fun p a b => ⟨?_, ?_, ?_⟩⟩⟩, ⟨hr1, by rw [s30]; omega, by rw [s30, m25], fun i a b => ?_⟩, g5.c (s1 13 (by decide)) (s1 17 (by decide)) (s1 187 (by decide)) (fun v a b => f1 v (by omega)) e15 (m0 17 (by decide) (by decide) (by decide) (by decide)) (m0 18 (by decide) (by decide) (by decide) (by decide)), g6.c (fun c a b => s1 c (by omega)) (mj 35 (by decide) (by decide) (by decide)) (fun c a b => m0 c (by omega) (by omega) (by omega) (by omega))⟩
    · rw [e15]; exact t1
    · rw [e15]; exact t2
    · rw [e3, e4, f2]
      obtain ⟨y1, y2, y3, -⟩ := t3 k a b
      exact ⟨y1, y2, y3, o4 k a b⟩
    · rw [f2]; exact o5
    · rw [e8, f4, f5]; exact ⟨(q p a b).1, o6 p a b⟩
    · rw [e8, e15]; exact r p a b
    · show M1 0 4 = _; rw [mj 4 (by decide) (by decide) (by decide), e15]; exact v1
    · show M1 0 17 = _; rw [m17, f3]; exact o3.symm
    · show M1 4 k = _; rw [(mk k a b).1, f2]; exact (o1 k a b).symm
    · show M1 2 k = _; rw [m0 2 (by decide) (by decide) (by decide) (by decide), e3]; exact (v3 k a b).2.1
    · show M1 3 k = _; rw [m0 3 (by decide) (by decide) (by decide) (by decide), e4]; exact (v3 k a b).2.2
    · show M1 5 p = _; rw [m0 5 (by decide) (by decide) (by decide) (by decide), e8]; exact (v4 p a b).1
    · show M1 11 p = _; rw [(mk p a (by omega)).2.1, f4]; exact (o2 p a b).1.symm
    · show M1 12 p = _; rw [(mk p a (by omega)).2.2, f5]; exact (o2 p a b).2.symm
    · rw [s30] at b
      have := (hr1.1 i.toNat (by omega)).1
      rw [f1 _ (by omega)]
      exact (hr4 i a (by omega)).c (s1 13 (by decide)) (s1 17 (by decide)) (m0 16 (by decide) (by decide) (by decide) (by decide))
theorem st_keep (h : Rel S Tw M P B) {s : Int} (hs : R32 s) : stepI 107 162 [.int (iI s)] S Tw M P B := by
  have h2 := h.le (show B ≤ B + 180 by omega)
  rw [Rel_6] at h2
  obtain ⟨g1, g2, ⟨hX, ha⟩, g4, g5, g6⟩ := h2
  have e4 : M 0 4 = Tw 0 1 5 := ha.1
  have b4 : 2 ≤ Tw 0 1 5 ∧ Tw 0 1 5 ≤ 5 := ⟨hX.1.1, hX.1.2.1⟩
  have h5 : S 13 5 ≤ 5 := g2.1.2.1
  have eh : sumF (M 4) (M 0 4).toNat = sumF (Tw 0 2) (Tw 0 1 5).toNat := by
    rw [e4]
    exact sumF_lo (fun k a b => (ha.2.2.1 k a (by omega)).1)
  unfold stepI
  refine s_X11_keep hs b4 (fun z => ⟨_, rfl, ⟨_, _, _, rfl⟩, ?_⟩) (fun z T2 f1 f2 => ⟨_, rfl, ⟨_, _, _, rfl⟩, ?_⟩)
  · exact s_X12_keep hs (by omega) (fun _ M1 h1 => h.fin (fun _ _ _ => rfl) (fun _ _ => rfl) h1.q rfl) (fun z2 _ _ _ _ _ => absurd z2 z)
  · refine s_X12_keep hs (by omega) (fun z2 _ _ => absurd z z2) (fun _ M1 m0 mj m18 mk => ⟨by rw [eh], _, T2, M1, P, rfl, ?_⟩)
    have s1 : ∀ c, c ≠ 187 → wS S 187 s 1 c = S c := fun c hc => wS_o hc
    have s187 : ∀ j, wS S 187 s 1 187 j = if j = s then 1 else S 187 j := fun j => wS_s
    have t0 : T2 0 = Tw 0 := f1 0 (by omega)
    rw [Rel_6]
    refine ⟨g1.c (s1 1 (by decide)) (s1 2 (by decide)) (mj 2 (by decide)) (m0 1 (by decide) (by decide) (by decide)), g2.c (tEq_w (by decide)) (mj 5 (by decide)) (fun c a b => m0 c (by omega) (by omega) (by omega)), ?_, g4.c (s1 13 (by decide)) (s1 17 (by decide)) (by rw [s1 30 (by decide)]) (fun u a b => f1 u (by omega)) (mj 25 (by decide)) (m0 16 (by decide) (by decide) (by decide)), fun s' a b => ?_, g6.c (fun c a b => s1 c (by omega)) (mj 35 (by decide)) (fun c a b => m0 c (by omega) (by omega) (by omega))⟩
    · rw [t0]
      exact (show RcN S (Tw 0) M (B + 180) from ⟨hX, ha⟩).c (s1 13 (by decide)) (s1 17 (by decide)) (mj 4 (by decide)) (mj 17 (by decide)) (fun c hc => m0 c (by omega) (by omega) (by omega))
    · obtain ⟨k1, k2, k3⟩ := mk
      obtain ⟨v1, v2, v3, v4⟩ := ha
      by_cases e : s' = s
      · subst e
        obtain ⟨w1, w2, w3, w4⟩ := f2
        rw [s187, m18, if_pos rfl]
        refine ⟨Or.inr rfl, by rw [if_pos rfl], fun _ => ⟨twOk_t (s1 13 (by decide)) (s1 17 (by decide)) (hX.agr ⟨w1, w2, w3, w4⟩), by rw [t0]; exact w1, ?_, fun k y1 y2 => ⟨?_, ?_, ?_⟩, fun p y1 y2 => ?_⟩⟩
        · rw [k2, w2]; exact v2.symm
        · rw [(k1 k y1 y2).1, (w3 k y1 y2).1]; exact (v3 k y1 y2).1.symm
        · rw [(k1 k y1 y2).2.1, (w3 k y1 y2).2.1]; exact (v3 k y1 y2).2.1.symm
        · rw [(k1 k y1 y2).2.2.1, (w3 k y1 y2).2.2]; exact (v3 k y1 y2).2.2.symm
        · rw [s1 13 (by decide)] at y2
          obtain ⟨kk1, kk2, kk3, kk4, kk5, kk6⟩ := k1 p y1 (by omega)
          rw [kk4, kk5, kk6, (w4 p y1 y2).1, (w4 p y1 y2).2.1, (w4 p y1 y2).2.2]
          exact ⟨(v4 p y1 y2).1.symm, (v4 p y1 y2).2.1.symm, (v4 p y1 y2).2.2.symm⟩
      · obtain ⟨o1, o2, o3⟩ := g5 s' a b
        rw [s187, m18, if_neg e, if_neg e]
        refine ⟨o1, o2, fun q => ?_⟩
        have o4 := o3 q
        rw [f1 _ (by omega), t0]
        obtain ⟨p1, p2, p3, p4, p5⟩ := o4
        refine ⟨twOk_t (s1 13 (by decide)) (s1 17 (by decide)) p1, p2, ?_, fun k y1 y2 => ?_, fun p y1 y2 => ?_⟩
        · rw [k3 _ (by omega)]; exact p3
        · rw [k3 _ (by omega), k3 _ (by omega), k3 _ (by omega)]; exact p4 k y1 y2
        · rw [s1 13 (by decide)] at y2
          rw [k3 _ (by omega), k3 _ (by omega), k3 _ (by omega)]; exact p5 p y1 y2
theorem st_again (h : Rel S Tw M P B) {s : Int} (hs : R32 s) : stepI 108 163 [.int (iI s)] S Tw M P B := by
  have h2 := h.le (show B ≤ B + 180 by omega)
  rw [Rel_6] at h2
  obtain ⟨g1, g2, ⟨hX, ha⟩, g4, g5, g6⟩ := h2
  have e4 : M 0 4 = Tw 0 1 5 := ha.1
  have b4 : 2 ≤ Tw 0 1 5 ∧ Tw 0 1 5 ≤ 5 := ⟨hX.1.1, hX.1.2.1⟩
  have h5 : S 13 5 ≤ 5 := g2.1.2.1
  have hb : 0 ≤ s → s < 2 → M 18 s = 0 ∨ M 18 s = 1 := fun a b => by rw [(g5 s a b).2.1]; exact (g5 s a b).1
  unfold stepI
  refine s_X11_again2 hs (fun k1 k2 k3 u a => ?_) (fun a b => (g5 s a b).1) (fun z => ⟨_, rfl, ⟨_, _, _, rfl⟩, ?_⟩) (fun z y => ⟨_, rfl, ⟨_, _, _, rfl⟩, ?_⟩) (fun z k3 T2 f1 f2 => ⟨_, rfl, ⟨_, _, _, rfl⟩, ?_⟩)
  · rw [a.1, ((g5 s k1 k2).2.2 k3).2.1]; exact b4
  · exact s_X12_again hs (by omega) hb (fun _ M1 h1 => h.fin (fun _ _ _ => rfl) (fun _ _ => rfl) h1.q rfl) (fun z2 _ _ _ => absurd z2 z) (fun z2 _ _ _ _ _ _ _ => absurd z2 z)
  · have hm := (g5 s z.1 z.2).2.1
    exact s_X12_again hs (by omega) hb (fun z2 _ _ => absurd z z2) (fun _ _ M1 h1 => h.fin (fun _ _ _ => rfl) (fun _ _ => rfl) h1.q rfl) (fun _ y2 _ _ _ _ _ _ => absurd y2 (by omega))
  · obtain ⟨k1, k2⟩ := id z
    obtain ⟨-, hm, hsl⟩ := g5 s k1 k2
    obtain ⟨p1, p2, p3, p4, p5⟩ := hsl k3
    · refine s_X12_again hs (by omega) hb (fun z2 _ _ => absurd z z2) (fun z2 y2 _ _ => by omega) (fun _ _ M1 m0 mj m25 m17 mk => ⟨?_, _, T2, M1, P, rfl, ?_⟩)
      · have e44 : M1 0 4 = T2 0 1 5 := by rw [mj 4 (by decide) (by decide) (by decide), f2.1, p2, e4]
        rw [e44, sumF_lo (f := M1 4) (g := T2 0 2) (fun k a b => ?_)]
        rw [e44.symm, mj 4 (by decide) (by decide) (by decide), e4] at b
        rw [(mk k a (by omega)).1, (f2.2.2.1 k a (by omega)).1]
        exact (p4 k a (by omega)).1.symm
      · have s1 : ∀ c, c ≠ 30 → wS S 30 1 0 c = S c := fun c hc => wS_o hc
        have s30 : wS S 30 1 0 30 1 = 0 := wS_e
        rw [Rel_6]
        refine ⟨g1.c (s1 1 (by decide)) (s1 2 (by decide)) (mj 2 (by decide) (by decide) (by decide)) (m0 1 (by decide) (by decide) (by decide) (by decide) (by decide) (by decide) (by decide)), g2.c (tEq_w (by decide)) (mj 5 (by decide) (by decide) (by decide)) (fun c a b => m0 c (by omega) (by omega) (by omega) (by omega) (by omega) (by omega) (by omega)), ⟨twOk_t (s1 13 (by decide)) (s1 17 (by decide)) (p1.agr f2), agr_t (s1 13 (by decide)) ((show agr S (nX M1) (Tw (13 + s.toNat)) from ⟨?_, ?_, fun k a b => ⟨?_, ?_, ?_⟩, fun p a b => ⟨?_, ?_, ?_⟩⟩).tr f2.sy)⟩, ⟨g4.1, by rw [s30]; decide, by rw [s30, m25], fun i a b => by rw [s30] at b; omega⟩, g5.c (s1 13 (by decide)) (s1 17 (by decide)) (s1 187 (by decide)) (fun v a b => f1 v (by omega)) (f2.1.trans p2) (m0 17 (by decide) (by decide) (by decide) (by decide) (by decide) (by decide) (by decide)) (m0 18 (by decide) (by decide) (by decide) (by decide) (by decide) (by decide) (by decide)), g6.c (fun c a b => s1 c (by omega)) (mj 35 (by decide) (by decide) (by decide)) (fun c a b => m0 c (by omega) (by omega) (by omega) (by omega) (by omega) (by omega) (by omega))⟩
        · show M1 0 4 = _; rw [mj 4 (by decide) (by decide) (by decide), p2]; exact e4
        · show M1 0 17 = _; rw [m17]; exact p3.symm
        · show M1 4 k = _; rw [(mk k a b).1]; exact (p4 k a b).1.symm
        · show M1 2 k = _; rw [(mk k a b).2.1]; exact (p4 k a b).2.1.symm
        · show M1 3 k = _; rw [(mk k a b).2.2.1]; exact (p4 k a b).2.2.symm
        · show M1 5 p = _; rw [(mk p a (by omega)).2.2.2.1]; exact (p5 p a b).1.symm
        · show M1 11 p = _; rw [(mk p a (by omega)).2.2.2.2.1]; exact (p5 p a b).2.1.symm
        · show M1 12 p = _; rw [(mk p a (by omega)).2.2.2.2.2]; exact (p5 p a b).2.2.symm
end SD
