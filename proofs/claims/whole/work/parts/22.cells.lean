/-! what stands in the ghost heap's cells, and what writing makes of it; printed by wip/whole/gen22.py -/
section HC
variable {S : Nat → Int → Int} {Tw : Nat → Nat → Int → Int} {M : Nat → Int → Int} {P : Nat → Nat}
theorem hT0 {t : Nat} (ht : t < 19) : (hO S Tw M P)[tR t 0]? = some (.inr (9, [.ref (tR t 1), .ref (tR t 7)])) := hO_T (o := 0) ht (by omega)
theorem hT1 {t : Nat} (ht : t < 19) : (hO S Tw M P)[tR t 1]? = some (.inr (2, [.ref (tR t 2), .ref (tR t 3), .ref (tR t 4), .ref (tR t 5), .ref (tR t 6), .int (iI (Tw t 1 5)), .int (iI (Tw t 1 6))])) := hO_T (o := 1) ht (by omega)
theorem hT7 {t : Nat} (ht : t < 19) : (hO S Tw M P)[tR t 7]? = some (.inr (4, [.ref (tR t 8), .ref (tR t 9), .ref (tR t 10), .ref 13])) := hO_T (o := 7) ht (by omega)
theorem hTa2 {t : Nat} (ht : t < 19) : (hO S Tw M P)[tR t 2]? = some (.inl (0, vec 5 (Tw t 2))) := by
  rw [hO_T (o := 2) ht (by omega)]
  show some (Sum.inl (0, slotV (Tw t 2) (List.replicate 5 none))) = _
  rw [slotV_vec]
theorem pTa2 {t : Nat} (ht : t < 19) {e v : Int} : (hO S Tw M P).set (tR t 2) (.inl (0, vec 5 (fun i => if i = e then v else Tw t 2 i))) = hO S (wT Tw t 2 e v) M P := by
  rw [← wT_r]
  refine hO_set ht (by omega) _ ?_
  obtain ⟨h1, h2, h3, h4⟩ := tR_facts (o := 2) ht (by omega)
  unfold skAt
  rw [if_neg h3, h4]
  show _ = Sum.inl (0, slotV _ (List.replicate 5 none))
  rw [slotV_vec]
theorem qTa2 {t : Nat} (ht : t < 19) {g : Int → Int} : (hO S Tw M P).set (tR t 2) (.inl (0, vec 5 g)) = hO S (rT Tw t 2 g) M P := by
  refine hO_set ht (by omega) _ ?_
  obtain ⟨h1, h2, h3, h4⟩ := tR_facts (o := 2) ht (by omega)
  unfold skAt
  rw [if_neg h3, h4]
  show _ = Sum.inl (0, slotV _ (List.replicate 5 none))
  rw [slotV_vec]
theorem hTa3 {t : Nat} (ht : t < 19) : (hO S Tw M P)[tR t 3]? = some (.inl (0, vec 5 (Tw t 3))) := by
  rw [hO_T (o := 3) ht (by omega)]
  show some (Sum.inl (0, slotV (Tw t 3) (List.replicate 5 none))) = _
  rw [slotV_vec]
theorem pTa3 {t : Nat} (ht : t < 19) {e v : Int} : (hO S Tw M P).set (tR t 3) (.inl (0, vec 5 (fun i => if i = e then v else Tw t 3 i))) = hO S (wT Tw t 3 e v) M P := by
  rw [← wT_r]
  refine hO_set ht (by omega) _ ?_
  obtain ⟨h1, h2, h3, h4⟩ := tR_facts (o := 3) ht (by omega)
  unfold skAt
  rw [if_neg h3, h4]
  show _ = Sum.inl (0, slotV _ (List.replicate 5 none))
  rw [slotV_vec]
theorem qTa3 {t : Nat} (ht : t < 19) {g : Int → Int} : (hO S Tw M P).set (tR t 3) (.inl (0, vec 5 g)) = hO S (rT Tw t 3 g) M P := by
  refine hO_set ht (by omega) _ ?_
  obtain ⟨h1, h2, h3, h4⟩ := tR_facts (o := 3) ht (by omega)
  unfold skAt
  rw [if_neg h3, h4]
  show _ = Sum.inl (0, slotV _ (List.replicate 5 none))
  rw [slotV_vec]
theorem hTa4 {t : Nat} (ht : t < 19) : (hO S Tw M P)[tR t 4]? = some (.inl (0, vec 5 (Tw t 4))) := by
  rw [hO_T (o := 4) ht (by omega)]
  show some (Sum.inl (0, slotV (Tw t 4) (List.replicate 5 none))) = _
  rw [slotV_vec]
theorem pTa4 {t : Nat} (ht : t < 19) {e v : Int} : (hO S Tw M P).set (tR t 4) (.inl (0, vec 5 (fun i => if i = e then v else Tw t 4 i))) = hO S (wT Tw t 4 e v) M P := by
  rw [← wT_r]
  refine hO_set ht (by omega) _ ?_
  obtain ⟨h1, h2, h3, h4⟩ := tR_facts (o := 4) ht (by omega)
  unfold skAt
  rw [if_neg h3, h4]
  show _ = Sum.inl (0, slotV _ (List.replicate 5 none))
  rw [slotV_vec]
theorem qTa4 {t : Nat} (ht : t < 19) {g : Int → Int} : (hO S Tw M P).set (tR t 4) (.inl (0, vec 5 g)) = hO S (rT Tw t 4 g) M P := by
  refine hO_set ht (by omega) _ ?_
  obtain ⟨h1, h2, h3, h4⟩ := tR_facts (o := 4) ht (by omega)
  unfold skAt
  rw [if_neg h3, h4]
  show _ = Sum.inl (0, slotV _ (List.replicate 5 none))
  rw [slotV_vec]
theorem hTa5 {t : Nat} (ht : t < 19) : (hO S Tw M P)[tR t 5]? = some (.inl (0, vec 5 (Tw t 5))) := by
  rw [hO_T (o := 5) ht (by omega)]
  show some (Sum.inl (0, slotV (Tw t 5) (List.replicate 5 none))) = _
  rw [slotV_vec]
theorem pTa5 {t : Nat} (ht : t < 19) {e v : Int} : (hO S Tw M P).set (tR t 5) (.inl (0, vec 5 (fun i => if i = e then v else Tw t 5 i))) = hO S (wT Tw t 5 e v) M P := by
  rw [← wT_r]
  refine hO_set ht (by omega) _ ?_
  obtain ⟨h1, h2, h3, h4⟩ := tR_facts (o := 5) ht (by omega)
  unfold skAt
  rw [if_neg h3, h4]
  show _ = Sum.inl (0, slotV _ (List.replicate 5 none))
  rw [slotV_vec]
theorem qTa5 {t : Nat} (ht : t < 19) {g : Int → Int} : (hO S Tw M P).set (tR t 5) (.inl (0, vec 5 g)) = hO S (rT Tw t 5 g) M P := by
  refine hO_set ht (by omega) _ ?_
  obtain ⟨h1, h2, h3, h4⟩ := tR_facts (o := 5) ht (by omega)
  unfold skAt
  rw [if_neg h3, h4]
  show _ = Sum.inl (0, slotV _ (List.replicate 5 none))
  rw [slotV_vec]
theorem hTa6 {t : Nat} (ht : t < 19) : (hO S Tw M P)[tR t 6]? = some (.inl (0, vec 5 (Tw t 6))) := by
  rw [hO_T (o := 6) ht (by omega)]
  show some (Sum.inl (0, slotV (Tw t 6) (List.replicate 5 none))) = _
  rw [slotV_vec]
theorem pTa6 {t : Nat} (ht : t < 19) {e v : Int} : (hO S Tw M P).set (tR t 6) (.inl (0, vec 5 (fun i => if i = e then v else Tw t 6 i))) = hO S (wT Tw t 6 e v) M P := by
  rw [← wT_r]
  refine hO_set ht (by omega) _ ?_
  obtain ⟨h1, h2, h3, h4⟩ := tR_facts (o := 6) ht (by omega)
  unfold skAt
  rw [if_neg h3, h4]
  show _ = Sum.inl (0, slotV _ (List.replicate 5 none))
  rw [slotV_vec]
theorem qTa6 {t : Nat} (ht : t < 19) {g : Int → Int} : (hO S Tw M P).set (tR t 6) (.inl (0, vec 5 g)) = hO S (rT Tw t 6 g) M P := by
  refine hO_set ht (by omega) _ ?_
  obtain ⟨h1, h2, h3, h4⟩ := tR_facts (o := 6) ht (by omega)
  unfold skAt
  rw [if_neg h3, h4]
  show _ = Sum.inl (0, slotV _ (List.replicate 5 none))
  rw [slotV_vec]
theorem hTa8 {t : Nat} (ht : t < 19) : (hO S Tw M P)[tR t 8]? = some (.inl (0, vec 5 (Tw t 8))) := by
  rw [hO_T (o := 8) ht (by omega)]
  show some (Sum.inl (0, slotV (Tw t 8) (List.replicate 5 none))) = _
  rw [slotV_vec]
theorem pTa8 {t : Nat} (ht : t < 19) {e v : Int} : (hO S Tw M P).set (tR t 8) (.inl (0, vec 5 (fun i => if i = e then v else Tw t 8 i))) = hO S (wT Tw t 8 e v) M P := by
  rw [← wT_r]
  refine hO_set ht (by omega) _ ?_
  obtain ⟨h1, h2, h3, h4⟩ := tR_facts (o := 8) ht (by omega)
  unfold skAt
  rw [if_neg h3, h4]
  show _ = Sum.inl (0, slotV _ (List.replicate 5 none))
  rw [slotV_vec]
theorem qTa8 {t : Nat} (ht : t < 19) {g : Int → Int} : (hO S Tw M P).set (tR t 8) (.inl (0, vec 5 g)) = hO S (rT Tw t 8 g) M P := by
  refine hO_set ht (by omega) _ ?_
  obtain ⟨h1, h2, h3, h4⟩ := tR_facts (o := 8) ht (by omega)
  unfold skAt
  rw [if_neg h3, h4]
  show _ = Sum.inl (0, slotV _ (List.replicate 5 none))
  rw [slotV_vec]
theorem hTa9 {t : Nat} (ht : t < 19) : (hO S Tw M P)[tR t 9]? = some (.inl (0, vec 5 (Tw t 9))) := by
  rw [hO_T (o := 9) ht (by omega)]
  show some (Sum.inl (0, slotV (Tw t 9) (List.replicate 5 none))) = _
  rw [slotV_vec]
theorem pTa9 {t : Nat} (ht : t < 19) {e v : Int} : (hO S Tw M P).set (tR t 9) (.inl (0, vec 5 (fun i => if i = e then v else Tw t 9 i))) = hO S (wT Tw t 9 e v) M P := by
  rw [← wT_r]
  refine hO_set ht (by omega) _ ?_
  obtain ⟨h1, h2, h3, h4⟩ := tR_facts (o := 9) ht (by omega)
  unfold skAt
  rw [if_neg h3, h4]
  show _ = Sum.inl (0, slotV _ (List.replicate 5 none))
  rw [slotV_vec]
theorem qTa9 {t : Nat} (ht : t < 19) {g : Int → Int} : (hO S Tw M P).set (tR t 9) (.inl (0, vec 5 g)) = hO S (rT Tw t 9 g) M P := by
  refine hO_set ht (by omega) _ ?_
  obtain ⟨h1, h2, h3, h4⟩ := tR_facts (o := 9) ht (by omega)
  unfold skAt
  rw [if_neg h3, h4]
  show _ = Sum.inl (0, slotV _ (List.replicate 5 none))
  rw [slotV_vec]
theorem hTa10 {t : Nat} (ht : t < 19) : (hO S Tw M P)[tR t 10]? = some (.inl (0, vec 5 (Tw t 10))) := by
  rw [hO_T (o := 10) ht (by omega)]
  show some (Sum.inl (0, slotV (Tw t 10) (List.replicate 5 none))) = _
  rw [slotV_vec]
theorem pTa10 {t : Nat} (ht : t < 19) {e v : Int} : (hO S Tw M P).set (tR t 10) (.inl (0, vec 5 (fun i => if i = e then v else Tw t 10 i))) = hO S (wT Tw t 10 e v) M P := by
  rw [← wT_r]
  refine hO_set ht (by omega) _ ?_
  obtain ⟨h1, h2, h3, h4⟩ := tR_facts (o := 10) ht (by omega)
  unfold skAt
  rw [if_neg h3, h4]
  show _ = Sum.inl (0, slotV _ (List.replicate 5 none))
  rw [slotV_vec]
theorem qTa10 {t : Nat} (ht : t < 19) {g : Int → Int} : (hO S Tw M P).set (tR t 10) (.inl (0, vec 5 g)) = hO S (rT Tw t 10 g) M P := by
  refine hO_set ht (by omega) _ ?_
  obtain ⟨h1, h2, h3, h4⟩ := tR_facts (o := 10) ht (by omega)
  unfold skAt
  rw [if_neg h3, h4]
  show _ = Sum.inl (0, slotV _ (List.replicate 5 none))
  rw [slotV_vec]
theorem pT1_5 {t : Nat} (ht : t < 19) {v : Int} : (hO S Tw M P).set (tR t 1) (.inr (2, [.ref (tR t 2), .ref (tR t 3), .ref (tR t 4), .ref (tR t 5), .ref (tR t 6), .int (iI v), .int (iI (Tw t 1 6))])) = hO S (wT Tw t 1 5 v) M P := by
  rw [← wT_r]
  refine hO_set ht (by omega) _ ?_
  obtain ⟨h1, h2, h3, h4⟩ := tR_facts (o := 1) ht (by omega)
  unfold skAt
  rw [if_neg h3, h4]
  rfl
theorem pT1_6 {t : Nat} (ht : t < 19) {v : Int} : (hO S Tw M P).set (tR t 1) (.inr (2, [.ref (tR t 2), .ref (tR t 3), .ref (tR t 4), .ref (tR t 5), .ref (tR t 6), .int (iI (Tw t 1 5)), .int (iI v)])) = hO S (wT Tw t 1 6 v) M P := by
  rw [← wT_r]
  refine hO_set ht (by omega) _ ?_
  obtain ⟨h1, h2, h3, h4⟩ := tR_facts (o := 1) ht (by omega)
  unfold skAt
  rw [if_neg h3, h4]
  rfl
theorem ty0 : tyOf 0 = none := by decide +kernel
theorem sk0 : skAt P 0 = (.inr 11, [some (1), some (3), some (13), some (tR 0 0), some (30), some (164), some (187), some (199), some (205), some (206), some (243)]) := by
  unfold skAt
  rw [if_neg (by decide)]
  exact (by decide +kernel : skB.getD 0 (.inl 0, []) = (.inr 11, [some (1), some (3), some (13), some (tR 0 0), some (30), some (164), some (187), some (199), some (205), some (206), some (243)]))
theorem h0 : (hO S Tw M P)[0]? = some (.inr (11, [.ref 1, .ref 3, .ref 13, .ref (tR 0 0), .ref 30, .ref 164, .ref 187, .ref 199, .ref 205, .ref 206, .ref 243])) := by
  rw [hO_S (c := 0) (by omega) ty0, sk0]
  rfl
theorem ty1 : tyOf 1 = none := by decide +kernel
theorem sk1 : skAt P 1 = (.inr 7, [some (2), none]) := by
  unfold skAt
  rw [if_neg (by decide)]
  exact (by decide +kernel : skB.getD 1 (.inl 0, []) = (.inr 7, [some (2), none]))
theorem h1 : (hO S Tw M P)[1]? = some (.inr (7, [.ref 2, .int (iI (S 1 1))])) := by
  rw [hO_S (c := 1) (by omega) ty1, sk1]
  rfl
theorem p1_1 {v : Int} : (hO S Tw M P).set 1 (.inr (7, [.ref 2, .int (iI v)])) = hO (wS S 1 1 v) Tw M P := by
  rw [← wS_r]
  refine hO_setS (c := 1) (by omega) ty1 _ ?_
  rw [sk1]
  rfl
theorem ty2 : tyOf 2 = none := by decide +kernel
theorem sk2 : skAt P 2 = (.inl 0, List.replicate 64 none) := by
  unfold skAt
  rw [if_neg (by decide)]
  exact (by decide +kernel : skB.getD 2 (.inl 0, []) = (.inl 0, List.replicate 64 none))
theorem h2 : (hO S Tw M P)[2]? = some (.inl (0, vec 64 (S 2))) := by
  rw [hO_S (c := 2) (by omega) ty2, sk2]
  exact congrArg some (congrArg Sum.inl (congrArg (Prod.mk 0) (slotV_vec _ _)))
theorem p2 {e v : Int} : (hO S Tw M P).set 2 (.inl (0, vec 64 (fun i => if i = e then v else S 2 i))) = hO (wS S 2 e v) Tw M P := by
  rw [← wS_r]
  refine hO_setS (c := 2) (by omega) ty2 _ ?_
  rw [sk2]
  exact congrArg Sum.inl (congrArg (Prod.mk 0) (slotV_vec _ _).symm)
theorem q2 {g : Int → Int} : (hO S Tw M P).set 2 (.inl (0, vec 64 g)) = hO (rS S 2 g) Tw M P := by
  refine hO_setS (c := 2) (by omega) ty2 _ ?_
  rw [sk2]
  exact congrArg Sum.inl (congrArg (Prod.mk 0) (slotV_vec _ _).symm)
theorem ty3 : tyOf 3 = none := by decide +kernel
theorem sk3 : skAt P 3 = (.inr 5, [some (4), some (5), some (6), none, none, some (12), none]) := by
  unfold skAt
  rw [if_neg (by decide)]
  exact (by decide +kernel : skB.getD 3 (.inl 0, []) = (.inr 5, [some (4), some (5), some (6), none, none, some (12), none]))
theorem h3 : (hO S Tw M P)[3]? = some (.inr (5, [.ref 4, .ref 5, .ref 6, .int (iI (S 3 3)), .int (iI (S 3 4)), .ref 12, .int (iI (S 3 6))])) := by
  rw [hO_S (c := 3) (by omega) ty3, sk3]
  rfl
theorem p3_3 {v : Int} : (hO S Tw M P).set 3 (.inr (5, [.ref 4, .ref 5, .ref 6, .int (iI v), .int (iI (S 3 4)), .ref 12, .int (iI (S 3 6))])) = hO (wS S 3 3 v) Tw M P := by
  rw [← wS_r]
  refine hO_setS (c := 3) (by omega) ty3 _ ?_
  rw [sk3]
  rfl
theorem p3_4 {v : Int} : (hO S Tw M P).set 3 (.inr (5, [.ref 4, .ref 5, .ref 6, .int (iI (S 3 3)), .int (iI v), .ref 12, .int (iI (S 3 6))])) = hO (wS S 3 4 v) Tw M P := by
  rw [← wS_r]
  refine hO_setS (c := 3) (by omega) ty3 _ ?_
  rw [sk3]
  rfl
theorem p3_6 {v : Int} : (hO S Tw M P).set 3 (.inr (5, [.ref 4, .ref 5, .ref 6, .int (iI (S 3 3)), .int (iI (S 3 4)), .ref 12, .int (iI v)])) = hO (wS S 3 6 v) Tw M P := by
  rw [← wS_r]
  refine hO_setS (c := 3) (by omega) ty3 _ ?_
  rw [sk3]
  rfl
theorem ty4 : tyOf 4 = none := by decide +kernel
theorem sk4 : skAt P 4 = (.inl 0, List.replicate 5 none) := by
  unfold skAt
  rw [if_neg (by decide)]
  exact (by decide +kernel : skB.getD 4 (.inl 0, []) = (.inl 0, List.replicate 5 none))
theorem h4 : (hO S Tw M P)[4]? = some (.inl (0, vec 5 (S 4))) := by
  rw [hO_S (c := 4) (by omega) ty4, sk4]
  exact congrArg some (congrArg Sum.inl (congrArg (Prod.mk 0) (slotV_vec _ _)))
theorem p4 {e v : Int} : (hO S Tw M P).set 4 (.inl (0, vec 5 (fun i => if i = e then v else S 4 i))) = hO (wS S 4 e v) Tw M P := by
  rw [← wS_r]
  refine hO_setS (c := 4) (by omega) ty4 _ ?_
  rw [sk4]
  exact congrArg Sum.inl (congrArg (Prod.mk 0) (slotV_vec _ _).symm)
theorem q4 {g : Int → Int} : (hO S Tw M P).set 4 (.inl (0, vec 5 g)) = hO (rS S 4 g) Tw M P := by
  refine hO_setS (c := 4) (by omega) ty4 _ ?_
  rw [sk4]
  exact congrArg Sum.inl (congrArg (Prod.mk 0) (slotV_vec _ _).symm)
theorem ty5 : tyOf 5 = none := by decide +kernel
theorem sk5 : skAt P 5 = (.inl 0, List.replicate 5 none) := by
  unfold skAt
  rw [if_neg (by decide)]
  exact (by decide +kernel : skB.getD 5 (.inl 0, []) = (.inl 0, List.replicate 5 none))
theorem h5 : (hO S Tw M P)[5]? = some (.inl (0, vec 5 (S 5))) := by
  rw [hO_S (c := 5) (by omega) ty5, sk5]
  exact congrArg some (congrArg Sum.inl (congrArg (Prod.mk 0) (slotV_vec _ _)))
theorem p5 {e v : Int} : (hO S Tw M P).set 5 (.inl (0, vec 5 (fun i => if i = e then v else S 5 i))) = hO (wS S 5 e v) Tw M P := by
  rw [← wS_r]
  refine hO_setS (c := 5) (by omega) ty5 _ ?_
  rw [sk5]
  exact congrArg Sum.inl (congrArg (Prod.mk 0) (slotV_vec _ _).symm)
theorem q5 {g : Int → Int} : (hO S Tw M P).set 5 (.inl (0, vec 5 g)) = hO (rS S 5 g) Tw M P := by
  refine hO_setS (c := 5) (by omega) ty5 _ ?_
  rw [sk5]
  exact congrArg Sum.inl (congrArg (Prod.mk 0) (slotV_vec _ _).symm)
theorem ty6 : tyOf 6 = none := by decide +kernel
theorem sk6 : skAt P 6 = (.inl 3, [some (7), some (8), some (9), some (10), some (11)]) := by
  unfold skAt
  rw [if_neg (by decide)]
  exact (by decide +kernel : skB.getD 6 (.inl 0, []) = (.inl 3, [some (7), some (8), some (9), some (10), some (11)]))
theorem h6 : (hO S Tw M P)[6]? = some (.inl (3, [.ref 7, .ref 8, .ref 9, .ref 10, .ref 11])) := by
  rw [hO_S (c := 6) (by omega) ty6, sk6]
  rfl
theorem ty7 : tyOf 7 = none := by decide +kernel
theorem sk7 : skAt P 7 = (.inl 0, List.replicate 6 none) := by
  unfold skAt
  rw [if_neg (by decide)]
  exact (by decide +kernel : skB.getD 7 (.inl 0, []) = (.inl 0, List.replicate 6 none))
theorem h7 : (hO S Tw M P)[7]? = some (.inl (0, vec 6 (S 7))) := by
  rw [hO_S (c := 7) (by omega) ty7, sk7]
  exact congrArg some (congrArg Sum.inl (congrArg (Prod.mk 0) (slotV_vec _ _)))
theorem p7 {e v : Int} : (hO S Tw M P).set 7 (.inl (0, vec 6 (fun i => if i = e then v else S 7 i))) = hO (wS S 7 e v) Tw M P := by
  rw [← wS_r]
  refine hO_setS (c := 7) (by omega) ty7 _ ?_
  rw [sk7]
  exact congrArg Sum.inl (congrArg (Prod.mk 0) (slotV_vec _ _).symm)
theorem q7 {g : Int → Int} : (hO S Tw M P).set 7 (.inl (0, vec 6 g)) = hO (rS S 7 g) Tw M P := by
  refine hO_setS (c := 7) (by omega) ty7 _ ?_
  rw [sk7]
  exact congrArg Sum.inl (congrArg (Prod.mk 0) (slotV_vec _ _).symm)
theorem ty8 : tyOf 8 = none := by decide +kernel
theorem sk8 : skAt P 8 = (.inl 0, List.replicate 6 none) := by
  unfold skAt
  rw [if_neg (by decide)]
  exact (by decide +kernel : skB.getD 8 (.inl 0, []) = (.inl 0, List.replicate 6 none))
theorem h8 : (hO S Tw M P)[8]? = some (.inl (0, vec 6 (S 8))) := by
  rw [hO_S (c := 8) (by omega) ty8, sk8]
  exact congrArg some (congrArg Sum.inl (congrArg (Prod.mk 0) (slotV_vec _ _)))
theorem p8 {e v : Int} : (hO S Tw M P).set 8 (.inl (0, vec 6 (fun i => if i = e then v else S 8 i))) = hO (wS S 8 e v) Tw M P := by
  rw [← wS_r]
  refine hO_setS (c := 8) (by omega) ty8 _ ?_
  rw [sk8]
  exact congrArg Sum.inl (congrArg (Prod.mk 0) (slotV_vec _ _).symm)
theorem q8 {g : Int → Int} : (hO S Tw M P).set 8 (.inl (0, vec 6 g)) = hO (rS S 8 g) Tw M P := by
  refine hO_setS (c := 8) (by omega) ty8 _ ?_
  rw [sk8]
  exact congrArg Sum.inl (congrArg (Prod.mk 0) (slotV_vec _ _).symm)
theorem ty9 : tyOf 9 = none := by decide +kernel
theorem sk9 : skAt P 9 = (.inl 0, List.replicate 6 none) := by
  unfold skAt
  rw [if_neg (by decide)]
  exact (by decide +kernel : skB.getD 9 (.inl 0, []) = (.inl 0, List.replicate 6 none))
theorem h9 : (hO S Tw M P)[9]? = some (.inl (0, vec 6 (S 9))) := by
  rw [hO_S (c := 9) (by omega) ty9, sk9]
  exact congrArg some (congrArg Sum.inl (congrArg (Prod.mk 0) (slotV_vec _ _)))
theorem p9 {e v : Int} : (hO S Tw M P).set 9 (.inl (0, vec 6 (fun i => if i = e then v else S 9 i))) = hO (wS S 9 e v) Tw M P := by
  rw [← wS_r]
  refine hO_setS (c := 9) (by omega) ty9 _ ?_
  rw [sk9]
  exact congrArg Sum.inl (congrArg (Prod.mk 0) (slotV_vec _ _).symm)
theorem q9 {g : Int → Int} : (hO S Tw M P).set 9 (.inl (0, vec 6 g)) = hO (rS S 9 g) Tw M P := by
  refine hO_setS (c := 9) (by omega) ty9 _ ?_
  rw [sk9]
  exact congrArg Sum.inl (congrArg (Prod.mk 0) (slotV_vec _ _).symm)
theorem ty10 : tyOf 10 = none := by decide +kernel
theorem sk10 : skAt P 10 = (.inl 0, List.replicate 6 none) := by
  unfold skAt
  rw [if_neg (by decide)]
  exact (by decide +kernel : skB.getD 10 (.inl 0, []) = (.inl 0, List.replicate 6 none))
theorem h10 : (hO S Tw M P)[10]? = some (.inl (0, vec 6 (S 10))) := by
  rw [hO_S (c := 10) (by omega) ty10, sk10]
  exact congrArg some (congrArg Sum.inl (congrArg (Prod.mk 0) (slotV_vec _ _)))
theorem p10 {e v : Int} : (hO S Tw M P).set 10 (.inl (0, vec 6 (fun i => if i = e then v else S 10 i))) = hO (wS S 10 e v) Tw M P := by
  rw [← wS_r]
  refine hO_setS (c := 10) (by omega) ty10 _ ?_
  rw [sk10]
  exact congrArg Sum.inl (congrArg (Prod.mk 0) (slotV_vec _ _).symm)
theorem q10 {g : Int → Int} : (hO S Tw M P).set 10 (.inl (0, vec 6 g)) = hO (rS S 10 g) Tw M P := by
  refine hO_setS (c := 10) (by omega) ty10 _ ?_
  rw [sk10]
  exact congrArg Sum.inl (congrArg (Prod.mk 0) (slotV_vec _ _).symm)
theorem ty11 : tyOf 11 = none := by decide +kernel
theorem sk11 : skAt P 11 = (.inl 0, List.replicate 6 none) := by
  unfold skAt
  rw [if_neg (by decide)]
  exact (by decide +kernel : skB.getD 11 (.inl 0, []) = (.inl 0, List.replicate 6 none))
theorem h11 : (hO S Tw M P)[11]? = some (.inl (0, vec 6 (S 11))) := by
  rw [hO_S (c := 11) (by omega) ty11, sk11]
  exact congrArg some (congrArg Sum.inl (congrArg (Prod.mk 0) (slotV_vec _ _)))
theorem p11 {e v : Int} : (hO S Tw M P).set 11 (.inl (0, vec 6 (fun i => if i = e then v else S 11 i))) = hO (wS S 11 e v) Tw M P := by
  rw [← wS_r]
  refine hO_setS (c := 11) (by omega) ty11 _ ?_
  rw [sk11]
  exact congrArg Sum.inl (congrArg (Prod.mk 0) (slotV_vec _ _).symm)
theorem q11 {g : Int → Int} : (hO S Tw M P).set 11 (.inl (0, vec 6 g)) = hO (rS S 11 g) Tw M P := by
  refine hO_setS (c := 11) (by omega) ty11 _ ?_
  rw [sk11]
  exact congrArg Sum.inl (congrArg (Prod.mk 0) (slotV_vec _ _).symm)
theorem ty12 : tyOf 12 = none := by decide +kernel
theorem sk12 : skAt P 12 = (.inl 1, List.replicate 5 none) := by
  unfold skAt
  rw [if_neg (by decide)]
  exact (by decide +kernel : skB.getD 12 (.inl 0, []) = (.inl 1, List.replicate 5 none))
theorem h12 : (hO S Tw M P)[12]? = some (.inl (1, vec 5 (S 12))) := by
  rw [hO_S (c := 12) (by omega) ty12, sk12]
  exact congrArg some (congrArg Sum.inl (congrArg (Prod.mk 1) (slotV_vec _ _)))
theorem p12 {e v : Int} : (hO S Tw M P).set 12 (.inl (1, vec 5 (fun i => if i = e then v else S 12 i))) = hO (wS S 12 e v) Tw M P := by
  rw [← wS_r]
  refine hO_setS (c := 12) (by omega) ty12 _ ?_
  rw [sk12]
  exact congrArg Sum.inl (congrArg (Prod.mk 1) (slotV_vec _ _).symm)
theorem q12 {g : Int → Int} : (hO S Tw M P).set 12 (.inl (1, vec 5 g)) = hO (rS S 12 g) Tw M P := by
  refine hO_setS (c := 12) (by omega) ty12 _ ?_
  rw [sk12]
  exact congrArg Sum.inl (congrArg (Prod.mk 1) (slotV_vec _ _).symm)
theorem ty13 : tyOf 13 = none := by decide +kernel
theorem sk13 : skAt P 13 = (.inr 8, [some (14), some (15), some (16), some (17), some (18), none]) := by
  unfold skAt
  rw [if_neg (by decide)]
  exact (by decide +kernel : skB.getD 13 (.inl 0, []) = (.inr 8, [some (14), some (15), some (16), some (17), some (18), none]))
theorem h13 : (hO S Tw M P)[13]? = some (.inr (8, [.ref 14, .ref 15, .ref 16, .ref 17, .ref 18, .int (iI (S 13 5))])) := by
  rw [hO_S (c := 13) (by omega) ty13, sk13]
  rfl
theorem p13_5 {v : Int} : (hO S Tw M P).set 13 (.inr (8, [.ref 14, .ref 15, .ref 16, .ref 17, .ref 18, .int (iI v)])) = hO (wS S 13 5 v) Tw M P := by
  rw [← wS_r]
  refine hO_setS (c := 13) (by omega) ty13 _ ?_
  rw [sk13]
  rfl
theorem ty14 : tyOf 14 = none := by decide +kernel
theorem sk14 : skAt P 14 = (.inl 0, List.replicate 5 none) := by
  unfold skAt
  rw [if_neg (by decide)]
  exact (by decide +kernel : skB.getD 14 (.inl 0, []) = (.inl 0, List.replicate 5 none))
theorem h14 : (hO S Tw M P)[14]? = some (.inl (0, vec 5 (S 14))) := by
  rw [hO_S (c := 14) (by omega) ty14, sk14]
  exact congrArg some (congrArg Sum.inl (congrArg (Prod.mk 0) (slotV_vec _ _)))
theorem p14 {e v : Int} : (hO S Tw M P).set 14 (.inl (0, vec 5 (fun i => if i = e then v else S 14 i))) = hO (wS S 14 e v) Tw M P := by
  rw [← wS_r]
  refine hO_setS (c := 14) (by omega) ty14 _ ?_
  rw [sk14]
  exact congrArg Sum.inl (congrArg (Prod.mk 0) (slotV_vec _ _).symm)
theorem q14 {g : Int → Int} : (hO S Tw M P).set 14 (.inl (0, vec 5 g)) = hO (rS S 14 g) Tw M P := by
  refine hO_setS (c := 14) (by omega) ty14 _ ?_
  rw [sk14]
  exact congrArg Sum.inl (congrArg (Prod.mk 0) (slotV_vec _ _).symm)
theorem ty15 : tyOf 15 = none := by decide +kernel
theorem sk15 : skAt P 15 = (.inl 0, List.replicate 5 none) := by
  unfold skAt
  rw [if_neg (by decide)]
  exact (by decide +kernel : skB.getD 15 (.inl 0, []) = (.inl 0, List.replicate 5 none))
theorem h15 : (hO S Tw M P)[15]? = some (.inl (0, vec 5 (S 15))) := by
  rw [hO_S (c := 15) (by omega) ty15, sk15]
  exact congrArg some (congrArg Sum.inl (congrArg (Prod.mk 0) (slotV_vec _ _)))
theorem p15 {e v : Int} : (hO S Tw M P).set 15 (.inl (0, vec 5 (fun i => if i = e then v else S 15 i))) = hO (wS S 15 e v) Tw M P := by
  rw [← wS_r]
  refine hO_setS (c := 15) (by omega) ty15 _ ?_
  rw [sk15]
  exact congrArg Sum.inl (congrArg (Prod.mk 0) (slotV_vec _ _).symm)
theorem q15 {g : Int → Int} : (hO S Tw M P).set 15 (.inl (0, vec 5 g)) = hO (rS S 15 g) Tw M P := by
  refine hO_setS (c := 15) (by omega) ty15 _ ?_
  rw [sk15]
  exact congrArg Sum.inl (congrArg (Prod.mk 0) (slotV_vec _ _).symm)
theorem ty16 : tyOf 16 = none := by decide +kernel
theorem sk16 : skAt P 16 = (.inl 0, List.replicate 5 none) := by
  unfold skAt
  rw [if_neg (by decide)]
  exact (by decide +kernel : skB.getD 16 (.inl 0, []) = (.inl 0, List.replicate 5 none))
theorem h16 : (hO S Tw M P)[16]? = some (.inl (0, vec 5 (S 16))) := by
  rw [hO_S (c := 16) (by omega) ty16, sk16]
  exact congrArg some (congrArg Sum.inl (congrArg (Prod.mk 0) (slotV_vec _ _)))
theorem p16 {e v : Int} : (hO S Tw M P).set 16 (.inl (0, vec 5 (fun i => if i = e then v else S 16 i))) = hO (wS S 16 e v) Tw M P := by
  rw [← wS_r]
  refine hO_setS (c := 16) (by omega) ty16 _ ?_
  rw [sk16]
  exact congrArg Sum.inl (congrArg (Prod.mk 0) (slotV_vec _ _).symm)
theorem q16 {g : Int → Int} : (hO S Tw M P).set 16 (.inl (0, vec 5 g)) = hO (rS S 16 g) Tw M P := by
  refine hO_setS (c := 16) (by omega) ty16 _ ?_
  rw [sk16]
  exact congrArg Sum.inl (congrArg (Prod.mk 0) (slotV_vec _ _).symm)
theorem ty17 : tyOf 17 = none := by decide +kernel
theorem sk17 : skAt P 17 = (.inl 0, List.replicate 5 none) := by
  unfold skAt
  rw [if_neg (by decide)]
  exact (by decide +kernel : skB.getD 17 (.inl 0, []) = (.inl 0, List.replicate 5 none))
theorem h17 : (hO S Tw M P)[17]? = some (.inl (0, vec 5 (S 17))) := by
  rw [hO_S (c := 17) (by omega) ty17, sk17]
  exact congrArg some (congrArg Sum.inl (congrArg (Prod.mk 0) (slotV_vec _ _)))
theorem p17 {e v : Int} : (hO S Tw M P).set 17 (.inl (0, vec 5 (fun i => if i = e then v else S 17 i))) = hO (wS S 17 e v) Tw M P := by
  rw [← wS_r]
  refine hO_setS (c := 17) (by omega) ty17 _ ?_
  rw [sk17]
  exact congrArg Sum.inl (congrArg (Prod.mk 0) (slotV_vec _ _).symm)
theorem q17 {g : Int → Int} : (hO S Tw M P).set 17 (.inl (0, vec 5 g)) = hO (rS S 17 g) Tw M P := by
  refine hO_setS (c := 17) (by omega) ty17 _ ?_
  rw [sk17]
  exact congrArg Sum.inl (congrArg (Prod.mk 0) (slotV_vec _ _).symm)
theorem ty18 : tyOf 18 = none := by decide +kernel
theorem sk18 : skAt P 18 = (.inl 0, List.replicate 5 none) := by
  unfold skAt
  rw [if_neg (by decide)]
  exact (by decide +kernel : skB.getD 18 (.inl 0, []) = (.inl 0, List.replicate 5 none))
theorem h18 : (hO S Tw M P)[18]? = some (.inl (0, vec 5 (S 18))) := by
  rw [hO_S (c := 18) (by omega) ty18, sk18]
  exact congrArg some (congrArg Sum.inl (congrArg (Prod.mk 0) (slotV_vec _ _)))
theorem p18 {e v : Int} : (hO S Tw M P).set 18 (.inl (0, vec 5 (fun i => if i = e then v else S 18 i))) = hO (wS S 18 e v) Tw M P := by
  rw [← wS_r]
  refine hO_setS (c := 18) (by omega) ty18 _ ?_
  rw [sk18]
  exact congrArg Sum.inl (congrArg (Prod.mk 0) (slotV_vec _ _).symm)
theorem q18 {g : Int → Int} : (hO S Tw M P).set 18 (.inl (0, vec 5 g)) = hO (rS S 18 g) Tw M P := by
  refine hO_setS (c := 18) (by omega) ty18 _ ?_
  rw [sk18]
  exact congrArg Sum.inl (congrArg (Prod.mk 0) (slotV_vec _ _).symm)
theorem ty30 : tyOf 30 = none := by decide +kernel
theorem sk30 : skAt P 30 = (.inr 6, [some (31), none]) := by
  unfold skAt
  rw [if_neg (by decide)]
  exact (by decide +kernel : skB.getD 30 (.inl 0, []) = (.inr 6, [some (31), none]))
theorem h30 : (hO S Tw M P)[30]? = some (.inr (6, [.ref 31, .int (iI (S 30 1))])) := by
  rw [hO_S (c := 30) (by omega) ty30, sk30]
  rfl
theorem p30_1 {v : Int} : (hO S Tw M P).set 30 (.inr (6, [.ref 31, .int (iI v)])) = hO (wS S 30 1 v) Tw M P := by
  rw [← wS_r]
  refine hO_setS (c := 30) (by omega) ty30 _ ?_
  rw [sk30]
  rfl
theorem ty31 : tyOf 31 = none := by decide +kernel
theorem h31 : (hO S Tw M P)[31]? = some (.inl (2, (List.range 12).map (fun j => .ref (tR (P j) 0)))) := by
  rw [hO_S (c := 31) (by omega) ty31]
  unfold skAt
  rw [if_pos rfl]
  refine congrArg some (congrArg Sum.inl (congrArg (Prod.mk 2) ?_))
  unfold slotV
  apply List.ext_getElem?
  intro i
  rw [slotVf_get, List.getElem?_map, List.getElem?_map]
  cases (List.range 12)[i]? <;> rfl
theorem ty164 : tyOf 164 = none := by decide +kernel
theorem sk164 : skAt P 164 = (.inl 2, [some (tR 13 0), some (tR 14 0)]) := by
  unfold skAt
  rw [if_neg (by decide)]
  exact (by decide +kernel : skB.getD 164 (.inl 0, []) = (.inl 2, [some (tR 13 0), some (tR 14 0)]))
theorem h164 : (hO S Tw M P)[164]? = some (.inl (2, [.ref (tR 13 0), .ref (tR 14 0)])) := by
  rw [hO_S (c := 164) (by omega) ty164, sk164]
  rfl
theorem ty187 : tyOf 187 = none := by decide +kernel
theorem sk187 : skAt P 187 = (.inl 1, List.replicate 2 none) := by
  unfold skAt
  rw [if_neg (by decide)]
  exact (by decide +kernel : skB.getD 187 (.inl 0, []) = (.inl 1, List.replicate 2 none))
theorem h187 : (hO S Tw M P)[187]? = some (.inl (1, vec 2 (S 187))) := by
  rw [hO_S (c := 187) (by omega) ty187, sk187]
  exact congrArg some (congrArg Sum.inl (congrArg (Prod.mk 1) (slotV_vec _ _)))
theorem p187 {e v : Int} : (hO S Tw M P).set 187 (.inl (1, vec 2 (fun i => if i = e then v else S 187 i))) = hO (wS S 187 e v) Tw M P := by
  rw [← wS_r]
  refine hO_setS (c := 187) (by omega) ty187 _ ?_
  rw [sk187]
  exact congrArg Sum.inl (congrArg (Prod.mk 1) (slotV_vec _ _).symm)
theorem q187 {g : Int → Int} : (hO S Tw M P).set 187 (.inl (1, vec 2 g)) = hO (rS S 187 g) Tw M P := by
  refine hO_setS (c := 187) (by omega) ty187 _ ?_
  rw [sk187]
  exact congrArg Sum.inl (congrArg (Prod.mk 1) (slotV_vec _ _).symm)
theorem ty199 : tyOf 199 = none := by decide +kernel
theorem sk199 : skAt P 199 = (.inr 0, [some (200), some (201), some (202), some (203), some (204), some (tR 0 1), some (tR 15 1), none]) := by
  unfold skAt
  rw [if_neg (by decide)]
  exact (by decide +kernel : skB.getD 199 (.inl 0, []) = (.inr 0, [some (200), some (201), some (202), some (203), some (204), some (tR 0 1), some (tR 15 1), none]))
theorem h199 : (hO S Tw M P)[199]? = some (.inr (0, [.ref 200, .ref 201, .ref 202, .ref 203, .ref 204, .ref (tR 0 1), .ref (tR 15 1), .int (iI (S 199 7))])) := by
  rw [hO_S (c := 199) (by omega) ty199, sk199]
  rfl
theorem p199_7 {v : Int} : (hO S Tw M P).set 199 (.inr (0, [.ref 200, .ref 201, .ref 202, .ref 203, .ref 204, .ref (tR 0 1), .ref (tR 15 1), .int (iI v)])) = hO (wS S 199 7 v) Tw M P := by
  rw [← wS_r]
  refine hO_setS (c := 199) (by omega) ty199 _ ?_
  rw [sk199]
  rfl
theorem ty200 : tyOf 200 = none := by decide +kernel
theorem sk200 : skAt P 200 = (.inl 0, List.replicate 8 none) := by
  unfold skAt
  rw [if_neg (by decide)]
  exact (by decide +kernel : skB.getD 200 (.inl 0, []) = (.inl 0, List.replicate 8 none))
theorem h200 : (hO S Tw M P)[200]? = some (.inl (0, vec 8 (S 200))) := by
  rw [hO_S (c := 200) (by omega) ty200, sk200]
  exact congrArg some (congrArg Sum.inl (congrArg (Prod.mk 0) (slotV_vec _ _)))
theorem p200 {e v : Int} : (hO S Tw M P).set 200 (.inl (0, vec 8 (fun i => if i = e then v else S 200 i))) = hO (wS S 200 e v) Tw M P := by
  rw [← wS_r]
  refine hO_setS (c := 200) (by omega) ty200 _ ?_
  rw [sk200]
  exact congrArg Sum.inl (congrArg (Prod.mk 0) (slotV_vec _ _).symm)
theorem q200 {g : Int → Int} : (hO S Tw M P).set 200 (.inl (0, vec 8 g)) = hO (rS S 200 g) Tw M P := by
  refine hO_setS (c := 200) (by omega) ty200 _ ?_
  rw [sk200]
  exact congrArg Sum.inl (congrArg (Prod.mk 0) (slotV_vec _ _).symm)
theorem ty201 : tyOf 201 = none := by decide +kernel
theorem sk201 : skAt P 201 = (.inl 0, List.replicate 8 none) := by
  unfold skAt
  rw [if_neg (by decide)]
  exact (by decide +kernel : skB.getD 201 (.inl 0, []) = (.inl 0, List.replicate 8 none))
theorem h201 : (hO S Tw M P)[201]? = some (.inl (0, vec 8 (S 201))) := by
  rw [hO_S (c := 201) (by omega) ty201, sk201]
  exact congrArg some (congrArg Sum.inl (congrArg (Prod.mk 0) (slotV_vec _ _)))
theorem p201 {e v : Int} : (hO S Tw M P).set 201 (.inl (0, vec 8 (fun i => if i = e then v else S 201 i))) = hO (wS S 201 e v) Tw M P := by
  rw [← wS_r]
  refine hO_setS (c := 201) (by omega) ty201 _ ?_
  rw [sk201]
  exact congrArg Sum.inl (congrArg (Prod.mk 0) (slotV_vec _ _).symm)
theorem q201 {g : Int → Int} : (hO S Tw M P).set 201 (.inl (0, vec 8 g)) = hO (rS S 201 g) Tw M P := by
  refine hO_setS (c := 201) (by omega) ty201 _ ?_
  rw [sk201]
  exact congrArg Sum.inl (congrArg (Prod.mk 0) (slotV_vec _ _).symm)
theorem ty202 : tyOf 202 = none := by decide +kernel
theorem sk202 : skAt P 202 = (.inl 0, List.replicate 8 none) := by
  unfold skAt
  rw [if_neg (by decide)]
  exact (by decide +kernel : skB.getD 202 (.inl 0, []) = (.inl 0, List.replicate 8 none))
theorem h202 : (hO S Tw M P)[202]? = some (.inl (0, vec 8 (S 202))) := by
  rw [hO_S (c := 202) (by omega) ty202, sk202]
  exact congrArg some (congrArg Sum.inl (congrArg (Prod.mk 0) (slotV_vec _ _)))
theorem p202 {e v : Int} : (hO S Tw M P).set 202 (.inl (0, vec 8 (fun i => if i = e then v else S 202 i))) = hO (wS S 202 e v) Tw M P := by
  rw [← wS_r]
  refine hO_setS (c := 202) (by omega) ty202 _ ?_
  rw [sk202]
  exact congrArg Sum.inl (congrArg (Prod.mk 0) (slotV_vec _ _).symm)
theorem q202 {g : Int → Int} : (hO S Tw M P).set 202 (.inl (0, vec 8 g)) = hO (rS S 202 g) Tw M P := by
  refine hO_setS (c := 202) (by omega) ty202 _ ?_
  rw [sk202]
  exact congrArg Sum.inl (congrArg (Prod.mk 0) (slotV_vec _ _).symm)
theorem ty203 : tyOf 203 = none := by decide +kernel
theorem sk203 : skAt P 203 = (.inl 0, List.replicate 8 none) := by
  unfold skAt
  rw [if_neg (by decide)]
  exact (by decide +kernel : skB.getD 203 (.inl 0, []) = (.inl 0, List.replicate 8 none))
theorem h203 : (hO S Tw M P)[203]? = some (.inl (0, vec 8 (S 203))) := by
  rw [hO_S (c := 203) (by omega) ty203, sk203]
  exact congrArg some (congrArg Sum.inl (congrArg (Prod.mk 0) (slotV_vec _ _)))
theorem p203 {e v : Int} : (hO S Tw M P).set 203 (.inl (0, vec 8 (fun i => if i = e then v else S 203 i))) = hO (wS S 203 e v) Tw M P := by
  rw [← wS_r]
  refine hO_setS (c := 203) (by omega) ty203 _ ?_
  rw [sk203]
  exact congrArg Sum.inl (congrArg (Prod.mk 0) (slotV_vec _ _).symm)
theorem q203 {g : Int → Int} : (hO S Tw M P).set 203 (.inl (0, vec 8 g)) = hO (rS S 203 g) Tw M P := by
  refine hO_setS (c := 203) (by omega) ty203 _ ?_
  rw [sk203]
  exact congrArg Sum.inl (congrArg (Prod.mk 0) (slotV_vec _ _).symm)
theorem ty204 : tyOf 204 = none := by decide +kernel
theorem sk204 : skAt P 204 = (.inl 1, List.replicate 8 none) := by
  unfold skAt
  rw [if_neg (by decide)]
  exact (by decide +kernel : skB.getD 204 (.inl 0, []) = (.inl 1, List.replicate 8 none))
theorem h204 : (hO S Tw M P)[204]? = some (.inl (1, vec 8 (S 204))) := by
  rw [hO_S (c := 204) (by omega) ty204, sk204]
  exact congrArg some (congrArg Sum.inl (congrArg (Prod.mk 1) (slotV_vec _ _)))
theorem p204 {e v : Int} : (hO S Tw M P).set 204 (.inl (1, vec 8 (fun i => if i = e then v else S 204 i))) = hO (wS S 204 e v) Tw M P := by
  rw [← wS_r]
  refine hO_setS (c := 204) (by omega) ty204 _ ?_
  rw [sk204]
  exact congrArg Sum.inl (congrArg (Prod.mk 1) (slotV_vec _ _).symm)
theorem q204 {g : Int → Int} : (hO S Tw M P).set 204 (.inl (1, vec 8 g)) = hO (rS S 204 g) Tw M P := by
  refine hO_setS (c := 204) (by omega) ty204 _ ?_
  rw [sk204]
  exact congrArg Sum.inl (congrArg (Prod.mk 1) (slotV_vec _ _).symm)
theorem ty205 : tyOf 205 = none := by decide +kernel
theorem sk205 : skAt P 205 = (.inr 3, [some (tR 0 0), some (tR 15 0)]) := by
  unfold skAt
  rw [if_neg (by decide)]
  exact (by decide +kernel : skB.getD 205 (.inl 0, []) = (.inr 3, [some (tR 0 0), some (tR 15 0)]))
theorem h205 : (hO S Tw M P)[205]? = some (.inr (3, [.ref (tR 0 0), .ref (tR 15 0)])) := by
  rw [hO_S (c := 205) (by omega) ty205, sk205]
  rfl
theorem ty206 : tyOf 206 = none := by decide +kernel
theorem sk206 : skAt P 206 = (.inr 10, [some (207), some (tR 0 0), some (208), some (209), none]) := by
  unfold skAt
  rw [if_neg (by decide)]
  exact (by decide +kernel : skB.getD 206 (.inl 0, []) = (.inr 10, [some (207), some (tR 0 0), some (208), some (209), none]))
theorem h206 : (hO S Tw M P)[206]? = some (.inr (10, [.ref 207, .ref (tR 0 0), .ref 208, .ref 209, .int (iI (S 206 4))])) := by
  rw [hO_S (c := 206) (by omega) ty206, sk206]
  rfl
theorem p206_4 {v : Int} : (hO S Tw M P).set 206 (.inr (10, [.ref 207, .ref (tR 0 0), .ref 208, .ref 209, .int (iI v)])) = hO (wS S 206 4 v) Tw M P := by
  rw [← wS_r]
  refine hO_setS (c := 206) (by omega) ty206 _ ?_
  rw [sk206]
  rfl
theorem ty207 : tyOf 207 = none := by decide +kernel
theorem sk207 : skAt P 207 = (.inl 0, List.replicate 3 none) := by
  unfold skAt
  rw [if_neg (by decide)]
  exact (by decide +kernel : skB.getD 207 (.inl 0, []) = (.inl 0, List.replicate 3 none))
theorem h207 : (hO S Tw M P)[207]? = some (.inl (0, vec 3 (S 207))) := by
  rw [hO_S (c := 207) (by omega) ty207, sk207]
  exact congrArg some (congrArg Sum.inl (congrArg (Prod.mk 0) (slotV_vec _ _)))
theorem p207 {e v : Int} : (hO S Tw M P).set 207 (.inl (0, vec 3 (fun i => if i = e then v else S 207 i))) = hO (wS S 207 e v) Tw M P := by
  rw [← wS_r]
  refine hO_setS (c := 207) (by omega) ty207 _ ?_
  rw [sk207]
  exact congrArg Sum.inl (congrArg (Prod.mk 0) (slotV_vec _ _).symm)
theorem q207 {g : Int → Int} : (hO S Tw M P).set 207 (.inl (0, vec 3 g)) = hO (rS S 207 g) Tw M P := by
  refine hO_setS (c := 207) (by omega) ty207 _ ?_
  rw [sk207]
  exact congrArg Sum.inl (congrArg (Prod.mk 0) (slotV_vec _ _).symm)
theorem ty208 : tyOf 208 = none := by decide +kernel
theorem sk208 : skAt P 208 = (.inl 2, [some (tR 16 0), some (tR 17 0), some (tR 18 0)]) := by
  unfold skAt
  rw [if_neg (by decide)]
  exact (by decide +kernel : skB.getD 208 (.inl 0, []) = (.inl 2, [some (tR 16 0), some (tR 17 0), some (tR 18 0)]))
theorem h208 : (hO S Tw M P)[208]? = some (.inl (2, [.ref (tR 16 0), .ref (tR 17 0), .ref (tR 18 0)])) := by
  rw [hO_S (c := 208) (by omega) ty208, sk208]
  rfl
theorem ty209 : tyOf 209 = none := by decide +kernel
theorem sk209 : skAt P 209 = (.inl 0, List.replicate 3 none) := by
  unfold skAt
  rw [if_neg (by decide)]
  exact (by decide +kernel : skB.getD 209 (.inl 0, []) = (.inl 0, List.replicate 3 none))
theorem h209 : (hO S Tw M P)[209]? = some (.inl (0, vec 3 (S 209))) := by
  rw [hO_S (c := 209) (by omega) ty209, sk209]
  exact congrArg some (congrArg Sum.inl (congrArg (Prod.mk 0) (slotV_vec _ _)))
theorem p209 {e v : Int} : (hO S Tw M P).set 209 (.inl (0, vec 3 (fun i => if i = e then v else S 209 i))) = hO (wS S 209 e v) Tw M P := by
  rw [← wS_r]
  refine hO_setS (c := 209) (by omega) ty209 _ ?_
  rw [sk209]
  exact congrArg Sum.inl (congrArg (Prod.mk 0) (slotV_vec _ _).symm)
theorem q209 {g : Int → Int} : (hO S Tw M P).set 209 (.inl (0, vec 3 g)) = hO (rS S 209 g) Tw M P := by
  refine hO_setS (c := 209) (by omega) ty209 _ ?_
  rw [sk209]
  exact congrArg Sum.inl (congrArg (Prod.mk 0) (slotV_vec _ _).symm)
theorem ty243 : tyOf 243 = none := by decide +kernel
theorem sk243 : skAt P 243 = (.inr 1, [some (244), some (tR 0 0), some (tR 15 0), some (13), some (245), some (246), some (247)]) := by
  unfold skAt
  rw [if_neg (by decide)]
  exact (by decide +kernel : skB.getD 243 (.inl 0, []) = (.inr 1, [some (244), some (tR 0 0), some (tR 15 0), some (13), some (245), some (246), some (247)]))
theorem h243 : (hO S Tw M P)[243]? = some (.inr (1, [.ref 244, .ref (tR 0 0), .ref (tR 15 0), .ref 13, .ref 245, .ref 246, .ref 247])) := by
  rw [hO_S (c := 243) (by omega) ty243, sk243]
  rfl
theorem ty244 : tyOf 244 = none := by decide +kernel
theorem sk244 : skAt P 244 = (.inl 0, List.replicate 5 none) := by
  unfold skAt
  rw [if_neg (by decide)]
  exact (by decide +kernel : skB.getD 244 (.inl 0, []) = (.inl 0, List.replicate 5 none))
theorem h244 : (hO S Tw M P)[244]? = some (.inl (0, vec 5 (S 244))) := by
  rw [hO_S (c := 244) (by omega) ty244, sk244]
  exact congrArg some (congrArg Sum.inl (congrArg (Prod.mk 0) (slotV_vec _ _)))
theorem p244 {e v : Int} : (hO S Tw M P).set 244 (.inl (0, vec 5 (fun i => if i = e then v else S 244 i))) = hO (wS S 244 e v) Tw M P := by
  rw [← wS_r]
  refine hO_setS (c := 244) (by omega) ty244 _ ?_
  rw [sk244]
  exact congrArg Sum.inl (congrArg (Prod.mk 0) (slotV_vec _ _).symm)
theorem q244 {g : Int → Int} : (hO S Tw M P).set 244 (.inl (0, vec 5 g)) = hO (rS S 244 g) Tw M P := by
  refine hO_setS (c := 244) (by omega) ty244 _ ?_
  rw [sk244]
  exact congrArg Sum.inl (congrArg (Prod.mk 0) (slotV_vec _ _).symm)
theorem ty245 : tyOf 245 = none := by decide +kernel
theorem sk245 : skAt P 245 = (.inl 0, List.replicate 5 none) := by
  unfold skAt
  rw [if_neg (by decide)]
  exact (by decide +kernel : skB.getD 245 (.inl 0, []) = (.inl 0, List.replicate 5 none))
theorem h245 : (hO S Tw M P)[245]? = some (.inl (0, vec 5 (S 245))) := by
  rw [hO_S (c := 245) (by omega) ty245, sk245]
  exact congrArg some (congrArg Sum.inl (congrArg (Prod.mk 0) (slotV_vec _ _)))
theorem p245 {e v : Int} : (hO S Tw M P).set 245 (.inl (0, vec 5 (fun i => if i = e then v else S 245 i))) = hO (wS S 245 e v) Tw M P := by
  rw [← wS_r]
  refine hO_setS (c := 245) (by omega) ty245 _ ?_
  rw [sk245]
  exact congrArg Sum.inl (congrArg (Prod.mk 0) (slotV_vec _ _).symm)
theorem q245 {g : Int → Int} : (hO S Tw M P).set 245 (.inl (0, vec 5 g)) = hO (rS S 245 g) Tw M P := by
  refine hO_setS (c := 245) (by omega) ty245 _ ?_
  rw [sk245]
  exact congrArg Sum.inl (congrArg (Prod.mk 0) (slotV_vec _ _).symm)
theorem ty246 : tyOf 246 = none := by decide +kernel
theorem sk246 : skAt P 246 = (.inl 0, List.replicate 5 none) := by
  unfold skAt
  rw [if_neg (by decide)]
  exact (by decide +kernel : skB.getD 246 (.inl 0, []) = (.inl 0, List.replicate 5 none))
theorem h246 : (hO S Tw M P)[246]? = some (.inl (0, vec 5 (S 246))) := by
  rw [hO_S (c := 246) (by omega) ty246, sk246]
  exact congrArg some (congrArg Sum.inl (congrArg (Prod.mk 0) (slotV_vec _ _)))
theorem p246 {e v : Int} : (hO S Tw M P).set 246 (.inl (0, vec 5 (fun i => if i = e then v else S 246 i))) = hO (wS S 246 e v) Tw M P := by
  rw [← wS_r]
  refine hO_setS (c := 246) (by omega) ty246 _ ?_
  rw [sk246]
  exact congrArg Sum.inl (congrArg (Prod.mk 0) (slotV_vec _ _).symm)
theorem q246 {g : Int → Int} : (hO S Tw M P).set 246 (.inl (0, vec 5 g)) = hO (rS S 246 g) Tw M P := by
  refine hO_setS (c := 246) (by omega) ty246 _ ?_
  rw [sk246]
  exact congrArg Sum.inl (congrArg (Prod.mk 0) (slotV_vec _ _).symm)
theorem ty247 : tyOf 247 = none := by decide +kernel
theorem sk247 : skAt P 247 = (.inl 0, List.replicate 5 none) := by
  unfold skAt
  rw [if_neg (by decide)]
  exact (by decide +kernel : skB.getD 247 (.inl 0, []) = (.inl 0, List.replicate 5 none))
theorem h247 : (hO S Tw M P)[247]? = some (.inl (0, vec 5 (S 247))) := by
  rw [hO_S (c := 247) (by omega) ty247, sk247]
  exact congrArg some (congrArg Sum.inl (congrArg (Prod.mk 0) (slotV_vec _ _)))
theorem p247 {e v : Int} : (hO S Tw M P).set 247 (.inl (0, vec 5 (fun i => if i = e then v else S 247 i))) = hO (wS S 247 e v) Tw M P := by
  rw [← wS_r]
  refine hO_setS (c := 247) (by omega) ty247 _ ?_
  rw [sk247]
  exact congrArg Sum.inl (congrArg (Prod.mk 0) (slotV_vec _ _).symm)
theorem q247 {g : Int → Int} : (hO S Tw M P).set 247 (.inl (0, vec 5 g)) = hO (rS S 247 g) Tw M P := by
  refine hO_setS (c := 247) (by omega) ty247 _ ?_
  rw [sk247]
  exact congrArg Sum.inl (congrArg (Prod.mk 0) (slotV_vec _ _).symm)
theorem ty248 : tyOf 248 = none := by decide +kernel
theorem sk248 : skAt P 248 = (.inr 12, [none, some (249), none, none, none, none, some (250), some (251), some (252), some (253), some (254), some (255), some (256), some (257), some (258), some (259), some (260), none, none, none, none, some (261), some (262), some (263), some (264), none, some (265), some (266), some (267), some (268), some (269), some (270), some (271), some (272), none, none, some (273), some (274), some (275), some (276), some (277), some (278), some (279)]) := by
  unfold skAt
  rw [if_neg (by decide)]
  exact (by decide +kernel : skB.getD 248 (.inl 0, []) = (.inr 12, [none, some (249), none, none, none, none, some (250), some (251), some (252), some (253), some (254), some (255), some (256), some (257), some (258), some (259), some (260), none, none, none, none, some (261), some (262), some (263), some (264), none, some (265), some (266), some (267), some (268), some (269), some (270), some (271), some (272), none, none, some (273), some (274), some (275), some (276), some (277), some (278), some (279)]))
theorem h248 : (hO S Tw M P)[248]? = some (.inr (12, [.int (iI (M 0 0)), .ref 249, .int (iI (M 0 2)), .int (iI (M 0 3)), .int (iI (M 0 4)), .int (iI (M 0 5)), .ref 250, .ref 251, .ref 252, .ref 253, .ref 254, .ref 255, .ref 256, .ref 257, .ref 258, .ref 259, .ref 260, .int (iI (M 0 17)), .int (iI (M 0 18)), .int (iI (M 0 19)), .int (iI (M 0 20)), .ref 261, .ref 262, .ref 263, .ref 264, .int (iI (M 0 25)), .ref 265, .ref 266, .ref 267, .ref 268, .ref 269, .ref 270, .ref 271, .ref 272, .int (iI (M 0 34)), .int (iI (M 0 35)), .ref 273, .ref 274, .ref 275, .ref 276, .ref 277, .ref 278, .ref 279])) := by
  rw [hO_M (c := 248) (by omega) (by omega) ty248, sk248]
  rfl
theorem p248_0 {v : Int} : (hO S Tw M P).set 248 (.inr (12, [.int (iI v), .ref 249, .int (iI (M 0 2)), .int (iI (M 0 3)), .int (iI (M 0 4)), .int (iI (M 0 5)), .ref 250, .ref 251, .ref 252, .ref 253, .ref 254, .ref 255, .ref 256, .ref 257, .ref 258, .ref 259, .ref 260, .int (iI (M 0 17)), .int (iI (M 0 18)), .int (iI (M 0 19)), .int (iI (M 0 20)), .ref 261, .ref 262, .ref 263, .ref 264, .int (iI (M 0 25)), .ref 265, .ref 266, .ref 267, .ref 268, .ref 269, .ref 270, .ref 271, .ref 272, .int (iI (M 0 34)), .int (iI (M 0 35)), .ref 273, .ref 274, .ref 275, .ref 276, .ref 277, .ref 278, .ref 279])) = hO S Tw (wS M 0 0 v) P := by
  rw [← wS_r]
  refine hO_setM (c := 248) (by omega) ty248 _ ?_
  rw [sk248]
  rfl
theorem p248_2 {v : Int} : (hO S Tw M P).set 248 (.inr (12, [.int (iI (M 0 0)), .ref 249, .int (iI v), .int (iI (M 0 3)), .int (iI (M 0 4)), .int (iI (M 0 5)), .ref 250, .ref 251, .ref 252, .ref 253, .ref 254, .ref 255, .ref 256, .ref 257, .ref 258, .ref 259, .ref 260, .int (iI (M 0 17)), .int (iI (M 0 18)), .int (iI (M 0 19)), .int (iI (M 0 20)), .ref 261, .ref 262, .ref 263, .ref 264, .int (iI (M 0 25)), .ref 265, .ref 266, .ref 267, .ref 268, .ref 269, .ref 270, .ref 271, .ref 272, .int (iI (M 0 34)), .int (iI (M 0 35)), .ref 273, .ref 274, .ref 275, .ref 276, .ref 277, .ref 278, .ref 279])) = hO S Tw (wS M 0 2 v) P := by
  rw [← wS_r]
  refine hO_setM (c := 248) (by omega) ty248 _ ?_
  rw [sk248]
  rfl
theorem p248_3 {v : Int} : (hO S Tw M P).set 248 (.inr (12, [.int (iI (M 0 0)), .ref 249, .int (iI (M 0 2)), .int (iI v), .int (iI (M 0 4)), .int (iI (M 0 5)), .ref 250, .ref 251, .ref 252, .ref 253, .ref 254, .ref 255, .ref 256, .ref 257, .ref 258, .ref 259, .ref 260, .int (iI (M 0 17)), .int (iI (M 0 18)), .int (iI (M 0 19)), .int (iI (M 0 20)), .ref 261, .ref 262, .ref 263, .ref 264, .int (iI (M 0 25)), .ref 265, .ref 266, .ref 267, .ref 268, .ref 269, .ref 270, .ref 271, .ref 272, .int (iI (M 0 34)), .int (iI (M 0 35)), .ref 273, .ref 274, .ref 275, .ref 276, .ref 277, .ref 278, .ref 279])) = hO S Tw (wS M 0 3 v) P := by
  rw [← wS_r]
  refine hO_setM (c := 248) (by omega) ty248 _ ?_
  rw [sk248]
  rfl
theorem p248_4 {v : Int} : (hO S Tw M P).set 248 (.inr (12, [.int (iI (M 0 0)), .ref 249, .int (iI (M 0 2)), .int (iI (M 0 3)), .int (iI v), .int (iI (M 0 5)), .ref 250, .ref 251, .ref 252, .ref 253, .ref 254, .ref 255, .ref 256, .ref 257, .ref 258, .ref 259, .ref 260, .int (iI (M 0 17)), .int (iI (M 0 18)), .int (iI (M 0 19)), .int (iI (M 0 20)), .ref 261, .ref 262, .ref 263, .ref 264, .int (iI (M 0 25)), .ref 265, .ref 266, .ref 267, .ref 268, .ref 269, .ref 270, .ref 271, .ref 272, .int (iI (M 0 34)), .int (iI (M 0 35)), .ref 273, .ref 274, .ref 275, .ref 276, .ref 277, .ref 278, .ref 279])) = hO S Tw (wS M 0 4 v) P := by
  rw [← wS_r]
  refine hO_setM (c := 248) (by omega) ty248 _ ?_
  rw [sk248]
  rfl
theorem p248_5 {v : Int} : (hO S Tw M P).set 248 (.inr (12, [.int (iI (M 0 0)), .ref 249, .int (iI (M 0 2)), .int (iI (M 0 3)), .int (iI (M 0 4)), .int (iI v), .ref 250, .ref 251, .ref 252, .ref 253, .ref 254, .ref 255, .ref 256, .ref 257, .ref 258, .ref 259, .ref 260, .int (iI (M 0 17)), .int (iI (M 0 18)), .int (iI (M 0 19)), .int (iI (M 0 20)), .ref 261, .ref 262, .ref 263, .ref 264, .int (iI (M 0 25)), .ref 265, .ref 266, .ref 267, .ref 268, .ref 269, .ref 270, .ref 271, .ref 272, .int (iI (M 0 34)), .int (iI (M 0 35)), .ref 273, .ref 274, .ref 275, .ref 276, .ref 277, .ref 278, .ref 279])) = hO S Tw (wS M 0 5 v) P := by
  rw [← wS_r]
  refine hO_setM (c := 248) (by omega) ty248 _ ?_
  rw [sk248]
  rfl
theorem p248_17 {v : Int} : (hO S Tw M P).set 248 (.inr (12, [.int (iI (M 0 0)), .ref 249, .int (iI (M 0 2)), .int (iI (M 0 3)), .int (iI (M 0 4)), .int (iI (M 0 5)), .ref 250, .ref 251, .ref 252, .ref 253, .ref 254, .ref 255, .ref 256, .ref 257, .ref 258, .ref 259, .ref 260, .int (iI v), .int (iI (M 0 18)), .int (iI (M 0 19)), .int (iI (M 0 20)), .ref 261, .ref 262, .ref 263, .ref 264, .int (iI (M 0 25)), .ref 265, .ref 266, .ref 267, .ref 268, .ref 269, .ref 270, .ref 271, .ref 272, .int (iI (M 0 34)), .int (iI (M 0 35)), .ref 273, .ref 274, .ref 275, .ref 276, .ref 277, .ref 278, .ref 279])) = hO S Tw (wS M 0 17 v) P := by
  rw [← wS_r]
  refine hO_setM (c := 248) (by omega) ty248 _ ?_
  rw [sk248]
  rfl
theorem p248_18 {v : Int} : (hO S Tw M P).set 248 (.inr (12, [.int (iI (M 0 0)), .ref 249, .int (iI (M 0 2)), .int (iI (M 0 3)), .int (iI (M 0 4)), .int (iI (M 0 5)), .ref 250, .ref 251, .ref 252, .ref 253, .ref 254, .ref 255, .ref 256, .ref 257, .ref 258, .ref 259, .ref 260, .int (iI (M 0 17)), .int (iI v), .int (iI (M 0 19)), .int (iI (M 0 20)), .ref 261, .ref 262, .ref 263, .ref 264, .int (iI (M 0 25)), .ref 265, .ref 266, .ref 267, .ref 268, .ref 269, .ref 270, .ref 271, .ref 272, .int (iI (M 0 34)), .int (iI (M 0 35)), .ref 273, .ref 274, .ref 275, .ref 276, .ref 277, .ref 278, .ref 279])) = hO S Tw (wS M 0 18 v) P := by
  rw [← wS_r]
  refine hO_setM (c := 248) (by omega) ty248 _ ?_
  rw [sk248]
  rfl
theorem p248_19 {v : Int} : (hO S Tw M P).set 248 (.inr (12, [.int (iI (M 0 0)), .ref 249, .int (iI (M 0 2)), .int (iI (M 0 3)), .int (iI (M 0 4)), .int (iI (M 0 5)), .ref 250, .ref 251, .ref 252, .ref 253, .ref 254, .ref 255, .ref 256, .ref 257, .ref 258, .ref 259, .ref 260, .int (iI (M 0 17)), .int (iI (M 0 18)), .int (iI v), .int (iI (M 0 20)), .ref 261, .ref 262, .ref 263, .ref 264, .int (iI (M 0 25)), .ref 265, .ref 266, .ref 267, .ref 268, .ref 269, .ref 270, .ref 271, .ref 272, .int (iI (M 0 34)), .int (iI (M 0 35)), .ref 273, .ref 274, .ref 275, .ref 276, .ref 277, .ref 278, .ref 279])) = hO S Tw (wS M 0 19 v) P := by
  rw [← wS_r]
  refine hO_setM (c := 248) (by omega) ty248 _ ?_
  rw [sk248]
  rfl
theorem p248_20 {v : Int} : (hO S Tw M P).set 248 (.inr (12, [.int (iI (M 0 0)), .ref 249, .int (iI (M 0 2)), .int (iI (M 0 3)), .int (iI (M 0 4)), .int (iI (M 0 5)), .ref 250, .ref 251, .ref 252, .ref 253, .ref 254, .ref 255, .ref 256, .ref 257, .ref 258, .ref 259, .ref 260, .int (iI (M 0 17)), .int (iI (M 0 18)), .int (iI (M 0 19)), .int (iI v), .ref 261, .ref 262, .ref 263, .ref 264, .int (iI (M 0 25)), .ref 265, .ref 266, .ref 267, .ref 268, .ref 269, .ref 270, .ref 271, .ref 272, .int (iI (M 0 34)), .int (iI (M 0 35)), .ref 273, .ref 274, .ref 275, .ref 276, .ref 277, .ref 278, .ref 279])) = hO S Tw (wS M 0 20 v) P := by
  rw [← wS_r]
  refine hO_setM (c := 248) (by omega) ty248 _ ?_
  rw [sk248]
  rfl
theorem p248_25 {v : Int} : (hO S Tw M P).set 248 (.inr (12, [.int (iI (M 0 0)), .ref 249, .int (iI (M 0 2)), .int (iI (M 0 3)), .int (iI (M 0 4)), .int (iI (M 0 5)), .ref 250, .ref 251, .ref 252, .ref 253, .ref 254, .ref 255, .ref 256, .ref 257, .ref 258, .ref 259, .ref 260, .int (iI (M 0 17)), .int (iI (M 0 18)), .int (iI (M 0 19)), .int (iI (M 0 20)), .ref 261, .ref 262, .ref 263, .ref 264, .int (iI v), .ref 265, .ref 266, .ref 267, .ref 268, .ref 269, .ref 270, .ref 271, .ref 272, .int (iI (M 0 34)), .int (iI (M 0 35)), .ref 273, .ref 274, .ref 275, .ref 276, .ref 277, .ref 278, .ref 279])) = hO S Tw (wS M 0 25 v) P := by
  rw [← wS_r]
  refine hO_setM (c := 248) (by omega) ty248 _ ?_
  rw [sk248]
  rfl
theorem p248_34 {v : Int} : (hO S Tw M P).set 248 (.inr (12, [.int (iI (M 0 0)), .ref 249, .int (iI (M 0 2)), .int (iI (M 0 3)), .int (iI (M 0 4)), .int (iI (M 0 5)), .ref 250, .ref 251, .ref 252, .ref 253, .ref 254, .ref 255, .ref 256, .ref 257, .ref 258, .ref 259, .ref 260, .int (iI (M 0 17)), .int (iI (M 0 18)), .int (iI (M 0 19)), .int (iI (M 0 20)), .ref 261, .ref 262, .ref 263, .ref 264, .int (iI (M 0 25)), .ref 265, .ref 266, .ref 267, .ref 268, .ref 269, .ref 270, .ref 271, .ref 272, .int (iI v), .int (iI (M 0 35)), .ref 273, .ref 274, .ref 275, .ref 276, .ref 277, .ref 278, .ref 279])) = hO S Tw (wS M 0 34 v) P := by
  rw [← wS_r]
  refine hO_setM (c := 248) (by omega) ty248 _ ?_
  rw [sk248]
  rfl
theorem p248_35 {v : Int} : (hO S Tw M P).set 248 (.inr (12, [.int (iI (M 0 0)), .ref 249, .int (iI (M 0 2)), .int (iI (M 0 3)), .int (iI (M 0 4)), .int (iI (M 0 5)), .ref 250, .ref 251, .ref 252, .ref 253, .ref 254, .ref 255, .ref 256, .ref 257, .ref 258, .ref 259, .ref 260, .int (iI (M 0 17)), .int (iI (M 0 18)), .int (iI (M 0 19)), .int (iI (M 0 20)), .ref 261, .ref 262, .ref 263, .ref 264, .int (iI (M 0 25)), .ref 265, .ref 266, .ref 267, .ref 268, .ref 269, .ref 270, .ref 271, .ref 272, .int (iI (M 0 34)), .int (iI v), .ref 273, .ref 274, .ref 275, .ref 276, .ref 277, .ref 278, .ref 279])) = hO S Tw (wS M 0 35 v) P := by
  rw [← wS_r]
  refine hO_setM (c := 248) (by omega) ty248 _ ?_
  rw [sk248]
  rfl
theorem ty249 : tyOf 249 = none := by decide +kernel
theorem sk249 : skAt P 249 = (.inl 0, List.replicate 64 none) := by
  unfold skAt
  rw [if_neg (by decide)]
  exact (by decide +kernel : skB.getD 249 (.inl 0, []) = (.inl 0, List.replicate 64 none))
theorem h249 : (hO S Tw M P)[249]? = some (.inl (0, vec 64 (M 1))) := by
  rw [hO_M (c := 249) (by omega) (by omega) ty249, sk249]
  exact congrArg some (congrArg Sum.inl (congrArg (Prod.mk 0) (slotV_vec _ _)))
theorem p249 {e v : Int} : (hO S Tw M P).set 249 (.inl (0, vec 64 (fun i => if i = e then v else M 1 i))) = hO S Tw (wS M 1 e v) P := by
  rw [← wS_r]
  refine hO_setM (c := 249) (by omega) ty249 _ ?_
  rw [sk249]
  exact congrArg Sum.inl (congrArg (Prod.mk 0) (slotV_vec _ _).symm)
theorem q249 {g : Int → Int} : (hO S Tw M P).set 249 (.inl (0, vec 64 g)) = hO S Tw (rS M 1 g) P := by
  refine hO_setM (c := 249) (by omega) ty249 _ ?_
  rw [sk249]
  exact congrArg Sum.inl (congrArg (Prod.mk 0) (slotV_vec _ _).symm)
theorem ty250 : tyOf 250 = none := by decide +kernel
theorem sk250 : skAt P 250 = (.inl 0, List.replicate 5 none) := by
  unfold skAt
  rw [if_neg (by decide)]
  exact (by decide +kernel : skB.getD 250 (.inl 0, []) = (.inl 0, List.replicate 5 none))
theorem h250 : (hO S Tw M P)[250]? = some (.inl (0, vec 5 (M 2))) := by
  rw [hO_M (c := 250) (by omega) (by omega) ty250, sk250]
  exact congrArg some (congrArg Sum.inl (congrArg (Prod.mk 0) (slotV_vec _ _)))
theorem p250 {e v : Int} : (hO S Tw M P).set 250 (.inl (0, vec 5 (fun i => if i = e then v else M 2 i))) = hO S Tw (wS M 2 e v) P := by
  rw [← wS_r]
  refine hO_setM (c := 250) (by omega) ty250 _ ?_
  rw [sk250]
  exact congrArg Sum.inl (congrArg (Prod.mk 0) (slotV_vec _ _).symm)
theorem q250 {g : Int → Int} : (hO S Tw M P).set 250 (.inl (0, vec 5 g)) = hO S Tw (rS M 2 g) P := by
  refine hO_setM (c := 250) (by omega) ty250 _ ?_
  rw [sk250]
  exact congrArg Sum.inl (congrArg (Prod.mk 0) (slotV_vec _ _).symm)
theorem ty251 : tyOf 251 = none := by decide +kernel
theorem sk251 : skAt P 251 = (.inl 0, List.replicate 5 none) := by
  unfold skAt
  rw [if_neg (by decide)]
  exact (by decide +kernel : skB.getD 251 (.inl 0, []) = (.inl 0, List.replicate 5 none))
theorem h251 : (hO S Tw M P)[251]? = some (.inl (0, vec 5 (M 3))) := by
  rw [hO_M (c := 251) (by omega) (by omega) ty251, sk251]
  exact congrArg some (congrArg Sum.inl (congrArg (Prod.mk 0) (slotV_vec _ _)))
theorem p251 {e v : Int} : (hO S Tw M P).set 251 (.inl (0, vec 5 (fun i => if i = e then v else M 3 i))) = hO S Tw (wS M 3 e v) P := by
  rw [← wS_r]
  refine hO_setM (c := 251) (by omega) ty251 _ ?_
  rw [sk251]
  exact congrArg Sum.inl (congrArg (Prod.mk 0) (slotV_vec _ _).symm)
theorem q251 {g : Int → Int} : (hO S Tw M P).set 251 (.inl (0, vec 5 g)) = hO S Tw (rS M 3 g) P := by
  refine hO_setM (c := 251) (by omega) ty251 _ ?_
  rw [sk251]
  exact congrArg Sum.inl (congrArg (Prod.mk 0) (slotV_vec _ _).symm)
theorem ty252 : tyOf 252 = none := by decide +kernel
theorem sk252 : skAt P 252 = (.inl 0, List.replicate 5 none) := by
  unfold skAt
  rw [if_neg (by decide)]
  exact (by decide +kernel : skB.getD 252 (.inl 0, []) = (.inl 0, List.replicate 5 none))
theorem h252 : (hO S Tw M P)[252]? = some (.inl (0, vec 5 (M 4))) := by
  rw [hO_M (c := 252) (by omega) (by omega) ty252, sk252]
  exact congrArg some (congrArg Sum.inl (congrArg (Prod.mk 0) (slotV_vec _ _)))
theorem p252 {e v : Int} : (hO S Tw M P).set 252 (.inl (0, vec 5 (fun i => if i = e then v else M 4 i))) = hO S Tw (wS M 4 e v) P := by
  rw [← wS_r]
  refine hO_setM (c := 252) (by omega) ty252 _ ?_
  rw [sk252]
  exact congrArg Sum.inl (congrArg (Prod.mk 0) (slotV_vec _ _).symm)
theorem q252 {g : Int → Int} : (hO S Tw M P).set 252 (.inl (0, vec 5 g)) = hO S Tw (rS M 4 g) P := by
  refine hO_setM (c := 252) (by omega) ty252 _ ?_
  rw [sk252]
  exact congrArg Sum.inl (congrArg (Prod.mk 0) (slotV_vec _ _).symm)
theorem ty253 : tyOf 253 = none := by decide +kernel
theorem sk253 : skAt P 253 = (.inl 0, List.replicate 5 none) := by
  unfold skAt
  rw [if_neg (by decide)]
  exact (by decide +kernel : skB.getD 253 (.inl 0, []) = (.inl 0, List.replicate 5 none))
theorem h253 : (hO S Tw M P)[253]? = some (.inl (0, vec 5 (M 5))) := by
  rw [hO_M (c := 253) (by omega) (by omega) ty253, sk253]
  exact congrArg some (congrArg Sum.inl (congrArg (Prod.mk 0) (slotV_vec _ _)))
theorem p253 {e v : Int} : (hO S Tw M P).set 253 (.inl (0, vec 5 (fun i => if i = e then v else M 5 i))) = hO S Tw (wS M 5 e v) P := by
  rw [← wS_r]
  refine hO_setM (c := 253) (by omega) ty253 _ ?_
  rw [sk253]
  exact congrArg Sum.inl (congrArg (Prod.mk 0) (slotV_vec _ _).symm)
theorem q253 {g : Int → Int} : (hO S Tw M P).set 253 (.inl (0, vec 5 g)) = hO S Tw (rS M 5 g) P := by
  refine hO_setM (c := 253) (by omega) ty253 _ ?_
  rw [sk253]
  exact congrArg Sum.inl (congrArg (Prod.mk 0) (slotV_vec _ _).symm)
theorem ty254 : tyOf 254 = none := by decide +kernel
theorem sk254 : skAt P 254 = (.inl 0, List.replicate 5 none) := by
  unfold skAt
  rw [if_neg (by decide)]
  exact (by decide +kernel : skB.getD 254 (.inl 0, []) = (.inl 0, List.replicate 5 none))
theorem h254 : (hO S Tw M P)[254]? = some (.inl (0, vec 5 (M 6))) := by
  rw [hO_M (c := 254) (by omega) (by omega) ty254, sk254]
  exact congrArg some (congrArg Sum.inl (congrArg (Prod.mk 0) (slotV_vec _ _)))
theorem p254 {e v : Int} : (hO S Tw M P).set 254 (.inl (0, vec 5 (fun i => if i = e then v else M 6 i))) = hO S Tw (wS M 6 e v) P := by
  rw [← wS_r]
  refine hO_setM (c := 254) (by omega) ty254 _ ?_
  rw [sk254]
  exact congrArg Sum.inl (congrArg (Prod.mk 0) (slotV_vec _ _).symm)
theorem q254 {g : Int → Int} : (hO S Tw M P).set 254 (.inl (0, vec 5 g)) = hO S Tw (rS M 6 g) P := by
  refine hO_setM (c := 254) (by omega) ty254 _ ?_
  rw [sk254]
  exact congrArg Sum.inl (congrArg (Prod.mk 0) (slotV_vec _ _).symm)
theorem ty255 : tyOf 255 = none := by decide +kernel
theorem sk255 : skAt P 255 = (.inl 0, List.replicate 5 none) := by
  unfold skAt
  rw [if_neg (by decide)]
  exact (by decide +kernel : skB.getD 255 (.inl 0, []) = (.inl 0, List.replicate 5 none))
theorem h255 : (hO S Tw M P)[255]? = some (.inl (0, vec 5 (M 7))) := by
  rw [hO_M (c := 255) (by omega) (by omega) ty255, sk255]
  exact congrArg some (congrArg Sum.inl (congrArg (Prod.mk 0) (slotV_vec _ _)))
theorem p255 {e v : Int} : (hO S Tw M P).set 255 (.inl (0, vec 5 (fun i => if i = e then v else M 7 i))) = hO S Tw (wS M 7 e v) P := by
  rw [← wS_r]
  refine hO_setM (c := 255) (by omega) ty255 _ ?_
  rw [sk255]
  exact congrArg Sum.inl (congrArg (Prod.mk 0) (slotV_vec _ _).symm)
theorem q255 {g : Int → Int} : (hO S Tw M P).set 255 (.inl (0, vec 5 g)) = hO S Tw (rS M 7 g) P := by
  refine hO_setM (c := 255) (by omega) ty255 _ ?_
  rw [sk255]
  exact congrArg Sum.inl (congrArg (Prod.mk 0) (slotV_vec _ _).symm)
theorem ty256 : tyOf 256 = none := by decide +kernel
theorem sk256 : skAt P 256 = (.inl 0, List.replicate 5 none) := by
  unfold skAt
  rw [if_neg (by decide)]
  exact (by decide +kernel : skB.getD 256 (.inl 0, []) = (.inl 0, List.replicate 5 none))
theorem h256 : (hO S Tw M P)[256]? = some (.inl (0, vec 5 (M 8))) := by
  rw [hO_M (c := 256) (by omega) (by omega) ty256, sk256]
  exact congrArg some (congrArg Sum.inl (congrArg (Prod.mk 0) (slotV_vec _ _)))
theorem p256 {e v : Int} : (hO S Tw M P).set 256 (.inl (0, vec 5 (fun i => if i = e then v else M 8 i))) = hO S Tw (wS M 8 e v) P := by
  rw [← wS_r]
  refine hO_setM (c := 256) (by omega) ty256 _ ?_
  rw [sk256]
  exact congrArg Sum.inl (congrArg (Prod.mk 0) (slotV_vec _ _).symm)
theorem q256 {g : Int → Int} : (hO S Tw M P).set 256 (.inl (0, vec 5 g)) = hO S Tw (rS M 8 g) P := by
  refine hO_setM (c := 256) (by omega) ty256 _ ?_
  rw [sk256]
  exact congrArg Sum.inl (congrArg (Prod.mk 0) (slotV_vec _ _).symm)
theorem ty257 : tyOf 257 = none := by decide +kernel
theorem sk257 : skAt P 257 = (.inl 0, List.replicate 5 none) := by
  unfold skAt
  rw [if_neg (by decide)]
  exact (by decide +kernel : skB.getD 257 (.inl 0, []) = (.inl 0, List.replicate 5 none))
theorem h257 : (hO S Tw M P)[257]? = some (.inl (0, vec 5 (M 9))) := by
  rw [hO_M (c := 257) (by omega) (by omega) ty257, sk257]
  exact congrArg some (congrArg Sum.inl (congrArg (Prod.mk 0) (slotV_vec _ _)))
theorem p257 {e v : Int} : (hO S Tw M P).set 257 (.inl (0, vec 5 (fun i => if i = e then v else M 9 i))) = hO S Tw (wS M 9 e v) P := by
  rw [← wS_r]
  refine hO_setM (c := 257) (by omega) ty257 _ ?_
  rw [sk257]
  exact congrArg Sum.inl (congrArg (Prod.mk 0) (slotV_vec _ _).symm)
theorem q257 {g : Int → Int} : (hO S Tw M P).set 257 (.inl (0, vec 5 g)) = hO S Tw (rS M 9 g) P := by
  refine hO_setM (c := 257) (by omega) ty257 _ ?_
  rw [sk257]
  exact congrArg Sum.inl (congrArg (Prod.mk 0) (slotV_vec _ _).symm)
theorem ty258 : tyOf 258 = none := by decide +kernel
theorem sk258 : skAt P 258 = (.inl 0, List.replicate 5 none) := by
  unfold skAt
  rw [if_neg (by decide)]
  exact (by decide +kernel : skB.getD 258 (.inl 0, []) = (.inl 0, List.replicate 5 none))
theorem h258 : (hO S Tw M P)[258]? = some (.inl (0, vec 5 (M 10))) := by
  rw [hO_M (c := 258) (by omega) (by omega) ty258, sk258]
  exact congrArg some (congrArg Sum.inl (congrArg (Prod.mk 0) (slotV_vec _ _)))
theorem p258 {e v : Int} : (hO S Tw M P).set 258 (.inl (0, vec 5 (fun i => if i = e then v else M 10 i))) = hO S Tw (wS M 10 e v) P := by
  rw [← wS_r]
  refine hO_setM (c := 258) (by omega) ty258 _ ?_
  rw [sk258]
  exact congrArg Sum.inl (congrArg (Prod.mk 0) (slotV_vec _ _).symm)
theorem q258 {g : Int → Int} : (hO S Tw M P).set 258 (.inl (0, vec 5 g)) = hO S Tw (rS M 10 g) P := by
  refine hO_setM (c := 258) (by omega) ty258 _ ?_
  rw [sk258]
  exact congrArg Sum.inl (congrArg (Prod.mk 0) (slotV_vec _ _).symm)
theorem ty259 : tyOf 259 = none := by decide +kernel
theorem sk259 : skAt P 259 = (.inl 0, List.replicate 5 none) := by
  unfold skAt
  rw [if_neg (by decide)]
  exact (by decide +kernel : skB.getD 259 (.inl 0, []) = (.inl 0, List.replicate 5 none))
theorem h259 : (hO S Tw M P)[259]? = some (.inl (0, vec 5 (M 11))) := by
  rw [hO_M (c := 259) (by omega) (by omega) ty259, sk259]
  exact congrArg some (congrArg Sum.inl (congrArg (Prod.mk 0) (slotV_vec _ _)))
theorem p259 {e v : Int} : (hO S Tw M P).set 259 (.inl (0, vec 5 (fun i => if i = e then v else M 11 i))) = hO S Tw (wS M 11 e v) P := by
  rw [← wS_r]
  refine hO_setM (c := 259) (by omega) ty259 _ ?_
  rw [sk259]
  exact congrArg Sum.inl (congrArg (Prod.mk 0) (slotV_vec _ _).symm)
theorem q259 {g : Int → Int} : (hO S Tw M P).set 259 (.inl (0, vec 5 g)) = hO S Tw (rS M 11 g) P := by
  refine hO_setM (c := 259) (by omega) ty259 _ ?_
  rw [sk259]
  exact congrArg Sum.inl (congrArg (Prod.mk 0) (slotV_vec _ _).symm)
theorem ty260 : tyOf 260 = none := by decide +kernel
theorem sk260 : skAt P 260 = (.inl 0, List.replicate 5 none) := by
  unfold skAt
  rw [if_neg (by decide)]
  exact (by decide +kernel : skB.getD 260 (.inl 0, []) = (.inl 0, List.replicate 5 none))
theorem h260 : (hO S Tw M P)[260]? = some (.inl (0, vec 5 (M 12))) := by
  rw [hO_M (c := 260) (by omega) (by omega) ty260, sk260]
  exact congrArg some (congrArg Sum.inl (congrArg (Prod.mk 0) (slotV_vec _ _)))
theorem p260 {e v : Int} : (hO S Tw M P).set 260 (.inl (0, vec 5 (fun i => if i = e then v else M 12 i))) = hO S Tw (wS M 12 e v) P := by
  rw [← wS_r]
  refine hO_setM (c := 260) (by omega) ty260 _ ?_
  rw [sk260]
  exact congrArg Sum.inl (congrArg (Prod.mk 0) (slotV_vec _ _).symm)
theorem q260 {g : Int → Int} : (hO S Tw M P).set 260 (.inl (0, vec 5 g)) = hO S Tw (rS M 12 g) P := by
  refine hO_setM (c := 260) (by omega) ty260 _ ?_
  rw [sk260]
  exact congrArg Sum.inl (congrArg (Prod.mk 0) (slotV_vec _ _).symm)
theorem ty261 : tyOf 261 = none := by decide +kernel
theorem sk261 : skAt P 261 = (.inl 0, List.replicate 5 none) := by
  unfold skAt
  rw [if_neg (by decide)]
  exact (by decide +kernel : skB.getD 261 (.inl 0, []) = (.inl 0, List.replicate 5 none))
theorem h261 : (hO S Tw M P)[261]? = some (.inl (0, vec 5 (M 13))) := by
  rw [hO_M (c := 261) (by omega) (by omega) ty261, sk261]
  exact congrArg some (congrArg Sum.inl (congrArg (Prod.mk 0) (slotV_vec _ _)))
theorem p261 {e v : Int} : (hO S Tw M P).set 261 (.inl (0, vec 5 (fun i => if i = e then v else M 13 i))) = hO S Tw (wS M 13 e v) P := by
  rw [← wS_r]
  refine hO_setM (c := 261) (by omega) ty261 _ ?_
  rw [sk261]
  exact congrArg Sum.inl (congrArg (Prod.mk 0) (slotV_vec _ _).symm)
theorem q261 {g : Int → Int} : (hO S Tw M P).set 261 (.inl (0, vec 5 g)) = hO S Tw (rS M 13 g) P := by
  refine hO_setM (c := 261) (by omega) ty261 _ ?_
  rw [sk261]
  exact congrArg Sum.inl (congrArg (Prod.mk 0) (slotV_vec _ _).symm)
theorem ty262 : tyOf 262 = none := by decide +kernel
theorem sk262 : skAt P 262 = (.inl 0, List.replicate 5 none) := by
  unfold skAt
  rw [if_neg (by decide)]
  exact (by decide +kernel : skB.getD 262 (.inl 0, []) = (.inl 0, List.replicate 5 none))
theorem h262 : (hO S Tw M P)[262]? = some (.inl (0, vec 5 (M 14))) := by
  rw [hO_M (c := 262) (by omega) (by omega) ty262, sk262]
  exact congrArg some (congrArg Sum.inl (congrArg (Prod.mk 0) (slotV_vec _ _)))
theorem p262 {e v : Int} : (hO S Tw M P).set 262 (.inl (0, vec 5 (fun i => if i = e then v else M 14 i))) = hO S Tw (wS M 14 e v) P := by
  rw [← wS_r]
  refine hO_setM (c := 262) (by omega) ty262 _ ?_
  rw [sk262]
  exact congrArg Sum.inl (congrArg (Prod.mk 0) (slotV_vec _ _).symm)
theorem q262 {g : Int → Int} : (hO S Tw M P).set 262 (.inl (0, vec 5 g)) = hO S Tw (rS M 14 g) P := by
  refine hO_setM (c := 262) (by omega) ty262 _ ?_
  rw [sk262]
  exact congrArg Sum.inl (congrArg (Prod.mk 0) (slotV_vec _ _).symm)
theorem ty263 : tyOf 263 = none := by decide +kernel
theorem sk263 : skAt P 263 = (.inl 0, List.replicate 30 none) := by
  unfold skAt
  rw [if_neg (by decide)]
  exact (by decide +kernel : skB.getD 263 (.inl 0, []) = (.inl 0, List.replicate 30 none))
theorem h263 : (hO S Tw M P)[263]? = some (.inl (0, vec 30 (M 15))) := by
  rw [hO_M (c := 263) (by omega) (by omega) ty263, sk263]
  exact congrArg some (congrArg Sum.inl (congrArg (Prod.mk 0) (slotV_vec _ _)))
theorem p263 {e v : Int} : (hO S Tw M P).set 263 (.inl (0, vec 30 (fun i => if i = e then v else M 15 i))) = hO S Tw (wS M 15 e v) P := by
  rw [← wS_r]
  refine hO_setM (c := 263) (by omega) ty263 _ ?_
  rw [sk263]
  exact congrArg Sum.inl (congrArg (Prod.mk 0) (slotV_vec _ _).symm)
theorem q263 {g : Int → Int} : (hO S Tw M P).set 263 (.inl (0, vec 30 g)) = hO S Tw (rS M 15 g) P := by
  refine hO_setM (c := 263) (by omega) ty263 _ ?_
  rw [sk263]
  exact congrArg Sum.inl (congrArg (Prod.mk 0) (slotV_vec _ _).symm)
theorem ty264 : tyOf 264 = none := by decide +kernel
theorem sk264 : skAt P 264 = (.inl 0, List.replicate 192 none) := by
  unfold skAt
  rw [if_neg (by decide)]
  exact (by decide +kernel : skB.getD 264 (.inl 0, []) = (.inl 0, List.replicate 192 none))
theorem h264 : (hO S Tw M P)[264]? = some (.inl (0, vec 192 (M 16))) := by
  rw [hO_M (c := 264) (by omega) (by omega) ty264, sk264]
  exact congrArg some (congrArg Sum.inl (congrArg (Prod.mk 0) (slotV_vec _ _)))
theorem p264 {e v : Int} : (hO S Tw M P).set 264 (.inl (0, vec 192 (fun i => if i = e then v else M 16 i))) = hO S Tw (wS M 16 e v) P := by
  rw [← wS_r]
  refine hO_setM (c := 264) (by omega) ty264 _ ?_
  rw [sk264]
  exact congrArg Sum.inl (congrArg (Prod.mk 0) (slotV_vec _ _).symm)
theorem q264 {g : Int → Int} : (hO S Tw M P).set 264 (.inl (0, vec 192 g)) = hO S Tw (rS M 16 g) P := by
  refine hO_setM (c := 264) (by omega) ty264 _ ?_
  rw [sk264]
  exact congrArg Sum.inl (congrArg (Prod.mk 0) (slotV_vec _ _).symm)
theorem ty265 : tyOf 265 = none := by decide +kernel
theorem sk265 : skAt P 265 = (.inl 0, List.replicate 72 none) := by
  unfold skAt
  rw [if_neg (by decide)]
  exact (by decide +kernel : skB.getD 265 (.inl 0, []) = (.inl 0, List.replicate 72 none))
theorem h265 : (hO S Tw M P)[265]? = some (.inl (0, vec 72 (M 17))) := by
  rw [hO_M (c := 265) (by omega) (by omega) ty265, sk265]
  exact congrArg some (congrArg Sum.inl (congrArg (Prod.mk 0) (slotV_vec _ _)))
theorem p265 {e v : Int} : (hO S Tw M P).set 265 (.inl (0, vec 72 (fun i => if i = e then v else M 17 i))) = hO S Tw (wS M 17 e v) P := by
  rw [← wS_r]
  refine hO_setM (c := 265) (by omega) ty265 _ ?_
  rw [sk265]
  exact congrArg Sum.inl (congrArg (Prod.mk 0) (slotV_vec _ _).symm)
theorem q265 {g : Int → Int} : (hO S Tw M P).set 265 (.inl (0, vec 72 g)) = hO S Tw (rS M 17 g) P := by
  refine hO_setM (c := 265) (by omega) ty265 _ ?_
  rw [sk265]
  exact congrArg Sum.inl (congrArg (Prod.mk 0) (slotV_vec _ _).symm)
theorem ty266 : tyOf 266 = none := by decide +kernel
theorem sk266 : skAt P 266 = (.inl 1, List.replicate 2 none) := by
  unfold skAt
  rw [if_neg (by decide)]
  exact (by decide +kernel : skB.getD 266 (.inl 0, []) = (.inl 1, List.replicate 2 none))
theorem h266 : (hO S Tw M P)[266]? = some (.inl (1, vec 2 (M 18))) := by
  rw [hO_M (c := 266) (by omega) (by omega) ty266, sk266]
  exact congrArg some (congrArg Sum.inl (congrArg (Prod.mk 1) (slotV_vec _ _)))
theorem p266 {e v : Int} : (hO S Tw M P).set 266 (.inl (1, vec 2 (fun i => if i = e then v else M 18 i))) = hO S Tw (wS M 18 e v) P := by
  rw [← wS_r]
  refine hO_setM (c := 266) (by omega) ty266 _ ?_
  rw [sk266]
  exact congrArg Sum.inl (congrArg (Prod.mk 1) (slotV_vec _ _).symm)
theorem q266 {g : Int → Int} : (hO S Tw M P).set 266 (.inl (1, vec 2 g)) = hO S Tw (rS M 18 g) P := by
  refine hO_setM (c := 266) (by omega) ty266 _ ?_
  rw [sk266]
  exact congrArg Sum.inl (congrArg (Prod.mk 1) (slotV_vec _ _).symm)
theorem ty267 : tyOf 267 = none := by decide +kernel
theorem sk267 : skAt P 267 = (.inl 0, List.replicate 5 none) := by
  unfold skAt
  rw [if_neg (by decide)]
  exact (by decide +kernel : skB.getD 267 (.inl 0, []) = (.inl 0, List.replicate 5 none))
theorem h267 : (hO S Tw M P)[267]? = some (.inl (0, vec 5 (M 19))) := by
  rw [hO_M (c := 267) (by omega) (by omega) ty267, sk267]
  exact congrArg some (congrArg Sum.inl (congrArg (Prod.mk 0) (slotV_vec _ _)))
theorem p267 {e v : Int} : (hO S Tw M P).set 267 (.inl (0, vec 5 (fun i => if i = e then v else M 19 i))) = hO S Tw (wS M 19 e v) P := by
  rw [← wS_r]
  refine hO_setM (c := 267) (by omega) ty267 _ ?_
  rw [sk267]
  exact congrArg Sum.inl (congrArg (Prod.mk 0) (slotV_vec _ _).symm)
theorem q267 {g : Int → Int} : (hO S Tw M P).set 267 (.inl (0, vec 5 g)) = hO S Tw (rS M 19 g) P := by
  refine hO_setM (c := 267) (by omega) ty267 _ ?_
  rw [sk267]
  exact congrArg Sum.inl (congrArg (Prod.mk 0) (slotV_vec _ _).symm)
theorem ty268 : tyOf 268 = none := by decide +kernel
theorem sk268 : skAt P 268 = (.inl 0, List.replicate 5 none) := by
  unfold skAt
  rw [if_neg (by decide)]
  exact (by decide +kernel : skB.getD 268 (.inl 0, []) = (.inl 0, List.replicate 5 none))
theorem h268 : (hO S Tw M P)[268]? = some (.inl (0, vec 5 (M 20))) := by
  rw [hO_M (c := 268) (by omega) (by omega) ty268, sk268]
  exact congrArg some (congrArg Sum.inl (congrArg (Prod.mk 0) (slotV_vec _ _)))
theorem p268 {e v : Int} : (hO S Tw M P).set 268 (.inl (0, vec 5 (fun i => if i = e then v else M 20 i))) = hO S Tw (wS M 20 e v) P := by
  rw [← wS_r]
  refine hO_setM (c := 268) (by omega) ty268 _ ?_
  rw [sk268]
  exact congrArg Sum.inl (congrArg (Prod.mk 0) (slotV_vec _ _).symm)
theorem q268 {g : Int → Int} : (hO S Tw M P).set 268 (.inl (0, vec 5 g)) = hO S Tw (rS M 20 g) P := by
  refine hO_setM (c := 268) (by omega) ty268 _ ?_
  rw [sk268]
  exact congrArg Sum.inl (congrArg (Prod.mk 0) (slotV_vec _ _).symm)
theorem ty269 : tyOf 269 = none := by decide +kernel
theorem sk269 : skAt P 269 = (.inl 0, List.replicate 5 none) := by
  unfold skAt
  rw [if_neg (by decide)]
  exact (by decide +kernel : skB.getD 269 (.inl 0, []) = (.inl 0, List.replicate 5 none))
theorem h269 : (hO S Tw M P)[269]? = some (.inl (0, vec 5 (M 21))) := by
  rw [hO_M (c := 269) (by omega) (by omega) ty269, sk269]
  exact congrArg some (congrArg Sum.inl (congrArg (Prod.mk 0) (slotV_vec _ _)))
theorem p269 {e v : Int} : (hO S Tw M P).set 269 (.inl (0, vec 5 (fun i => if i = e then v else M 21 i))) = hO S Tw (wS M 21 e v) P := by
  rw [← wS_r]
  refine hO_setM (c := 269) (by omega) ty269 _ ?_
  rw [sk269]
  exact congrArg Sum.inl (congrArg (Prod.mk 0) (slotV_vec _ _).symm)
theorem q269 {g : Int → Int} : (hO S Tw M P).set 269 (.inl (0, vec 5 g)) = hO S Tw (rS M 21 g) P := by
  refine hO_setM (c := 269) (by omega) ty269 _ ?_
  rw [sk269]
  exact congrArg Sum.inl (congrArg (Prod.mk 0) (slotV_vec _ _).symm)
theorem ty270 : tyOf 270 = none := by decide +kernel
theorem sk270 : skAt P 270 = (.inl 0, List.replicate 5 none) := by
  unfold skAt
  rw [if_neg (by decide)]
  exact (by decide +kernel : skB.getD 270 (.inl 0, []) = (.inl 0, List.replicate 5 none))
theorem h270 : (hO S Tw M P)[270]? = some (.inl (0, vec 5 (M 22))) := by
  rw [hO_M (c := 270) (by omega) (by omega) ty270, sk270]
  exact congrArg some (congrArg Sum.inl (congrArg (Prod.mk 0) (slotV_vec _ _)))
theorem p270 {e v : Int} : (hO S Tw M P).set 270 (.inl (0, vec 5 (fun i => if i = e then v else M 22 i))) = hO S Tw (wS M 22 e v) P := by
  rw [← wS_r]
  refine hO_setM (c := 270) (by omega) ty270 _ ?_
  rw [sk270]
  exact congrArg Sum.inl (congrArg (Prod.mk 0) (slotV_vec _ _).symm)
theorem q270 {g : Int → Int} : (hO S Tw M P).set 270 (.inl (0, vec 5 g)) = hO S Tw (rS M 22 g) P := by
  refine hO_setM (c := 270) (by omega) ty270 _ ?_
  rw [sk270]
  exact congrArg Sum.inl (congrArg (Prod.mk 0) (slotV_vec _ _).symm)
theorem ty271 : tyOf 271 = none := by decide +kernel
theorem sk271 : skAt P 271 = (.inl 0, List.replicate 5 none) := by
  unfold skAt
  rw [if_neg (by decide)]
  exact (by decide +kernel : skB.getD 271 (.inl 0, []) = (.inl 0, List.replicate 5 none))
theorem h271 : (hO S Tw M P)[271]? = some (.inl (0, vec 5 (M 23))) := by
  rw [hO_M (c := 271) (by omega) (by omega) ty271, sk271]
  exact congrArg some (congrArg Sum.inl (congrArg (Prod.mk 0) (slotV_vec _ _)))
theorem p271 {e v : Int} : (hO S Tw M P).set 271 (.inl (0, vec 5 (fun i => if i = e then v else M 23 i))) = hO S Tw (wS M 23 e v) P := by
  rw [← wS_r]
  refine hO_setM (c := 271) (by omega) ty271 _ ?_
  rw [sk271]
  exact congrArg Sum.inl (congrArg (Prod.mk 0) (slotV_vec _ _).symm)
theorem q271 {g : Int → Int} : (hO S Tw M P).set 271 (.inl (0, vec 5 g)) = hO S Tw (rS M 23 g) P := by
  refine hO_setM (c := 271) (by omega) ty271 _ ?_
  rw [sk271]
  exact congrArg Sum.inl (congrArg (Prod.mk 0) (slotV_vec _ _).symm)
theorem ty272 : tyOf 272 = none := by decide +kernel
theorem sk272 : skAt P 272 = (.inl 0, List.replicate 5 none) := by
  unfold skAt
  rw [if_neg (by decide)]
  exact (by decide +kernel : skB.getD 272 (.inl 0, []) = (.inl 0, List.replicate 5 none))
theorem h272 : (hO S Tw M P)[272]? = some (.inl (0, vec 5 (M 24))) := by
  rw [hO_M (c := 272) (by omega) (by omega) ty272, sk272]
  exact congrArg some (congrArg Sum.inl (congrArg (Prod.mk 0) (slotV_vec _ _)))
theorem p272 {e v : Int} : (hO S Tw M P).set 272 (.inl (0, vec 5 (fun i => if i = e then v else M 24 i))) = hO S Tw (wS M 24 e v) P := by
  rw [← wS_r]
  refine hO_setM (c := 272) (by omega) ty272 _ ?_
  rw [sk272]
  exact congrArg Sum.inl (congrArg (Prod.mk 0) (slotV_vec _ _).symm)
theorem q272 {g : Int → Int} : (hO S Tw M P).set 272 (.inl (0, vec 5 g)) = hO S Tw (rS M 24 g) P := by
  refine hO_setM (c := 272) (by omega) ty272 _ ?_
  rw [sk272]
  exact congrArg Sum.inl (congrArg (Prod.mk 0) (slotV_vec _ _).symm)
theorem ty273 : tyOf 273 = none := by decide +kernel
theorem sk273 : skAt P 273 = (.inl 0, List.replicate 8 none) := by
  unfold skAt
  rw [if_neg (by decide)]
  exact (by decide +kernel : skB.getD 273 (.inl 0, []) = (.inl 0, List.replicate 8 none))
theorem h273 : (hO S Tw M P)[273]? = some (.inl (0, vec 8 (M 25))) := by
  rw [hO_M (c := 273) (by omega) (by omega) ty273, sk273]
  exact congrArg some (congrArg Sum.inl (congrArg (Prod.mk 0) (slotV_vec _ _)))
theorem p273 {e v : Int} : (hO S Tw M P).set 273 (.inl (0, vec 8 (fun i => if i = e then v else M 25 i))) = hO S Tw (wS M 25 e v) P := by
  rw [← wS_r]
  refine hO_setM (c := 273) (by omega) ty273 _ ?_
  rw [sk273]
  exact congrArg Sum.inl (congrArg (Prod.mk 0) (slotV_vec _ _).symm)
theorem q273 {g : Int → Int} : (hO S Tw M P).set 273 (.inl (0, vec 8 g)) = hO S Tw (rS M 25 g) P := by
  refine hO_setM (c := 273) (by omega) ty273 _ ?_
  rw [sk273]
  exact congrArg Sum.inl (congrArg (Prod.mk 0) (slotV_vec _ _).symm)
theorem ty274 : tyOf 274 = none := by decide +kernel
theorem sk274 : skAt P 274 = (.inl 0, List.replicate 8 none) := by
  unfold skAt
  rw [if_neg (by decide)]
  exact (by decide +kernel : skB.getD 274 (.inl 0, []) = (.inl 0, List.replicate 8 none))
theorem h274 : (hO S Tw M P)[274]? = some (.inl (0, vec 8 (M 26))) := by
  rw [hO_M (c := 274) (by omega) (by omega) ty274, sk274]
  exact congrArg some (congrArg Sum.inl (congrArg (Prod.mk 0) (slotV_vec _ _)))
theorem p274 {e v : Int} : (hO S Tw M P).set 274 (.inl (0, vec 8 (fun i => if i = e then v else M 26 i))) = hO S Tw (wS M 26 e v) P := by
  rw [← wS_r]
  refine hO_setM (c := 274) (by omega) ty274 _ ?_
  rw [sk274]
  exact congrArg Sum.inl (congrArg (Prod.mk 0) (slotV_vec _ _).symm)
theorem q274 {g : Int → Int} : (hO S Tw M P).set 274 (.inl (0, vec 8 g)) = hO S Tw (rS M 26 g) P := by
  refine hO_setM (c := 274) (by omega) ty274 _ ?_
  rw [sk274]
  exact congrArg Sum.inl (congrArg (Prod.mk 0) (slotV_vec _ _).symm)
theorem ty275 : tyOf 275 = none := by decide +kernel
theorem sk275 : skAt P 275 = (.inl 0, List.replicate 8 none) := by
  unfold skAt
  rw [if_neg (by decide)]
  exact (by decide +kernel : skB.getD 275 (.inl 0, []) = (.inl 0, List.replicate 8 none))
theorem h275 : (hO S Tw M P)[275]? = some (.inl (0, vec 8 (M 27))) := by
  rw [hO_M (c := 275) (by omega) (by omega) ty275, sk275]
  exact congrArg some (congrArg Sum.inl (congrArg (Prod.mk 0) (slotV_vec _ _)))
theorem p275 {e v : Int} : (hO S Tw M P).set 275 (.inl (0, vec 8 (fun i => if i = e then v else M 27 i))) = hO S Tw (wS M 27 e v) P := by
  rw [← wS_r]
  refine hO_setM (c := 275) (by omega) ty275 _ ?_
  rw [sk275]
  exact congrArg Sum.inl (congrArg (Prod.mk 0) (slotV_vec _ _).symm)
theorem q275 {g : Int → Int} : (hO S Tw M P).set 275 (.inl (0, vec 8 g)) = hO S Tw (rS M 27 g) P := by
  refine hO_setM (c := 275) (by omega) ty275 _ ?_
  rw [sk275]
  exact congrArg Sum.inl (congrArg (Prod.mk 0) (slotV_vec _ _).symm)
theorem ty276 : tyOf 276 = none := by decide +kernel
theorem sk276 : skAt P 276 = (.inl 0, List.replicate 8 none) := by
  unfold skAt
  rw [if_neg (by decide)]
  exact (by decide +kernel : skB.getD 276 (.inl 0, []) = (.inl 0, List.replicate 8 none))
theorem h276 : (hO S Tw M P)[276]? = some (.inl (0, vec 8 (M 28))) := by
  rw [hO_M (c := 276) (by omega) (by omega) ty276, sk276]
  exact congrArg some (congrArg Sum.inl (congrArg (Prod.mk 0) (slotV_vec _ _)))
theorem p276 {e v : Int} : (hO S Tw M P).set 276 (.inl (0, vec 8 (fun i => if i = e then v else M 28 i))) = hO S Tw (wS M 28 e v) P := by
  rw [← wS_r]
  refine hO_setM (c := 276) (by omega) ty276 _ ?_
  rw [sk276]
  exact congrArg Sum.inl (congrArg (Prod.mk 0) (slotV_vec _ _).symm)
theorem q276 {g : Int → Int} : (hO S Tw M P).set 276 (.inl (0, vec 8 g)) = hO S Tw (rS M 28 g) P := by
  refine hO_setM (c := 276) (by omega) ty276 _ ?_
  rw [sk276]
  exact congrArg Sum.inl (congrArg (Prod.mk 0) (slotV_vec _ _).symm)
theorem ty277 : tyOf 277 = none := by decide +kernel
theorem sk277 : skAt P 277 = (.inl 1, List.replicate 8 none) := by
  unfold skAt
  rw [if_neg (by decide)]
  exact (by decide +kernel : skB.getD 277 (.inl 0, []) = (.inl 1, List.replicate 8 none))
theorem h277 : (hO S Tw M P)[277]? = some (.inl (1, vec 8 (M 29))) := by
  rw [hO_M (c := 277) (by omega) (by omega) ty277, sk277]
  exact congrArg some (congrArg Sum.inl (congrArg (Prod.mk 1) (slotV_vec _ _)))
theorem p277 {e v : Int} : (hO S Tw M P).set 277 (.inl (1, vec 8 (fun i => if i = e then v else M 29 i))) = hO S Tw (wS M 29 e v) P := by
  rw [← wS_r]
  refine hO_setM (c := 277) (by omega) ty277 _ ?_
  rw [sk277]
  exact congrArg Sum.inl (congrArg (Prod.mk 1) (slotV_vec _ _).symm)
theorem q277 {g : Int → Int} : (hO S Tw M P).set 277 (.inl (1, vec 8 g)) = hO S Tw (rS M 29 g) P := by
  refine hO_setM (c := 277) (by omega) ty277 _ ?_
  rw [sk277]
  exact congrArg Sum.inl (congrArg (Prod.mk 1) (slotV_vec _ _).symm)
theorem ty278 : tyOf 278 = none := by decide +kernel
theorem sk278 : skAt P 278 = (.inl 0, List.replicate 3 none) := by
  unfold skAt
  rw [if_neg (by decide)]
  exact (by decide +kernel : skB.getD 278 (.inl 0, []) = (.inl 0, List.replicate 3 none))
theorem h278 : (hO S Tw M P)[278]? = some (.inl (0, vec 3 (M 30))) := by
  rw [hO_M (c := 278) (by omega) (by omega) ty278, sk278]
  exact congrArg some (congrArg Sum.inl (congrArg (Prod.mk 0) (slotV_vec _ _)))
theorem p278 {e v : Int} : (hO S Tw M P).set 278 (.inl (0, vec 3 (fun i => if i = e then v else M 30 i))) = hO S Tw (wS M 30 e v) P := by
  rw [← wS_r]
  refine hO_setM (c := 278) (by omega) ty278 _ ?_
  rw [sk278]
  exact congrArg Sum.inl (congrArg (Prod.mk 0) (slotV_vec _ _).symm)
theorem q278 {g : Int → Int} : (hO S Tw M P).set 278 (.inl (0, vec 3 g)) = hO S Tw (rS M 30 g) P := by
  refine hO_setM (c := 278) (by omega) ty278 _ ?_
  rw [sk278]
  exact congrArg Sum.inl (congrArg (Prod.mk 0) (slotV_vec _ _).symm)
theorem ty279 : tyOf 279 = none := by decide +kernel
theorem sk279 : skAt P 279 = (.inl 0, List.replicate 5 none) := by
  unfold skAt
  rw [if_neg (by decide)]
  exact (by decide +kernel : skB.getD 279 (.inl 0, []) = (.inl 0, List.replicate 5 none))
theorem h279 : (hO S Tw M P)[279]? = some (.inl (0, vec 5 (M 31))) := by
  rw [hO_M (c := 279) (by omega) (by omega) ty279, sk279]
  exact congrArg some (congrArg Sum.inl (congrArg (Prod.mk 0) (slotV_vec _ _)))
theorem p279 {e v : Int} : (hO S Tw M P).set 279 (.inl (0, vec 5 (fun i => if i = e then v else M 31 i))) = hO S Tw (wS M 31 e v) P := by
  rw [← wS_r]
  refine hO_setM (c := 279) (by omega) ty279 _ ?_
  rw [sk279]
  exact congrArg Sum.inl (congrArg (Prod.mk 0) (slotV_vec _ _).symm)
theorem q279 {g : Int → Int} : (hO S Tw M P).set 279 (.inl (0, vec 5 g)) = hO S Tw (rS M 31 g) P := by
  refine hO_setM (c := 279) (by omega) ty279 _ ?_
  rw [sk279]
  exact congrArg Sum.inl (congrArg (Prod.mk 0) (slotV_vec _ _).symm)
end HC
