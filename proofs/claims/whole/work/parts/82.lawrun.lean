/-! the law's start; the law's run -/
theorem boot_call : ∃ h1 : GH, h1.length = 248 ∧ CallD 40 82 [.ref 0] ([Sum.inr (11, dfl 11)] : GH) (fun v h => v = none ∧ h = h1) ∧ CallD 40 113 [.ref 248] (h1 ++ ([Sum.inr (12, dfl 12)] : GH)) (fun v h => v = none ∧ h = hO S00 T00 M00 P00) := by
  obtain ⟨h1, e1, e2, e3⟩ := bootF_ok boot_ok
  have d1 : ∀ pc e, decI 82 pc = some e → decode cX11_init pc = .ok e := fun pc e q => lkD_ok _ aX11 pc e q
  have d2 : ∀ pc e, decI 113 pc = some e → decode cX12_init pc = .ok e := fun pc e q => lkD_ok _ aX12 pc e q
  unfold boot1 at e1
  unfold boot2 at e3
  have g1 := gRun_ok infI_ok _ _ _ _ _ _ _ _ _ _ _ _ _ d1 e1
  have g2 := gRun_ok infI_ok _ _ _ _ _ _ _ _ _ _ _ _ _ d2 e3
  have l1 : (h1 ++ [(Sum.inr (12, dfl 12) : GC)]).length = 249 := by rw [List.length_append, e2]; rfl
  refine ⟨h1, e2, g_enter e_X11_init i_X11_init (by decide) rfl g1, g_enter e_X12_init i_X12_init (by decide) rfl ?_⟩
  rw [l1]
  exact g2
theorem rel_start : Rel S00 T00 M00 P00 0 := by
  refine ⟨⟨⟨by decide, by decide, fun i a b => ⟨show (0 : Int) ≤ 0 by decide, show (0 : Int) ≤ 255 by decide⟩⟩, rfl, fun j a b => rfl⟩, ⟨⟨by decide, by decide, fun p a b => ?_⟩, rfl, fun p a b => ?_⟩, ⟨⟨⟨by decide, by decide, fun k a b => ⟨show (0 : Int) ≤ 5 by decide, show (0 : Int) ≤ 0 by decide, show (5 : Int) + 0 ≤ 10 by decide, show (0 : Int) ≤ 0 by decide⟩, by decide⟩, fun p a b => ?_, fun p a b => ?_⟩, ⟨rfl, rfl, fun k a b => ⟨rfl, rfl, rfl⟩, fun p a b => ?_⟩⟩, ⟨⟨fun j hj => ?_, fun i j hi hj hij => ?_⟩, by decide, rfl, fun i a b => ?_⟩, fun s a b => ⟨Or.inl rfl, rfl, fun q => absurd (show (0 : Int) = 1 from q) (by decide)⟩, ⟨by decide, by decide, fun i a b => ?_⟩, rfl, fun i a b => ?_⟩
  · exact absurd (Int.lt_of_le_of_lt a b) (by decide)
  · exact absurd (Int.lt_of_le_of_lt a b) (by decide)
  · exact absurd (Int.lt_of_le_of_lt a b) (by decide)
  · exact absurd (Int.lt_of_le_of_lt a b) (by decide)
  · exact absurd (Int.lt_of_le_of_lt a b) (by decide)
  · show 1 ≤ j + 1 ∧ j + 1 ≤ 12; omega
  · have : i + 1 = j + 1 := hij
    omega
  · exact absurd (Int.lt_of_le_of_lt a b) (by decide)
  · exact absurd (Int.lt_of_le_of_lt a b) (by decide)
  · exact absurd (Int.lt_of_le_of_lt a b) (by decide)
set_option maxRecDepth 10000 in
theorem law_run (l : List Int32) (h : l.length ≤ 3072) : ∃ k, GoF (CallD 40) (some l) 14 false ret 280 9000 0 code (fun v _ => v = some (.int 1)) k 0 (gent 4 [.retAddr 0]) [] [] 0 := by
  obtain ⟨hh, hl, c1, c2⟩ := boot_call
  have n11 : (dfl 11).length = 11 := by decide +kernel
  have n12 : (dfl 12).length = 43 := by decide +kernel
  have k11 : cM 82 = 247 ∧ sM 82 = 3000 := ⟨rfl, rfl⟩
  have k12 : cM 113 = 31 ∧ sM 113 = 1000 := ⟨rfl, rfl⟩
  show G (some l) 40 14 false ret 280 9000 0 code (fun v _ => v = some (.int 1)) 0 0 (gent 4 [.retAddr 0]) [] []
  have a1 : gHp (some l) 14 false (.new 7) [] [] = some (([Sum.inr (11, dfl 11)] : GH), [Value.ref 0], 3, 1, (dfl 11).length) := by
    show (match cT 14 7 with | some ci => some (([] : GH) ++ ([Sum.inr (ci, dfl ci)] : GH), Value.ref ([] : GH).length :: [], 3, 1, (dfl ci).length) | none => none) = _
    rw [show cT 14 7 = some 11 by decide +kernel]
    rfl
  refine g_hpB dL_law_0 a1 (Or.inr ⟨by simp, by rw [n11]; decide⟩) rfl ?_
  refine g_s dL_law_3 (stk' := [.ref 0, .ref 0]) rfl rfl rfl ?_
  have a2 : ∀ hp : GH, gCall 14 (.invokespecial 9) hp [.ref 0, .ref 0] = some (82, [.ref 0], [.ref 0]) := by
    intro hp
    have hm : mT 14 9 = some (82, 2) := by decide +kernel
    unfold gCall
    simp only [hm]
    rfl
  refine g_callB dL_law_4 (a2 _) (Or.inr ⟨by rw [k11.1]; decide, by rw [k11.2, n11]; decide⟩) rfl (CallD_mono _ _ _ _ _ _ (fun v2 h2 q => ?_) c1)
  obtain ⟨rfl, e⟩ := q
  rw [e]
  refine g_l (loc' := [some _, some _, _, _]) dL_law_7 rfl rfl ?_
  have a3 : gHp (some l) 14 false (.new 10) hh [] = some (hh ++ ([Sum.inr (12, dfl 12)] : GH), [Value.ref 248], 3, 1, (dfl 12).length) := by
    show (match cT 14 10 with | some ci => some (hh ++ ([Sum.inr (ci, dfl ci)] : GH), Value.ref hh.length :: [], 3, 1, (dfl ci).length) | none => none) = _
    rw [show cT 14 10 = some 12 by decide +kernel, hl]
  refine g_hpB dL_law_8 a3 (Or.inr ⟨by rw [hl]; decide, by rw [n12, k11.2, n11]; decide⟩) rfl ?_
  refine g_s dL_law_11 (stk' := [.ref 248, .ref 248]) rfl rfl rfl ?_
  have a4 : ∀ hp : GH, gCall 14 (.invokespecial 12) hp [.ref 248, .ref 248] = some (113, [.ref 248], [.ref 248]) := by
    intro hp
    have hm : mT 14 12 = some (113, 2) := by decide +kernel
    unfold gCall
    simp only [hm]
    rfl
  have l1 : (hh ++ [(Sum.inr (12, dfl 12) : GC)]).length = 249 := by rw [List.length_append, hl]; rfl
  refine g_callB dL_law_12 (a4 _) (Or.inr ⟨by rw [l1, k12.1]; decide, by rw [k12.2, n12, k11.2, n11]; decide⟩) rfl (CallD_mono _ _ _ _ _ _ (fun v2 h2 q => ?_) c2)
  obtain ⟨rfl, e⟩ := q
  rw [e]
  refine g_l (loc' := [some _, some _, some _, _]) dL_law_15 rfl rfl ?_
  refine g_iconst dL_law_16 rfl ?_
  refine g_l (loc' := [some _, some _, some _, some _]) dL_law_17 rfl rfl ?_
  exact law_loop l h (3078 - 0 : Int).toNat 0 0 S00 T00 M00 P00 (by decide) (by decide) rfl (by decide) rel_start
