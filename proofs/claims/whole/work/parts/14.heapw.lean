/-! The machine does what the ghost machine does over its heap -/
def kMM (dA : Nat → ClassId) (U : State) : Prop := ∃ k : Class, U.vm.classes[dA 3]? = some k ∧ k.kind = .array (dA 0) (.array .int)
theorem kMM.moved {dA : Nat → ClassId} {u U : State} (hvm : u.vm.Alike U.vm) (h : kMM dA u) : kMM dA U := by
  obtain ⟨k, h1, h2⟩ := h
  obtain ⟨k', hk', he⟩ := hvm.2.2 _ _ h1
  exact ⟨k', hk', by rw [he]; exact h2⟩
def KK (D : va_G) (dA : Nat → ClassId) (U : State) : Prop := va_K D vwCl (tysO dA) U ∧ va_AO "OvensAbove$Tower" U ∧ kMM dA U ∧ va_Nw (.methodLinkNest RX11 9 yX7_init "OvensAbove") U ∧ va_Nw (.methodLinkNest RX11 18 yX5_init "OvensAbove") U ∧ va_Nw (.methodLinkNest RX11 25 yX8_init "OvensAbove") U
section GHW
variable {p : Program} {l : Launch} {e : Env} {R : Room} {s : State} {m : MethodId} {args : Array Value} {below : List Frame} {meth : Method} {c : Code} {H : Heap} {locs : List Loc} {cells slots : Nat} {Q : State → Prop}
variable {cc : ByteArray} {pc : Nat} {ls : Array Slot}
theorem W.bnd {g : JFrame} (k : H.size ≤ s.heap.size + cells → W p l e R s m args below meth c H locs cells slots Q g) : W p l e R s m args below meth c H locs cells slots Q g := fun T hT X => k (hT ▸ X.heapSize) T hT X
theorem new_at {base b : Nat} {D : va_G} {dA : Nat → ClassId} {hp : GH} {H H1 : Heap} {q : Nat} {z : va_E} (hP1 : va_P D vwCl (wsO base b dA hp ++ [(q, z)]) H1) (hD1 : va_D (fun q => base ≤ q) (wsO base b dA hp ++ [(q, z)])) (hle : H1.size ≤ base + hp.length + 1) : q = base + hp.length ∧ H1.size = base + hp.length + 1 := by
  have hl : (wsO base b dA hp).length = hp.length := by simp [wsO]
  have hq : (wsO base b dA hp ++ [(q, z)])[hp.length]? = some (q, z) := by rw [List.getElem?_append_right (by omega), hl, Nat.sub_self]; rfl
  have h1 := (hP1 _ _ hq).lt
  have h2 : base ≤ q := hD1.2 _ _ hq
  have h3 : q = base + hp.length := by
    refine Nat.le_antisymm (by simp only at h1; omega) (Nat.le_of_not_lt fun h => ?_)
    have hi : q - base < hp.length := by omega
    have h4 : (wsO base b dA hp ++ [(q, z)])[q - base]? = some (base + (q - base), reC base b dA hp[q - base]) := by
      rw [List.getElem?_append_left (by omega)]
      exact wsO_get (List.getElem?_eq_getElem hi)
    have := hD1.1 _ _ _ _ h4 hq (show base + (q - base) = q by omega)
    omega
  exact ⟨h3, by simp only at h1; omega⟩
theorem reA_set {base kd j : Nat} {vs : List Value} {v : Value} (hj : j < vs.length) (hk : kd ≤ 1) : reA base kd (vs.set j v) = (vs.length, .inl (upd (fun j => ival (vs.getD j .null)) j (ival v))) := by
  unfold reA
  rw [if_pos hk, List.length_set]
  refine congrArg (fun f => (vs.length, Sum.inl f)) (funext fun i => ?_)
  unfold upd
  by_cases hi : i = j
  · subst hi
    simp [hj]
  · simp [hi, List.getElem?_set_ne (Ne.symm hi)]
theorem reA_setq {base kd j r : Nat} {vs : List Value} (hj : j < vs.length) (hk : ¬ kd ≤ 1) : reA base kd (vs.set j (.ref r)) = (vs.length, .inr (.inr (.inr (.inr (va_up (fun j => orf base (vs.getD j .null)) j (some (base + r))))))) := by
  unfold reA
  rw [if_neg hk, List.length_set]
  refine congrArg (fun f => (vs.length, Sum.inr (Sum.inr (Sum.inr (Sum.inr f))))) (funext fun i => ?_)
  unfold va_up
  by_cases hi : i = j
  · subst hi
    simp [hj, orf]
  · simp [hi, List.getElem?_set_ne (Ne.symm hi)]
theorem reA_new {base kd k : Nat} {cA : ClassId} (hk : kd ≤ 1) : vp_cell cA (reA base kd (List.replicate k (.int 0))) = arrV cA k (fun _ => .int 0) := by
  unfold reA
  rw [if_pos hk, List.length_replicate, vp_cell_i]
  refine congrArg (arrV cA k) (funext fun j => ?_)
  by_cases hj : j < k
  · simp [hj, ival]
  · simp [hj, ival]
theorem va_S_chain {base : Nat} {H0 H H1 : Heap} {locs locs1 : List Loc} (h : va_S (fun q => base ≤ q) H0 H locs) (h1 : va_S (fun q => base ≤ q) H H1 locs1) : va_S (fun q => base ≤ q) H0 H1 locs1 :=
  ⟨Nat.le_trans h.1 h1.1, fun q g1 g2 => (h1.2.1 q (Nat.lt_of_lt_of_le g1 h.1) g2).trans (h.2.1 q g1 g2), h1.2.2⟩
theorem va_S_here {base : Nat} {H0 H : Heap} {locs : List Loc} (h : va_S (fun q => base ≤ q) H0 H locs) : va_S (fun q => base ≤ q) H H locs := ⟨Nat.le_refl _, fun _ _ _ => rfl, h.2.2⟩
theorem Sm.of_set {base b : Nat} {D : va_G} {dA : Nat → ClassId} {hp : GH} {H H1 : Heap} {a : Nat} {x : GC} (h : Sm base b D dA hp H) (hP : va_P D vwCl ((wsO base b dA hp).set a (base + a, reC base b dA x)) H1) (h1 : H.size ≤ H1.size) (h2 : H1.size ≤ H.size) : Sm base b D dA (hp.set a x) H1 := by
  rw [wsO_set] at hP
  exact ⟨by rw [List.length_set, ← h.1]; omega, hP⟩
theorem Sm.of_new {base b : Nat} {D : va_G} {dA : Nat → ClassId} {hp : GH} {H1 : Heap} {q : Nat} {x : GC} (hP : va_P D vwCl (wsO base b dA hp ++ [(q, reC base b dA x)]) H1) (hD : va_D (fun q => base ≤ q) (wsO base b dA hp ++ [(q, reC base b dA x)])) (hle : H1.size ≤ base + hp.length + 1) : q = base + hp.length ∧ Sm base b D dA (hp ++ [x]) H1 := by
  obtain ⟨h1, h2⟩ := new_at (H := H1) hP hD hle
  subst h1
  rw [wsO_app] at hP
  exact ⟨rfl, by rw [List.length_append, h2]; rfl, hP⟩
set_option maxHeartbeats 8000000 in
theorem gHp_W (hexec : p.tables.exec = Jvm.exec) (hb : c.code = cc) {base b cn nL : Nat} {D : va_G} {dA : Nat → ClassId} {xs : Option (List Int32)} {ini : Bool} (hml : c.maxLocals = nL) (hls : ls.size = nL)
    (hown : s.vm.findClass (RR cn) = some m.cls) (hts : ∀ w ∈ TT, w.before args s = true) (hK : KK D dA s) (hini : ini = true → meth.name = "<init>")
    (hX : ∀ l, xs = some l → va_X b l.length (fun j => l.getD j 0) s s.heap ∧ b < s.heap.size ∧ b < base) (hR : 1 ≤ R.frames ∧ 100 ≤ R.locals) (hb0 : base ≤ s.heap.size)
    {ins : Instr} {hp hp' : GH} {stk stk' : List Value} {len dc ds : Nat} (ha : gHp xs cn ini ins hp stk = some (hp', stk', len, dc, ds)) (hdg : decode cc pc = .ok (ins, len))
    (hsm : Sm base b D dA hp H) (hS : va_S (fun q => base ≤ q) s.heap H locs) (hn : base + hp.length = s.heap.size + cells) (hc1 : cells + dc ≤ R.cells) (hc2 : slots + ds ≤ R.slots)
    (k : ∀ H' locs', Sm base b D dA hp' H' → va_S (fun q => base ≤ q) s.heap H' locs' → base + hp'.length = s.heap.size + (cells + dc) → W p l e R s m args below meth c H' locs' (cells + dc) (slots + ds) Q (F0 m (pc + len) ls (stk'.map (reV base b)))) :
    W p l e R s m args below meth c H locs cells slots Q (F0 m pc ls (stk.map (reV base b))) := by
  have hD := wsO_D (base := base) (b := b) (dA := dA) (hp := hp)
  have hP := hsm.2
  have hA : ∀ q : Nat, s.heap.size ≤ q → base ≤ q := fun q h => Nat.le_trans hb0 h
  have hS0 := va_S_here hS
  have hsz : H.size = s.heap.size + cells := hsm.1.trans hn
  have put : ∀ (a : Nat) (x : GC), hp' = hp.set a x → dc = 0 → ds = 0 → ∀ (H1 : Heap) (locs1 : List Loc) (pc1 : Nat), pc1 = pc + len → va_P D vwCl ((wsO base b dA hp).set a (base + a, reC base b dA x)) H1 → va_S (fun q => base ≤ q) H H1 locs1 → W p l e R s m args below meth c H1 locs1 cells slots Q (F0 m pc1 ls (stk'.map (reV base b))) := by
    intro a x hh h0 h1 H1 locs1 pc1 hpc hP1 hS1
    subst hh h0 h1 hpc
    refine W.bnd fun hbd => ?_
    exact k H1 locs1 (hsm.of_set hP1 hS1.1 (by omega)) (va_S_chain hS hS1) (by rw [List.length_set]; exact hn)
  unfold gHp at ha
  split at ha
  · -- getfield
    split at ha
    · split at ha
      · rename_i e1 e2
        split at ha
        · rename_i hci
          subst hci
          split at ha
          · rename_i v hv
            cases ha
            obtain ⟨C, T, N, g1, g2, g3⟩ := fT_ok e2
            obtain ⟨i1, -⟩ := cls_ok g1
            exact va_get hexec hb hts i1 hown hK.1 hP _ (wsO_get e1) g1 _ g2 (hts _ g3) (fun _ h => h) (by rw [List.getElem?_map, hv]; rfl) hdg (k _ _ hsm hS hn)
          · cases ha
        · cases ha
      · cases ha
    · cases ha
  · -- putfield
    split at ha
    · split at ha
      · rename_i v a st _ _ ci fs ci' kf e1 e2
        split at ha
        · rename_i hc
          obtain ⟨rfl, hkl, hty, hfi⟩ := hc
          cases ha
          obtain ⟨C, T, N, g1, g2, g3⟩ := fT_ok e2
          obtain ⟨i1, -, -, i2, i3, i4, i5⟩ := cls_ok g1
          obtain ⟨f1, f2⟩ := fty_ok base b hty
          have hfin : fin ci kf = (T kf).2.2.2 := by unfold fin; rw [g1]
          have hset : reC base b dA (.inr (ci, fs.set kf v)) = .inr (ci, (fs.map (reV base b)).set kf (reV base b v)) := by simp [reC, List.map_set]
          cases hf : (T kf).2.2.2 with
          | false =>
            exact va_put hexec hb hts i1 (tyC ci) i2 i3 hown hK.1 hP hD hS0 _ (wsO_get e1) g1 _ g2 (hts _ g3) (fun _ h => h) hf (i2 _ g2) f1 f2 (by rw [List.length_map]; exact hkl) hdg (fun H1 locs1 hP1 _ hS1 => put a _ rfl rfl rfl H1 locs1 _ rfl (by rw [hset]; exact hP1) hS1)
          | true =>
            obtain ⟨j1, j2⟩ := hfi (by rw [hfin, hf])
            subst j2
            exact va_putF hexec hb hts i1 (tyC cn) i2 i3 hown hK.1 hP hD hS0 _ (wsO_get e1) g1 _ g2 (hts _ g3) (fun _ h => h) hf (hini j1) (by rw [i4 _ g2, i5]) (i2 _ g2) f1 f2 (by rw [List.length_map]; exact hkl) hdg (fun H1 locs1 hP1 _ hS1 => put a _ rfl rfl rfl H1 locs1 _ rfl (by rw [hset]; exact hP1) hS1)
        · cases ha
      · cases ha
    · cases ha
  · -- iaload
    split at ha
    · split at ha
      · rename_i i a st _ vs e1
        split at ha
        · rename_i j hj
          split at ha
          · rename_i x hx
            cases ha
            obtain ⟨g1, g2, g3⟩ := ix_in hj
            refine va_iald hexec hb hK.1 hP a 0 (wsO_get e1) rfl g1 hdg ?_
            have e : ival (vs.getD i.toNatClampNeg .null) = x := by rw [g2, List.getD_eq_getElem?_getD, hx]; rfl
            rw [e]
            exact k _ _ hsm hS hn
          · cases ha
        · cases ha
      · cases ha
    · split at ha
      · rename_i l1 _
        split at ha
        · rename_i j hj
          cases ha
          obtain ⟨g1, g2, g3⟩ := ix_in hj
          obtain ⟨h1, h2, h3⟩ := hX _ rfl
          refine va_sld hexec hb h1 h2 (Nat.not_le.mpr h3) hS g1 hdg ?_
          rw [g2]
          exact k _ _ hsm hS hn
        · cases ha
      · cases ha
    · cases ha
  · -- baload
    split at ha
    · split at ha
      · rename_i i a st _ vs e1
        split at ha
        · rename_i j hj
          split at ha
          · rename_i x hx
            cases ha
            obtain ⟨g1, g2, g3⟩ := ix_in hj
            refine va_zald hexec hb hK.1 hP a 1 (wsO_get e1) rfl g1 hdg ?_
            have e : ival (vs.getD i.toNatClampNeg .null) = x := by rw [g2, List.getD_eq_getElem?_getD, hx]; rfl
            rw [e]
            exact k _ _ hsm hS hn
          · cases ha
        · cases ha
      · cases ha
    · cases ha
  · -- aaload
    split at ha
    · split at ha
      · rename_i i a st _ kd vs e1
        split at ha
        · rename_i hkd
          split at ha
          · rename_i j hj
            split at ha
            · rename_i x hx
              cases ha
              obtain ⟨g1, g2, g3⟩ := ix_in hj
              have e : va_rf (orf base (vs.getD i.toNatClampNeg .null)) = .ref (base + x) := by rw [g2, List.getD_eq_getElem?_getD, hx]; rfl
              have hlt : i.toNatClampNeg < vs.length := by omega
              have hw := hP a _ (wsO_get (base := base) (b := b) (dA := dA) e1)
              have hkn : ¬ kd ≤ 1 := by omega
              have hre : reC base b dA (.inl (kd, vs)) = .inl (dA kd, vs.length, .inr (.inr (.inr (.inr (fun j => orf base (vs.getD j .null)))))) := by dsimp only [reC, reA]; rw [if_neg hkn]
              rw [hre] at hw
              rcases hkd with rfl | rfl
              · exact va_aldq hexec hb hK.1 hP a 2 (hre ▸ wsO_get e1) rfl g1 hdg (by rw [e]; exact k _ _ hsm hS hn)
              · exact W.aald (v := va_rf (orf base (vs.getD i.toNatClampNeg .null))) (ty := .array .int) hexec hb hw ((hK.1.2 3 _ rfl).1 vs.length (fun j => va_rf (orf base (vs.getD j .null)))) rfl (fun q => by cases q) (by show ¬ (i < 0 ∨ (arrV _ _ _).slots.size ≤ _); rw [arrV_size]; exact g1) (by show (arrV _ _ _).slots[_]? = _; rw [arrV_read _ _ hlt]) rfl rfl hdg (by rw [e]; exact k _ _ hsm hS hn)
            · cases ha
          · cases ha
        · cases ha
      · cases ha
    · cases ha
  · -- iastore
    split at ha
    · split at ha
      · rename_i x i a st _ vs e1
        split at ha
        · rename_i j hj
          cases ha
          obtain ⟨g1, g2, g3⟩ := ix_in hj
          refine va_iast hexec hb hK.1 hP hD hS0 a 0 (wsO_get e1) rfl g1 hdg (fun H1 locs1 hP1 _ hS1 => put a _ rfl rfl rfl H1 locs1 _ rfl (?_ : va_P D vwCl ((wsO base b dA hp).set a (base + a, reC base b dA (.inl (0, vs.set j (.int x))))) H1) hS1)
          rw [show reC base b dA (.inl (0, vs.set j (.int x))) = .inl (dA 0, reA base 0 (vs.set j (.int x))) from rfl, reA_set g3 (by omega), ← g2]
          exact hP1
        · cases ha
      · cases ha
    · cases ha
  · -- bastore
    split at ha
    · split at ha
      · rename_i x i a st _ vs e1
        split at ha
        · rename_i j hj
          split at ha
          · rename_i hx
            cases ha
            obtain ⟨g1, g2, g3⟩ := ix_in hj
            have hnar : vp_nar .boolean x = x := by rcases hx with rfl | rfl <;> decide
            refine va_zast hexec hb hK.1 hP hD hS0 a 1 (wsO_get e1) rfl g1 hdg (fun H1 locs1 hP1 _ hS1 => put a _ rfl rfl rfl H1 locs1 _ rfl (?_ : va_P D vwCl ((wsO base b dA hp).set a (base + a, reC base b dA (.inl (1, vs.set j (.int x))))) H1) hS1)
            rw [show reC base b dA (.inl (1, vs.set j (.int x))) = .inl (dA 1, reA base 1 (vs.set j (.int x))) from rfl, reA_set g3 (by omega), ← g2]
            rw [hnar] at hP1
            exact hP1
          · cases ha
        · cases ha
      · cases ha
    · cases ha
  · -- aastore
    split at ha
    · split at ha
      · rename_i r i a st _ _ vs fs e1 e2
        split at ha
        · rename_i j hj
          cases ha
          obtain ⟨g1, g2, g3⟩ := ix_in hj
          refine va_astq hexec hb hK.1 hP hD hS0 a 2 r 9 (wsO_get e1) (r := (RX9, TX9, 2)) rfl (wsO_get e2) rfl g1 hdg (fun H1 locs1 hP1 _ hS1 => put a _ rfl rfl rfl H1 locs1 _ rfl (?_ : va_P D vwCl ((wsO base b dA hp).set a (base + a, reC base b dA (.inl (2, vs.set j (.ref r))))) H1) hS1)
          rw [show reC base b dA (.inl (2, vs.set j (.ref r))) = .inl (dA 2, reA base 2 (vs.set j (.ref r))) from rfl, reA_setq g3 (by omega), ← g2]
          exact hP1
        · cases ha
      · cases ha
    · cases ha
  · -- arraylength
    split at ha
    · split at ha
      · cases ha
        obtain ⟨h1, h2, h3⟩ := hX _ rfl
        exact va_slen hexec hb h1 h2 (Nat.not_le.mpr h3) hS hdg (k _ _ hsm hS hn)
      · cases ha
    · cases ha
  · -- new
    split at ha
    · rename_i ci e1
      cases ha
      obtain ⟨C, T, N, g1, g2⟩ := cT_ok e1
      obtain ⟨i1, i0, i00, i2, i3, i4, i5⟩ := cls_ok g1
      have hdfl : dfl ci = (List.range N).map (fun k => defaultValue (tyC ci k)) := by unfold dfl; rw [g1]
      have hlen : (dfl ci).length = N := by rw [hdfl]; simp
      have hdv : ∀ ty : FieldType, reV base b (defaultValue ty) = defaultValue ty := fun ty => by cases ty <;> rfl
      rw [hlen] at hc2 k
      refine va_new (fs := (dfl ci).map (reV base b)) hexec hb hts i1 (tyC ci) i2 hown (hts _ g2) (hts _ i0) (hts _ i00) hK.1 hP hD hS0 (fun q h => Nat.le_trans (by omega) h) g1 (fun j hj => ?_) hc1 hc2 hdg (fun q H1 hP1 hD1 hS1 => ?_)
      · rw [hdfl]
        simp [vp_V, hj, hdv]
      · refine W.bnd fun hbd => ?_
        obtain ⟨rfl, hsm1⟩ := Sm.of_new (b := b) (dA := dA) (x := .inr (ci, dfl ci)) hP1 hD1 (by omega)
        exact k H1 locs hsm1 (va_S_chain hS hS1) (by rw [List.length_append]; show base + (hp.length + 1) = _; omega)
    · cases ha
  · -- newarray
    split at ha
    · rename_i n st
      split at ha
      · rename_i kk hkk
        cases ha
        obtain ⟨g1, g2, g3⟩ := ix_in hkk
        have hneg : ¬ n < 0 := fun q => g1 (Or.inl q)
        refine va_newa (atype := .int) (ty := .int) (a0 := reA base 0 (List.replicate ds (.int 0))) hexec hb (hts _ w_arI) rfl hK.1 hP hD hS0 (fun q h => Nat.le_trans (by omega) h) (fun cA => reA_new (by omega)) hneg g2 (by show ds * 4 ≤ _; omega) hc1 hc2 hdg (fun q cA H1 hK1 hP1 hD1 hS1 => ?_)
        have hcA : cA = dA 0 := by
          have z1 : s.vm.findClass ("[" ++ FieldType.int.toString) = some cA := (hK1.2 4 (cA, .int) rfl).2
          have z2 : s.vm.findClass ("[" ++ FieldType.int.toString) = some (dA 0) := (hK.1.2 0 _ rfl).2
          exact Option.some.inj (z1.symm.trans z2)
        subst hcA
        refine W.bnd fun hbd => ?_
        obtain ⟨rfl, hsm1⟩ := Sm.of_new (b := b) (dA := dA) (x := .inl (0, List.replicate ds (.int 0))) hP1 hD1 (by omega)
        exact k H1 locs hsm1 (va_S_chain hS hS1) (by rw [List.length_append]; show base + (hp.length + 1) = _; omega)
      · rename_i kk hkk
        cases ha
        obtain ⟨g1, g2, g3⟩ := ix_in hkk
        have hneg : ¬ n < 0 := fun q => g1 (Or.inl q)
        refine va_newa (atype := .boolean) (ty := .boolean) (a0 := reA base 1 (List.replicate ds (.int 0))) hexec hb (hts _ w_arZ) rfl hK.1 hP hD hS0 (fun q h => Nat.le_trans (by omega) h) (fun cA => reA_new (by omega)) hneg g2 (by show ds * 1 ≤ _; omega) hc1 hc2 hdg (fun q cA H1 hK1 hP1 hD1 hS1 => ?_)
        have hcA : cA = dA 1 := by
          have z1 : s.vm.findClass ("[" ++ FieldType.boolean.toString) = some cA := (hK1.2 4 (cA, .boolean) rfl).2
          have z2 : s.vm.findClass ("[" ++ FieldType.boolean.toString) = some (dA 1) := (hK.1.2 1 _ rfl).2
          exact Option.some.inj (z1.symm.trans z2)
        subst hcA
        refine W.bnd fun hbd => ?_
        obtain ⟨rfl, hsm1⟩ := Sm.of_new (b := b) (dA := dA) (x := .inl (1, List.replicate ds (.int 0))) hP1 hD1 (by omega)
        exact k H1 locs hsm1 (va_S_chain hS hS1) (by rw [List.length_append]; show base + (hp.length + 1) = _; omega)
      · cases ha
    · cases ha
  · -- anewarray
    split at ha
    · rename_i n st
      split at ha
      · rename_i kk hkk
        split at ha
        · rename_i hat
          cases ha
          obtain ⟨g1, g2, g3⟩ := ix_in hkk
          have hneg : ¬ n < 0 := fun q => g1 (Or.inl q)
          have hre : ∀ cA : ClassId, (cA, (ds, (Sum.inr (Sum.inr (Sum.inr (Sum.inr (fun _ => none)))) : (Nat → Int32) ⊕ (Nat → Int64) ⊕ (Nat → UInt32) ⊕ (Nat → UInt64) ⊕ (Nat → Option Nat)))) = (cA, reA base 2 (List.replicate ds .null)) := fun cA => by
            dsimp only [reA]
            rw [if_neg (by omega), List.length_replicate]
            congr 7
            funext j
            by_cases hj : j < ds
            · simp [hj, orf]
            · simp [hj, orf]
          refine va_newq hexec hb hown (hts _ (aT_ok hat)) hK.2.1 hK.1 hP hD hS0 (fun q h => Nat.le_trans (by omega) h) hneg g2 (by omega) hc1 hc2 hdg (fun q cA H1 hK1 hP1 hD1 hS1 => ?_)
          have hcA : cA = dA 2 := by
            obtain ⟨_, _, _, _, _, z1⟩ := (hK1.2 4 (cA, .object "OvensAbove$Tower") rfl).2
            obtain ⟨_, _, _, _, _, z2⟩ := (hK.1.2 2 _ rfl).2
            exact Option.some.inj (z1.symm.trans z2)
          subst hcA
          refine W.bnd fun hbd => ?_
          rw [hre] at hP1 hD1
          obtain ⟨rfl, hsm1⟩ := Sm.of_new (b := b) (dA := dA) (x := .inl (2, List.replicate ds .null)) hP1 hD1 (by omega)
          exact k H1 locs hsm1 (va_S_chain hS hS1) (by rw [List.length_append]; show base + (hp.length + 1) = _; omega)
        · cases ha
      · cases ha
    · cases ha
  · -- multianewarray
    split at ha
    · rename_i kk n st
      split at ha
      · rename_i hc
        obtain ⟨rfl, rfl, rfl, rfl⟩ := hc
        cases ha
        obtain ⟨oA, nA⟩ := hK.1.2 3 (dA 3, .array .int) rfl
        obtain ⟨oI, nI⟩ := hK.1.2 0 (dA 0, .int) rfl
        obtain ⟨kA, hkA, hkindA⟩ := hK.2.2.1
        obtain ⟨-, kI, hkI, cc0, hkindI⟩ := oI 0 (fun _ => .null)
        have nA' : s.vm.findClass ("[" ++ (FieldType.array .int).toString) = some (dA 3) := nA
        refine W.mm hexec hb hown (hts _ w_mmLink) nA' hkA hkindA hkI hkindI hdg hc1 hc2 (fun H' g1 g2 g3 g4 => ?_)
        have hlen : (hp ++ [(.inl (3, (List.range 5).map (fun i => Value.ref (hp.length + 1 + i))) : GC)] ++ List.replicate 5 (.inl (0, List.replicate 6 (.int 0)) : GC)).length = hp.length + 6 := by simp
        rw [hsm.1] at g1 g2 g3 g4
        have hP' : va_P D vwCl (wsO base b dA (hp ++ [.inl (3, (List.range 5).map (fun i => .ref (hp.length + 1 + i)))] ++ List.replicate 5 (.inl (0, List.replicate 6 (.int 0))))) H' := by
          intro i q hq
          rw [wsO, List.getElem?_mapIdx] at hq
          by_cases h1 : i < hp.length
          · rw [List.append_assoc, List.getElem?_append_left h1, List.getElem?_eq_getElem h1] at hq
            cases hq
            exact (hP i _ (wsO_get (List.getElem?_eq_getElem h1))).kept (g3 _ (by omega))
          · by_cases h2 : i = hp.length
            · subst h2
              rw [List.append_assoc, List.getElem?_append_right (Nat.le_refl _), Nat.sub_self] at hq
              cases hq
              show H'[base + hp.length]? = some (vp_cell (dA 3) (reA base 3 _))
              rw [g2]
              refine congrArg some ?_
              dsimp only [reA]
              rw [if_neg (by omega), vp_cell_q]
              unfold mmO
              refine congrArg (arrV (dA 3) 5) (funext fun j => ?_)
              by_cases hj : j < 5
              · rw [if_pos hj, List.getD_eq_getElem?_getD, List.getElem?_map, List.getElem?_range hj]
                show Value.ref (base + hp.length + 1 + j) = Value.ref (base + (hp.length + 1 + j))
                rw [show base + hp.length + 1 + j = base + (hp.length + 1 + j) by omega]
              · rw [if_neg hj, List.getD_eq_getElem?_getD, List.getElem?_eq_none (by simp; omega)]
                rfl
            · rw [List.getElem?_append_right (by simp; omega)] at hq
              have h3 : i - (hp ++ [(.inl (3, (List.range 5).map (fun i => Value.ref (hp.length + 1 + i))) : GC)]).length < 5 := by
                refine Nat.lt_of_not_le fun h => ?_
                rw [List.getElem?_eq_none (by simpa using h)] at hq
                cases hq
              rw [List.getElem?_replicate, if_pos h3] at hq
              cases hq
              show H'[base + i]? = some (vp_cell (dA 0) (reA base 0 (List.replicate 6 (.int 0))))
              rw [reA_new (by omega)]
              have h4 : (hp ++ [(.inl (3, (List.range 5).map (fun i => Value.ref (hp.length + 1 + i))) : GC)]).length = hp.length + 1 := by simp
              rw [h4] at h3
              have := g4 (i - (hp.length + 1)) h3
              rwa [show base + hp.length + 1 + (i - (hp.length + 1)) = base + i by omega] at this
        have hkk := k H' (locs ++ (List.range 5).map fun j => ⟨H.size, j⟩) ⟨by rw [hlen]; omega, hP'⟩ ⟨by have := hS.1; omega, fun q h1 h2 => (g3 q (Nat.lt_of_lt_of_le h1 (by have := hS.1; omega))).trans (hS.2.1 q h1 h2), fun q hq => by
          rcases List.mem_append.mp hq with h | h
          · exact hS.2.2 q h
          · obtain ⟨z, -, hz⟩ := List.mem_map.mp h
            rw [← hz]
            show base ≤ H.size
            omega⟩ (by rw [hlen]; omega)
        rw [hsm.1]
        rw [hsm.1] at hkk
        exact hkk
      · cases ha
    · cases ha
  · -- ldc2_w
    split at ha
    · rename_i v e1
      cases ha
      exact lv_ldc2 hexec hb hown (hts _ (lT_ok e1)) hdg (k _ _ hsm hS hn)
    · cases ha
  · -- ldc_w
    split at ha
    · rename_i v e1
      cases ha
      exact lv_ldcw hexec hb hown (hts _ (iT_ok e1)) hdg (k _ _ hsm hS hn)
    · cases ha
  · -- invokestatic: abs, arraycopy
    have hcat : ∀ st : List Value, ((st.map (reV base b)).map fun v => v.category).sum = (st.map fun v => v.category).sum := fun st => by
      rw [List.map_map]
      congr 1
      exact List.map_congr_left fun v _ => reV_cat base b v
    split at ha
    · rename_i hbT
      split at ha
      · rename_i x st
        split at ha
        · rename_i hst
          cases ha
          exact va_mabs hexec hb (hml.trans hls.symm) hown (hts _ (bT_ok hbT)) (hts _ w_abStat) (hts _ w_abIni) (hts _ w_abCode) hR.1 (by rw [hcat]; omega) (by omega) (by omega) hdg (k _ _ hsm hS hn)
        · cases ha
      · cases ha
    · split at ha
      · rename_i hpT
        split at ha
        · rename_i n dp a sp a0 st
          split at ha
          · rename_i vs ws e1 e2
            split at ha
            · rename_i hc
              obtain ⟨c1, c2, c3, c4, c5, hst⟩ := hc
              cases ha
              have nn : ∀ z : Int32, 0 ≤ z.toInt → ¬ z < 0 := fun z h q => by
                have := Int32.lt_iff_toInt_lt.mp q
                rw [Int32.toInt_zero] at this
                omega
              have hcp : reC base b dA (.inl (0, cpyL vs ws sp.toInt.toNat dp.toInt.toNat n.toInt.toNat)) = .inl (dA 0, ws.length, .inl (va_cpy (fun j => ival (vs.getD j .null)) (fun j => ival (ws.getD j .null)) sp.toNatClampNeg dp.toNatClampNeg n.toNatClampNeg)) := by
                dsimp only [reC, reA]
                rw [if_pos (by omega)]
                have hl : (cpyL vs ws sp.toInt.toNat dp.toInt.toNat n.toInt.toNat).length = ws.length := by simp [cpyL]
                rw [hl]
                congr 4
                funext j
                show _ = (if dp.toInt.toNat ≤ j ∧ j < dp.toInt.toNat + n.toInt.toNat then _ else _)
                unfold cpyL
                by_cases hj : j < ws.length
                · rw [List.getD_eq_getElem?_getD, List.getElem?_map, List.getElem?_range hj]
                  simp only [Option.map_some, Option.getD_some]
                  split <;> rfl
                · rw [List.getD_eq_getElem?_getD, List.getElem?_eq_none (by simp; omega), if_neg (by omega)]
                  show ival _ = ival (ws.getD j .null)
                  rw [List.getD_eq_getElem?_getD, List.getElem?_eq_none (by omega)]
              refine va_copyi (ty := .int) hexec hb (hml.trans hls.symm) hown (hts _ (pT_ok hpT)) (hts _ w_acNat) (hts _ w_acStat) (hts _ w_acIni) hK.1 hP hD hS0 a0 a 0 0 (wsO_get e1) (wsO_get e2) rfl rfl rfl (nn _ c1) (nn _ c2) (nn _ c3) (by show sp.toInt.toNat + n.toInt.toNat ≤ _; omega) (by show dp.toInt.toNat + n.toInt.toNat ≤ _; omega) (fun _ _ => rfl) hR.1 (by rw [hcat]; exact Nat.le_trans (Nat.add_le_add hst (Nat.le_of_ble_eq_true rfl : nativeFrameWords "java/lang/System" "arraycopy" 5 + 11 ≤ 90)) (by omega)) hdg (fun H1 locs1 hP1 _ hS1 => put a _ rfl rfl rfl H1 locs1 _ rfl (?_ : va_P D vwCl ((wsO base b dA hp).set a (base + a, reC base b dA (.inl (0, cpyL vs ws sp.toInt.toNat dp.toInt.toNat n.toInt.toNat)))) H1) hS1)
              rw [hcp]
              exact hP1
            · cases ha
          · cases ha
        · cases ha
      · cases ha
  · -- invokespecial of Object's constructor
    have hcat : ∀ st : List Value, ((st.map (reV base b)).map fun v => v.category).sum = (st.map fun v => v.category).sum := fun st => by
      rw [List.map_map]
      congr 1
      exact List.map_congr_left fun v _ => reV_cat base b v
    split at ha
    · rename_i hoT
      split at ha
      · rename_i a st
        split at ha
        · rename_i hst
          cases ha
          refine W.objInit hexec hb hown (hts _ (oT_ok hoT)) (hts _ w_objInstance) (hts _ w_objCode) rfl (by rw [hml]; exact hls) rfl hdg hR.1 ?_ (k _ _ hsm hS hn)
          show 2 * 0 + ((stk'.map (reV base b)).map fun v => v.category).sum + 12 ≤ _
          rw [hcat]
          omega
        · cases ha
      · cases ha
    · cases ha
  · cases ha
end GHW
