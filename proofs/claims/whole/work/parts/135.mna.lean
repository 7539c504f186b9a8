/-! new int[5][6] and its like, over the model itself: the outer array first, then each row, stored at once -/
def mmO (cA : ClassId) (N h i : Nat) : Cell := arrV cA N (fun j => if j < i then .ref (h + 1 + j) else .null)
def mmI (cI : ClassId) (M : Nat) : Cell := arrV cI M (fun _ => .int 0)
/-- the state with i rows made -/
def mmS (T : State) (cA cI : ClassId) (N M : Nat) : Nat → State
  | 0 => T.pushCell (mmO cA N T.heap.size 0)
  | i + 1 => ((mmS T cA cI N M i).pushCell (mmI cI M)).setCell T.heap.size (mmO cA N T.heap.size (i + 1))
theorem mmO_set (cA : ClassId) (N h i : Nat) : (mmO cA N h i).setSlot i (.ref (h + 1 + i)) = mmO cA N h (i + 1) := by
  unfold mmO
  rw [arrV_store]
  refine congrArg (arrV cA N) (funext fun j => ?_)
  unfold updV
  by_cases hj : j = i
  · subst hj; simp
  · by_cases h2 : j < i
    · simp [hj, h2, show j < i + 1 by omega]
    · simp [hj, h2, show ¬ j < i + 1 by omega]
theorem mmS_facts (T : State) (cA cI : ClassId) (N M : Nat) : ∀ i, (mmS T cA cI N M i).heap.size = T.heap.size + 1 + i ∧ (mmS T cA cI N M i).heap[T.heap.size]? = some (mmO cA N T.heap.size i) ∧ (mmS T cA cI N M i).vm = T.vm ∧ (mmS T cA cI N M i).slotsUsed = T.slotsUsed + N + i * M ∧
    (∀ a : Nat, a < T.heap.size → (mmS T cA cI N M i).heap[a]? = T.heap[a]?) ∧ ∀ j, j < i → (mmS T cA cI N M i).heap[T.heap.size + 1 + j]? = some (mmI cI M)
  | 0 => ⟨by simp [mmS], by simp [mmS], rfl, by simp [mmS, mmO, arrV_size], fun a ha => State.heap_pushCell_of_lt _ _ ha, fun j hj => by omega⟩
  | i + 1 => by
    obtain ⟨h1, h2, h3, h4, h5, h6⟩ := mmS_facts T cA cI N M i
    have hlt : T.heap.size < (mmS T cA cI N M i).heap.size := by omega
    have hb : ((mmS T cA cI N M i).pushCell (mmI cI M)).heap[T.heap.size]? = some (mmO cA N T.heap.size i) := by rw [State.heap_pushCell_of_lt (h := hlt)]; exact h2
    refine ⟨?_, State.heap_setCell_self hb, by simp [mmS, h3], ?_, fun a ha => ?_, fun j hj => ?_⟩
    · simp [mmS, State.setCell, h1]; omega
    · simp [mmS, h4, mmI, arrV_size, Nat.succ_mul]; omega
    · show (((mmS T cA cI N M i).pushCell (mmI cI M)).setCell T.heap.size _).heap[a]? = _
      rw [State.heap_setCell_other (Nat.ne_of_gt ha), State.heap_pushCell_of_lt (h := Nat.lt_trans ha hlt)]
      exact h5 a ha
    · show (((mmS T cA cI N M i).pushCell (mmI cI M)).setCell T.heap.size _).heap[T.heap.size + 1 + j]? = _
      rw [State.heap_setCell_other (show T.heap.size ≠ T.heap.size + 1 + j by omega)]
      by_cases hj2 : j < i
      · rw [State.heap_pushCell_of_lt (h := (show T.heap.size + 1 + j < (mmS T cA cI N M i).heap.size by omega))]
        exact h6 j hj2
      · rw [show T.heap.size + 1 + j = (mmS T cA cI N M i).heap.size by omega]
        exact State.heap_pushCell_size _ _
theorem mmS_top (T : State) (f : JFrame) (cA cI : ClassId) (N M : Nat) : ∀ i, mmS (T.setTop f) cA cI N M i = (mmS T cA cI N M i).setTop f
  | 0 => rfl
  | i + 1 => by simp only [mmS, mmS_top T f cA cI N M i, State.heap_setTop, State.pushCell_setTop, State.setCell_setTop]
section MMW
variable {E : CtlPost} {e : Env} {d : Bool} {acts : List Action} {s : State}
theorem mm_new {c comp : ClassId} {k : Class} {type : FieldType} {len : Nat} {init : Value} (hk : s.vm.classes[c]? = some k) (hkind : k.kind = .array comp type)
    (h1 : ¬ len > e.platform.arrayLengthLimit) (h2 : ¬ len * componentBytes type > e.platform.maxHeapBytes) (hfit : fits type init = true) (hdef : init.isDefault = true) {Q : Addr → Pre}
    (h3 : s.heap.size < e.platform.maxCells) (h4 : s.slotsUsed + len ≤ e.platform.maxSlots) (hq : Q s.heap.size d acts (s.pushCell (arrV c len (fun _ => init)))) : wp (Jvm.newArray c len init) Q E e d acts s := by
  rw [← arrV_new] at hq
  have hfits : ∀ i v, (Array.replicate len init)[i]? = some v → s.fitsSlot c .none i v = true := by
    intro i v hv
    rw [Array.getElem?_replicate] at hv
    split at hv
    · cases hv; simp [State.fitsSlot, State.slotType?, hk, hkind, hfit]
    · cases hv
  have hda : allocActs (Array.replicate len init) s.heap.size acts = acts := by
    unfold allocActs
    rw [if_pos (by rw [Array.all_replicate]; split <;> simp [hdef])]
  simp only [Jvm.newArray, Jvm.arrayFits, wp_bind', W.ask, W.ite, h1, if_false, wp_pure', W.theClass, hk, hkind, h2, W.alloc, W.stop, Option.some.injEq, exists_eq_left', Array.size_replicate, hda]
  rw [if_neg (by omega)]
  exact ⟨h3, h4, hfits, hq⟩
theorem mm_row {c comp : ClassId} {k : Class} {n : Int32} (hk : s.vm.classes[c]? = some k) (hkind : k.kind = .array comp .int) (hn : ¬ n < 0) (h1 : ¬ n.toNatClampNeg > e.platform.arrayLengthLimit) (h2 : ¬ n.toNatClampNeg * componentBytes .int > e.platform.maxHeapBytes)
    (h3 : s.heap.size < e.platform.maxCells) (h4 : s.slotsUsed + n.toNatClampNeg ≤ e.platform.maxSlots) {Q : Addr → Pre} (hq : Q s.heap.size d acts (s.pushCell (mmI c n.toNatClampNeg))) : wp (multianewarray.make c [n]) Q E e d acts s := by
  rw [multianewarray.make]
  simp only [wp_bind', W.ite, hn, if_false, wp_pure', W.theClass, hk, hkind, Option.some.injEq, exists_eq_left']
  exact mm_new hk hkind h1 h2 rfl rfl h3 h4 hq
theorem mm_all {c cI cc : ClassId} {k kI : Class} {n j : Int32} {N M : Nat} (hk : s.vm.classes[c]? = some k) (hkind : k.kind = .array cI (.array .int)) (hkI : s.vm.classes[cI]? = some kI) (hkindI : kI.kind = .array cc .int) (hn : ¬ n < 0) (hj : ¬ j < 0) (hN : n.toNatClampNeg = N) (hM : j.toNatClampNeg = M)
    (h1 : ¬ N > e.platform.arrayLengthLimit) (h2 : ¬ N * componentBytes (.array .int) > e.platform.maxHeapBytes) (h3 : ¬ M > e.platform.arrayLengthLimit) (h4 : ¬ M * componentBytes .int > e.platform.maxHeapBytes)
    (h5 : s.heap.size + 1 + N ≤ e.platform.maxCells) (h6 : s.slotsUsed + N + N * M ≤ e.platform.maxSlots) {Q : Addr → Pre} (hq : ∀ d' acts', Q s.heap.size d' acts' (mmS s c cI N M N)) : wp (multianewarray.make c [n, j]) Q E e d acts s := by
  subst hN hM
  rw [multianewarray.make]
  simp only [wp_bind', W.ite, hn, if_false, wp_pure', W.theClass, hk, hkind, Option.some.injEq, exists_eq_left']
  refine mm_new hk hkind h1 h2 rfl rfl (by omega) (by omega) ?_
  simp only [show ([j].find? (· < 0)) = none by simp [hj]]
  rw [ite_self, wp_bind', Std.Legacy.Range.forIn_eq_forIn_range', show ([:n.toNatClampNeg] : Std.Legacy.Range).size = n.toNatClampNeg by simp [Std.Legacy.Range.size]]
  show wp (forIn (List.range' 0 n.toNatClampNeg 1) PUnit.unit _) _ E e d acts _
  have hstart : s.pushCell (arrV c n.toNatClampNeg (fun _ => .null)) = mmS s c cI n.toNatClampNeg j.toNatClampNeg 0 := by
    show _ = s.pushCell (mmO c n.toNatClampNeg s.heap.size 0)
    unfold mmO
    simp
  rw [hstart]
  refine wp_forIn_inv (fun rest s' => ∃ i, i ≤ n.toNatClampNeg ∧ rest = List.range' i (n.toNatClampNeg - i) ∧ s' = mmS s c cI n.toNatClampNeg j.toNatClampNeg i) _ _ ⟨0, Nat.zero_le _, rfl, rfl⟩ ?_ ?_
  · rintro x rest s' d' acts' Q' ⟨i, hi, hl, rfl⟩ hnext
    have hlt : i < n.toNatClampNeg := by
      refine Nat.lt_of_not_le fun h => ?_
      rw [show n.toNatClampNeg - i = 0 by omega] at hl
      simp at hl
    rw [show n.toNatClampNeg - i = (n.toNatClampNeg - (i + 1)) + 1 by omega, List.range'_succ] at hl
    obtain ⟨rfl, rfl⟩ := List.cons.inj hl
    obtain ⟨f1, f2, f3, f4, -, -⟩ := mmS_facts s c cI n.toNatClampNeg j.toNatClampNeg x
    have hmul : x * j.toNatClampNeg + j.toNatClampNeg ≤ n.toNatClampNeg * j.toNatClampNeg := by
      have := Nat.mul_le_mul_right j.toNatClampNeg (show x + 1 ≤ n.toNatClampNeg from hlt)
      rwa [Nat.succ_mul] at this
    simp only [wp_bind']
    refine mm_row (by rw [f3]; exact hkI) hkindI hj h3 h4 (by rw [f1]; omega) (by rw [f4]; omega) ?_
    have hlt0 : s.heap.size < (mmS s c cI n.toNatClampNeg j.toNatClampNeg x).heap.size := by rw [f1]; omega
    simp only [wp_bind', W.writeLoc, wp_pure']
    refine ⟨mmO c n.toNatClampNeg s.heap.size x, by rw [State.heap_pushCell_of_lt (h := hlt0)]; exact f2, by unfold mmO arrV; simp, by unfold mmO; rw [arrV_size]; exact hlt, ?_, hnext _ _ _ ⟨x + 1, hlt, rfl, ?_⟩⟩
    · unfold mmO arrV
      simp [State.fitsSlot, State.slotType?, f3, hk, hkind, fits]
    · rw [f1, mmO_set]; rfl
  · rintro s' d' acts' ⟨i, hi, hl, rfl⟩
    have hiN : i = n.toNatClampNeg := by
      refine Nat.le_antisymm hi (Nat.le_of_not_lt fun h => ?_)
      rw [show n.toNatClampNeg - i = (n.toNatClampNeg - (i + 1)) + 1 by omega, List.range'_succ] at hl
      cases hl
    subst hiN
    simp only [wp_pure']
    exact hq _ _
end MMW
section MMR
variable {p : Program} {l : Launch} {e : Env} {R : Room} {s : State} {m : MethodId} {args : Array Value} {below : List Frame} {meth : Method} {c : Code} {H : Heap} {locs : List Loc} {cells slots : Nat} {Q : State → Prop}
theorem mm_stand {T : State} (X : Stand p l e R s m args below meth c T locs cells slots) (cA cI : ClassId) (N M : Nat) : ∀ i, Stand p l e R s m args below meth c (mmS T cA cI N M i) (locs ++ (List.range i).map fun j => ⟨T.heap.size, j⟩) (cells + 1 + i) (slots + N + i * M)
  | 0 => by
    have h := X.pushed (mmO cA N T.heap.size 0)
    rw [show (mmO cA N T.heap.size 0).slots.size = N by unfold mmO; rw [arrV_size]] at h
    simpa [mmS] using h
  | i + 1 => by
    have Xi := mm_stand X cA cI N M i
    obtain ⟨f1, f2, -⟩ := mmS_facts T cA cI N M i
    have hlt0 : T.heap.size < (mmS T cA cI N M i).heap.size := by rw [f1]; omega
    have hcell : ((mmS T cA cI N M i).pushCell (mmI cI M)).heap[T.heap.size]? = some (mmO cA N T.heap.size i) := by rw [State.heap_pushCell_of_lt (h := hlt0)]; exact f2
    have h := (Xi.pushed (mmI cI M)).stored hcell i (.ref (T.heap.size + 1 + i))
    rw [show (mmI cI M).slots.size = M by unfold mmI; rw [arrV_size], mmO_set] at h
    rw [show (locs ++ (List.range (i + 1)).map fun j => (⟨T.heap.size, j⟩ : Loc)) = (locs ++ (List.range i).map fun j => (⟨T.heap.size, j⟩ : Loc)) ++ [⟨T.heap.size, i⟩] by simp [List.range_succ, List.append_assoc], show slots + N + (i + 1) * M = slots + N + i * M + M by rw [Nat.succ_mul]; omega]
    exact h
/-- the row: five rows of six ints -/
theorem W.mm {cc : ByteArray} {pc : Nat} {ls : Array Slot} {rest : List Value} (hexec : p.tables.exec = Jvm.exec) (hb : c.code = cc) {own : String} {index : Nat} (hown : s.vm.findClass own = some m.cls) (hclink : (Cond.classLink own index ("[" ++ (FieldType.array .int).toString)).before args s = true)
    {cA cI cc0 : ClassId} {kA kI : Class} (hfA : s.vm.findClass ("[" ++ (FieldType.array .int).toString) = some cA) (hkA : s.vm.classes[cA]? = some kA) (hkindA : kA.kind = .array cI (.array .int)) (hkI : s.vm.classes[cI]? = some kI) (hkindI : kI.kind = .array cc0 .int)
    (hdg : decode cc pc = .ok (.multianewarray index 2, 4)) (hcells : cells + 6 ≤ R.cells) (hslots : slots + 35 ≤ R.slots)
    (kk : ∀ H' : Heap, H'.size = H.size + 6 → H'[H.size]? = some (mmO cA 5 H.size 5) → (∀ a : Nat, a < H.size → H'[a]? = H[a]?) → (∀ j, j < 5 → H'[H.size + 1 + j]? = some (mmI cI 6)) →
      W p l e R s m args below meth c H' (locs ++ (List.range 5).map fun j => ⟨H.size, j⟩) (cells + 6) (slots + 35) Q (F0 m (pc + 4) ls (.ref H.size :: rest))) : W p l e R s m args below meth c H locs cells slots Q (F0 m pc ls (.int 6 :: .int 5 :: rest)) := by
  intro T hT X
  subst hb
  have hpl : e.platform.magicAccessors = ({} : Platform).magicAccessors := by rw [X.admits.platform]
  obtain ⟨c0, hfc0, hcl⟩ := Cond.classLink_spec hown hclink e.platform hpl
  cases hfA.symm.trans hfc0
  obtain ⟨hg₁, hwarm₁, -⟩ := State.classEntry (e := e) X.warmed hcl
  generalize T.vm.noted m.cls index (.cls cA) = vm₁ at hg₁ hwarm₁
  obtain ⟨kA₁, hkA₁, heA⟩ := hwarm₁.alike.2.2 _ _ hkA
  obtain ⟨kI₁, hkI₁, heI⟩ := hwarm₁.alike.2.2 _ _ hkI
  have X₁ := X.noted hwarm₁
  obtain ⟨hr1, hr2⟩ := X.roomAbove hcells hslots
  have XF := mm_stand X₁ cA cI 5 6 5
  have hTh : (T.setVm vm₁).heap = H := hT
  obtain ⟨f1, f2, -, -, f5, f6⟩ := mmS_facts (T.setVm vm₁) cA cI 5 6 5
  rw [hTh] at f1 f2 f5 f6 XF
  obtain ⟨t, a1, b1⟩ := kk (mmS (T.setVm vm₁) cA cI 5 6 5).heap (by rw [f1]) f2 f5 f6 _ rfl XF
  refine ⟨t, ?_, b1⟩
  have hl : e.platform.arrayLengthLimit = _ := Launch.admits_arrayLengthLimit X.admits
  have hh : e.platform.maxHeapBytes = _ := Launch.admits_maxHeapBytes X.admits
  jvm_step X.here [hdg, hexec]
  simp only [multianewarray.sem, wp_bind', W.resolveClassAt_links (State.method?_setTop (F0 m pc ls (.int 6 :: .int 5 :: rest)) X.here.top) hg₁]
  rw [W.popN, if_neg (by decide)]
  refine ⟨F0 m pc ls (.int 6 :: .int 5 :: rest), State.topJava?_setTop' (s := T.setVm vm₁) _ X.here.top, [.int 5, .int 6], rest, rfl, rfl, ?_⟩
  simp only [List.mapM_cons, List.mapM_nil, wp_bind', wp_pure']
  refine mm_all (k := kA₁) (kI := kI₁) (cI := cI) (cc := cc0) (N := 5) (M := 6) hkA₁ (by rw [heA]; exact hkindA) hkI₁ (by rw [heI]; exact hkindI) (by decide) (by decide) rfl rfl (by rw [hl]; decide) (by rw [hh]; decide) (by rw [hl]; decide) (by rw [hh]; decide) (by show T.heap.size + 1 + 5 ≤ _; omega) (by show T.slotsUsed + 5 + 5 * 6 ≤ _; omega) (fun d' acts' => ?_)
  have eS : ((T.setTop (F0 m pc ls (.int 6 :: .int 5 :: rest))).setVm vm₁).setTop { F0 m pc ls (.int 6 :: .int 5 :: rest) with stack := rest } = (T.setVm vm₁).setTop { F0 m pc ls (.int 6 :: .int 5 :: rest) with stack := rest } := by
    show ((T.setVm vm₁).setTop _).setTop _ = _
    rw [State.setTop_setTop]
  rw [eS, mmS_top]
  simp only [wp_bind', W.mark, W.pushRef, State.topJava?_setTop' _ XF.here.top, Option.some.injEq, exists_eq_left', State.setTop_setTop, State.heap_setTop]
  intro acts
  simp [jvm, XF.here.top]
  rw [show T.heap.size = H.size by rw [hT]]
  exact a1
end MMR
