section GSW
variable {p : Program} {l : Launch} {e : Env} {R : Room} {s : State} {m : MethodId} {args : Array Value} {below : List Frame} {meth : Method} {c : Code} {H : Heap} {locs : List Loc} {cells slots : Nat} {Qf : State → Prop}
variable {cc : ByteArray} {pc : Nat} {ls : Array Slot}
theorem run_end {base b mc ms : Nat} {D : va_G} {dA : Nat → ClassId} {hp : GH} {K : Option Value → GH → Prop} {a : Array Value} {st0 rest : List Value} (hr : va_Run p l e R s m args below meth c H locs cells slots mc ms (F0 m pc ls st0) rest (QcG D dA base b hp mc K a) (fun q => base ≤ q)) (hS : va_S (fun q => base ≤ q) s.heap H locs)
    (kk : ∀ (v : Option Value) (hp' : GH) (H' : Heap) (locs' : List Loc), K v hp' → Sm base b D dA hp' H' → va_S (fun q => base ≤ q) s.heap H' locs' → hp'.length = hp.length + mc → W p l e R s m args below meth c H' locs' (cells + mc) (slots + ms) Qf (F0 m (pc + 3) ls ((v.map (reV base b)).toList ++ rest))) : W p l e R s m args below meth c H locs cells slots Qf (F0 m pc ls st0) := by
  intro T hT X
  obtain ⟨v, st₀, t, T', L, h0, X', hL, e1, -, ⟨⟨v', hp', hv, hq, hsm, hlen⟩, hF⟩, go⟩ := hr T hT X
  cases hv
  have hS' : va_S (fun q => base ≤ q) s.heap T'.heap (locs ++ L) := by
    rw [e1]
    refine ⟨Nat.le_trans hS.1 (h0 ▸ hF.1), fun q g1 g2 => ?_, fun q hq => ?_⟩
    · rw [hF.2 q (by rw [h0]; exact Nat.lt_of_lt_of_le g1 hS.1) g2, h0]
      exact hS.2.1 q g1 g2
    · rcases List.mem_append.mp hq with h | h
      · exact hS.2.2 q h
      · exact hL q h
  obtain ⟨t2, a1, b1⟩ := kk v' hp' T'.heap (locs ++ L) hq (by rw [e1]; exact hsm) hS' hlen T' rfl X'
  exact ⟨t2, go t2 a1, b1⟩
theorem reV_app (base b : Nat) (v : Option Value) (rest : List Value) : (v.map (reV base b)).toList ++ rest.map (reV base b) = (v.toList ++ rest).map (reV base b) := by cases v <;> simp
theorem wgt_re (base b : Nat) (st : List Value) : ((st.map (reV base b)).map fun v => v.category).sum = wgt st := by
  rw [List.map_map]
  unfold wgt
  congr 1
  exact List.map_congr_left fun v _ => reV_cat base b v
set_option maxHeartbeats 8000000 in
theorem GoF_W (hexec : p.tables.exec = Jvm.exec) (hb : c.code = cc) {base b cn nL : Nat} {D : va_G} {dA : Nat → ClassId} {xs : Option (List Int32)} {ini : Bool} {ret : Option FieldType} {mc ms n0 dd : Nat} {call : Nat → List Value → GH → (Option Value → GH → Prop) → Prop} {Q : Option Value → GH → Prop} (hml : c.maxLocals = nL)
    (hown : s.vm.findClass (RR cn) = some m.cls) (hts : ∀ w ∈ TT, w.before args s = true) (hK : KK D dA s) (hini : ini = true → meth.name = "<init>")
    (hX : ∀ l, xs = some l → va_X b l.length (fun j => l.getD j 0) s s.heap ∧ b < s.heap.size ∧ b < base) (hR : dd + 1 ≤ R.frames ∧ 100 * (dd + 1) ≤ R.locals) (hcl : mc ≤ R.cells) (hsl : ms ≤ R.slots) (hbase : s.heap.size = base + n0)
    (hcall : ∀ mid as hp K, call mid as hp K → MetG l D dA base b dd mid as hp K)
    (hret : ∀ (pc : Nat) (ls : Array Slot) (stk : List Value) (hp : GH) (ns : Nat) (v : Option Value) (H : Heap) (locs : List Loc) (ins : Instr), gRet ret ins stk = some v → decode cc pc = .ok (ins, 1) → Q v hp → (mc = 0 ∨ hp.length = n0 + mc) → n0 ≤ hp.length → hp.length ≤ n0 + mc → ns ≤ ms → Sm base b D dA hp H → va_S (fun q => base ≤ q) s.heap H locs →
      W p l e R s m args below meth c H locs (hp.length - n0) ns Qf (F0 m pc ls (stk.map (reV base b)))) :
    ∀ (k pc : Nat) (loc : GL) (stk : List Value) (hp : GH) (ns : Nat) (H : Heap) (locs : List Loc) (ls : Array Slot), GoF call xs cn ini ret mc ms n0 cc Q k pc loc stk hp ns → Sm base b D dA hp H → va_S (fun q => base ≤ q) s.heap H locs → LH ls nL base b loc → n0 ≤ hp.length → hp.length ≤ n0 + mc → ns ≤ ms →
      W p l e R s m args below meth c H locs (hp.length - n0) ns Qf (F0 m pc ls (stk.map (reV base b))) := by
  intro k
  induction k with
  | zero => intro pc loc stk hp ns H locs ls h; exact h.elim
  | succ k ih =>
    intro pc loc stk hp ns H locs ls h hsm hS hl hn1 hn2 hns
    obtain ⟨ins, len, hdg, h⟩ := h
    rcases h with ⟨stk', ha, hlen, h⟩ | ⟨loc', stk', ha, h⟩ | ⟨t, tk, stk', ha, hlen, h⟩ | ⟨hp', stk', dc, ds, ha, hbud, h⟩ | ⟨mid, as, rest, ha, hlen, hbud, h⟩ | ⟨v, ha, hlen, hmc, h⟩
    · exact gAlu_W hexec hb ha hlen hdg (ih _ _ _ _ _ _ _ _ h hsm hS hl hn1 hn2 hns)
    · exact gLoc_W hexec hb hl ha hdg (fun ls' hl' => ih _ _ _ _ _ _ _ _ h hsm hS hl' hn1 hn2 hns)
    · exact gBr_W hexec hb ha hlen hdg (ih _ _ _ _ _ _ _ _ h hsm hS hl hn1 hn2 hns)
    · refine gHp_W hexec hb hml hl.2.1 hown hts hK hini hX ⟨by omega, by omega⟩ (by omega) ha hdg hsm hS (by omega) (by omega) (by omega) (fun H' locs' hsm' hS' hlen' => ?_)
      have e1 : hp.length - n0 + dc = hp'.length - n0 := by omega
      rw [e1]
      exact ih _ _ _ _ _ _ _ _ h hsm' hS' hl (by omega) (by omega) (by omega)
    · subst hlen
      have hmet := hcall _ _ _ _ h
      -- what follows the call
      have fin : ∀ {y : MethodName} {c' : ByteArray} {nL' : Nat} {ret' : Option FieldType} {cn' mc' ms' n' : Nat} (a : Array Value), mis[mid]? = some (y, c', nL', ret', cn', mc', ms', n') →
          va_Run p l e R s m args below meth c H locs (hp.length - n0) ns mc' ms' (F0 m pc ls (stk.map (reV base b))) (rest.map (reV base b)) (QcG D dA base b hp mc' (fun v hp' => GoF call xs cn ini ret mc ms n0 cc Q k (pc + 3) loc (v.toList ++ rest) hp' (ns + sM mid)) a) (fun q => base ≤ q) → W p l e R s m args below meth c H locs (hp.length - n0) ns Qf (F0 m pc ls (stk.map (reV base b))) := by
        intro y c' nL' ret' cn' mc' ms' n' a hm hr
        have e1 : cM mid = mc' := by unfold cM; rw [hm]
        have e2 : sM mid = ms' := by unfold sM; rw [hm]
        refine run_end hr hS (fun v hp' H' locs' hq hsm' hS' hlen' => ?_)
        rw [reV_app, show hp.length - n0 + mc' = hp'.length - n0 by omega, ← e2]
        exact ih _ _ _ _ _ _ _ _ hq hsm' hS' hl (by omega) (by omega) (by omega)
      have rm : ∀ {y : MethodName} {c' : ByteArray} {nL' : Nat} {ret' : Option FieldType} {cn' mc' ms' n' : Nat}, mis[mid]? = some (y, c', nL', ret', cn', mc', ms', n') → (rmD dd mc' ms').frames + 1 ≤ R.frames ∧ 8 + (nL' + 11) + (rmD dd mc' ms').locals ≤ R.locals := by
        intro y c' nL' ret' cn' mc' ms' n' hm
        have h1 : nL' ≤ 60 := mis_small _ (List.mem_of_getElem? hm)
        exact ⟨hR.1, by show 8 + (nL' + 11) + 100 * dd ≤ _; omega⟩
      have bud : ∀ {y : MethodName} {c' : ByteArray} {nL' : Nat} {ret' : Option FieldType} {cn' mc' ms' n' : Nat}, mis[mid]? = some (y, c', nL', ret', cn', mc', ms', n') → hp.length - n0 + mc' ≤ R.cells ∧ ns + ms' ≤ R.slots := by
        intro y c' nL' ret' cn' mc' ms' n' hm
        have e1 : cM mid = mc' := by unfold cM; rw [hm]
        have e2 : sM mid = ms' := by unfold sM; rw [hm]
        constructor <;> omega
      have hsplit : ∀ n : Nat, stk.map (reV base b) = (((stk.take n).reverse).map (reV base b)).reverse ++ (stk.drop n).map (reV base b) := fun n => by
        rw [← List.map_reverse, List.reverse_reverse, ← List.map_append, List.take_append_drop]
      have hcat : ∀ st : List Value, wgt st ≤ 8 → 2 * (F0 m pc ls (stk.map (reV base b))).monitorRoom + ((st.map (reV base b)).map fun v => v.category).sum ≤ 8 := fun st h => by
        rw [wgt_re]
        show 2 * 0 + _ ≤ 8
        omega
      unfold gCall at ha
      split at ha
      · -- virtual
        split at ha
        · rename_i idx mid' e1
          split at ha
          · rename_i o rest' e2
            split at ha
            · rename_i ci fs e3
              split at ha
              · rename_i hc
                cases ha
                obtain ⟨y, c', nL', ret', cn', mc', ms', n', hm, hkd⟩ := mT_ok e1
                rcases hkd with ⟨-, w1, w2, w3⟩ | ⟨h0, -⟩ | ⟨h0, -⟩ | ⟨h0, -⟩
                · obtain ⟨k1, k2, k3, k4, k5⟩ := mis_ok hm
                  have hn : nM mid = n' := by unfold nM; rw [hm]
                  have hcl' : clM mid = cn' := by unfold clM; rw [hm]
                  obtain ⟨r, hr, -⟩ := hsm.2 o _ (wsO_get e3)
                  have hr' : vwCl[ci]? = some (r.1, r.2.1, r.2.2) := hr
                  have hrn : r.1 = y.cls := by rw [k3, ← (cls_ok hr').2.2.2.2.2.2, hc.1, hcl']
                  refine fin _ hm (va_runV (As := ((stk.take (nM mid)).reverse).map (reV base b)) ⟨hexec, hb, hml, hown, hts⟩ (hmet _ _ _ _ _ _ _ _ hm) ⟨callB_of n' hts (TT_ws k1) rfl rfl rfl (hts _ k2) (hts _ w1) k4 (rm hm), hts _ w2, hts _ w3⟩
                    ⟨PcG.blind, ?_, fun U hU hW => ⟨rfl, by rw [hU]; exact hsm, hK.warm hW⟩⟩ rfl (by rw [List.length_map, List.length_reverse, List.length_take]; omega) hl.2.1 (by rw [show (F0 m pc ls (stk.map (reV base b))).stack = stk.map (reV base b) from rfl, hsplit (nM mid), e2]; rfl) (hcat _ hc.2.2) hdg (bud hm))
                  rw [← hrn]
                  exact va_recv hK.1 hsm.2 hr (wsO_get e3)
                · cases h0
                · cases h0
                · cases h0
              · cases ha
            · cases ha
          · cases ha
        · cases ha
      · -- static
        split at ha
        · rename_i idx mid' e1
          split at ha
          · rename_i hc
            cases ha
            obtain ⟨y, c', nL', ret', cn', mc', ms', n', hm, hkd⟩ := mT_ok e1
            rcases hkd with ⟨h0, -⟩ | ⟨-, w1, w2⟩ | ⟨h0, -⟩ | ⟨h0, -⟩
            · cases h0
            · obtain ⟨k1, k2, k3, k4, k5⟩ := mis_ok hm
              have hn : nM mid = n' := by unfold nM; rw [hm]
              exact fin _ hm (va_runS (As := ((stk.take (nM mid)).reverse).map (reV base b)) ⟨hexec, hb, hml, hown, hts⟩ (hmet _ _ _ _ _ _ _ _ hm) ⟨callB_of n' hts (TT_ws k1) rfl rfl rfl (hts _ k2) (hts _ w1) k4 (rm hm), hts _ w2⟩
                ⟨PcG.blind, fun U hU hW => ⟨rfl, by rw [hU]; exact hsm, hK.warm hW⟩⟩ rfl (by rw [List.length_map, List.length_reverse, List.length_take]; omega) hl.2.1 (hsplit (nM mid)) (hcat _ hc.2) hdg (bud hm))
            · cases h0
            · cases h0
          · cases ha
        · cases ha
      · -- special
        split at ha
        · rename_i idx _ mid' kd e1
          split at ha
          · rename_i hk23
            split at ha
            · rename_i o rest' e2
              split at ha
              · rename_i hc
                cases ha
                obtain ⟨y, c', nL', ret', cn', mc', ms', n', hm, hkd⟩ := mT_ok e1
                obtain ⟨k1, k2, k3, k4, k5⟩ := mis_ok hm
                have hn : nM mid = n' := by unfold nM; rw [hm]
                have hstk : (F0 m pc ls (stk.map (reV base b))).stack = (((stk.take (nM mid)).reverse).map (reV base b)).reverse ++ .ref (base + o) :: rest.map (reV base b) := by
                  rw [show (F0 m pc ls (stk.map (reV base b))).stack = stk.map (reV base b) from rfl, hsplit (nM mid), e2]; rfl
                rcases hkd with ⟨h0, -⟩ | ⟨h0, -⟩ | ⟨h0, w1, w2, w3, w4⟩ | ⟨h0, w1, w2, w3, w4⟩
                · omega
                · omega
                · subst w4
                  exact fin _ hm (va_runI (As := ((stk.take (nM mid)).reverse).map (reV base b)) ⟨hexec, hb, hml, hown, hts⟩ (hmet _ _ _ _ _ _ _ _ hm) ⟨callB_of n' hts (TT_ws k1) rfl rfl rfl (hts _ k2) (hts _ w1) k4 (rm hm), w3, hts _ w2⟩
                    ⟨PcG.blind, fun U hU hW => ⟨rfl, by rw [hU]; exact hsm, hK.warm hW⟩⟩ rfl (by rw [List.length_map, List.length_reverse, List.length_take]; omega) hl.2.1 hstk (hcat _ hc.2) hdg (bud hm))
                · subst w4
                  have hlk : va_Nw (.methodLinkNest (RR cn) idx y "OvensAbove") s := by
                    obtain ⟨rfl, ⟨rfl, rfl⟩ | ⟨rfl, rfl⟩ | ⟨rfl, rfl⟩⟩ := w1
                    · exact hK.2.2.2.1
                    · exact hK.2.2.2.2.1
                    · exact hK.2.2.2.2.2
                  exact fin _ hm (va_runIN (As := ((stk.take (nM mid)).reverse).map (reV base b)) ⟨hexec, hb, hml, hown, hts⟩ (hmet _ _ _ _ _ _ _ _ hm) ⟨va_cnB n' hts (TT_ws k1) rfl rfl rfl hlk (hts _ k2) k4 (rm hm), w3, hts _ w2⟩
                    ⟨PcG.blind, fun U hU hW => ⟨rfl, by rw [hU]; exact hsm, hK.warm hW⟩⟩ rfl (by rw [List.length_map, List.length_reverse, List.length_take]; omega) hl.2.1 hstk (hcat _ hc.2) hdg (bud hm))
              · cases ha
            · cases ha
          · cases ha
        · cases ha
      · cases ha
    · subst hlen
      exact hret _ _ _ _ _ _ _ _ _ ha hdg h hmc hn1 hn2 hns hsm hS
end GSW
set_option maxHeartbeats 4000000 in
/-- THE GHOST MACHINE IS SOUND: a method's run there is a contract over the machine -/
theorem CallD_Met (l : Launch) (D : va_G) (dA : Nat → ClassId) (base b : Nat) : ∀ (d mid : Nat) (as : List Value) (hp : GH) (Q : Option Value → GH → Prop), CallD d mid as hp Q → MetG l D dA base b d mid as hp Q := by
  intro d
  induction d with
  | zero => intro mid as hp Q h; exact h.elim
  | succ d ih =>
    intro mid as hp Q h y cc nL ret cn mc ms n hm
    obtain ⟨y', cc', nL', ret', cn', mc', ms', n', hm', hal, k, hgo⟩ := h
    cases hm.symm.trans hm'
    obtain ⟨k1, k2, k3, k4, k5⟩ := mis_ok hm
    refine Met.ofW (cc := cc) (maxL := nL) (ret := ret) k5 rfl ?_
    intro p e s m args below meth c s₁ B hml hv
    obtain ⟨rfl, hsm, hK⟩ := hv
    have hx := B.exec
    have hb := B.bytes
    have hr := B.returns
    have hts := atoms_spec (ws := .code y cc nL ret :: TT) B.pre
    have hown : s.vm.findClass (RR cn) = some m.cls := k3 ▸ findClass_of_methodNamed B.named
    have hlocks := B.notSynchronized
    have hin : meth.name = y.name := (name_of_methodNamed B.named B.method).1
    have hl := LH.entry base b (nL := nL) (vs := as) hal
    rw [lg_entry_eq]
    generalize (lg_sl (as.map (reV base b)) ++ List.replicate (nL - (lg_sl (as.map (reV base b))).length) Slot.unset).toArray = ls at hl ⊢
    have hS : va_S (fun q => base ≤ q) s.heap s.heap [] := va_S.rf
    have W0 := GoF_W (Qf := MQ below (QcG D dA base b hp mc Q) (as.map (reV base b)).toArray s mc ms (fun q => base ≤ q)) (R := rmD (d + 1) mc ms) (l := l) (e := e) (p := p) (below := below) (args := (as.map (reV base b)).toArray) hx hb hml (base := base) (b := b) (D := D) (dA := dA) (xs := none) (ini := y.name == "<init>") (n0 := hp.length) (dd := d) hown (fun w hw => hts w (List.mem_cons_of_mem _ hw)) hK (fun h => by rw [hin]; exact eq_of_beq h) (fun l h => by cases h) ⟨Nat.le_refl _, Nat.le_refl _⟩ (Nat.le_refl mc) (Nat.le_refl ms) hsm.1 (fun mid as hp K => ih mid as hp K) ?_ k 0 (gent nL as) [] hp 0 s.heap [] ls hgo hsm hS hl (Nat.le_refl _) (by omega) (by omega)
    · rw [Nat.sub_self] at W0
      exact W0
    · intro pc ls stk hp' ns v H locs ins hg hdg hq hmc hn1 hn2 hns hsm' hS'
      have hlen : hp'.length = hp.length + mc := by rcases hmc with h | h <;> omega
      refine W.widen (k := mc) (n := ms) (by omega) hns ?_
      have post : ∀ t : State, t.heap = H → s.WarmedH t.vm → QcG D dA base b hp mc Q (as.map (reV base b)).toArray s (.returned (v.map (reV base b))) t := fun t ht _ => ⟨⟨v, hp', rfl, hq, by rw [ht]; exact hsm', hlen⟩, hS'.F ht⟩
      unfold gRet at hg
      split at hg
      · split at hg
        · cases hg
          exact W.iret hx hb hr post hS'.2.2 hdg
        · split at hg
          · rename_i h01
            cases hg
            exact W.zret hx hb hr (by rcases h01 with rfl | rfl <;> rfl) post hS'.2.2 hdg
          · cases hg
        · cases hg
      · split at hg
        · cases hg
          exact W.lret hx hb hr post hS'.2.2 hdg
        · cases hg
      · split at hg
        · cases hg
          exact W.vret hx hb hr post hS'.2.2 hdg
        · cases hg
      · cases hg
