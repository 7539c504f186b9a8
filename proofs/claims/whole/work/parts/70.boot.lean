/-! an evaluator of the ghost machine, for the constructors. Printed by wip/whole/gen70.py -/
/-- a list's spine, made before it is used -/
def fcL {β : Type} : GH → (GH → β) → β
  | [], k => k []
  | x :: t, k => fcL t (fun t' => k (x :: t'))
theorem fcL_eq {β : Type} : ∀ (l : GH) (k : GH → β), fcL l k = k l
  | [], _ => rfl
  | x :: t, k => fcL_eq t (fun t' => k (x :: t'))
/-- a method: its class, whether it is a constructor, what it answers, cells, slots, locals -/
abbrev Inf : Type := Nat × Bool × Option FieldType × Nat × Nat × Nat
def gRun (dec : Nat → Nat → Option (Instr × Nat)) (inf : Nat → Option Inf) : Nat → Nat → Nat → Inf → Nat → Nat → GL → List Value → GH → Nat → Option (Option Value × GH)
  | 0, _, _, _, _, _, _, _, _, _ => none
  | f + 1, d, mid, i, n0, pc, loc, stk, hp, ns => match dec mid pc with
    | none => none
    | some (ins, len) => match gAlu ins stk with
      | some stk' => if len = gLen ins then gRun dec inf f d mid i n0 (pc + len) loc stk' hp ns else none
      | none => match gLoc ins loc stk with
        | some (loc', stk', l2) => if l2 = len then gRun dec inf f d mid i n0 (pc + len) loc' stk' hp ns else none
        | none => match gBr ins pc stk with
          | some (t, tk, stk') => if gThree ins len = true then gRun dec inf f d mid i n0 (if tk = true then t else pc + 3) loc stk' hp ns else none
          | none => match gHp none i.1 i.2.1 ins hp stk with
            | some (hp', stk', l2, dc, ds) => if l2 = len ∧ (dc = 0 ∧ ds = 0 ∨ hp.length + dc ≤ n0 + i.2.2.2.1 ∧ ns + ds ≤ i.2.2.2.2.1) then fcL hp' (fun h => gRun dec inf f d mid i n0 (pc + len) loc stk' h (ns + ds)) else none
            | none => match gCall i.1 ins hp stk with
              | some (mid', as, rest) => if len = 3 ∧ (cM mid' = 0 ∧ sM mid' = 0 ∨ hp.length + cM mid' ≤ n0 + i.2.2.2.1 ∧ ns + sM mid' ≤ i.2.2.2.2.1) then (match d with
                | 0 => none
                | d' + 1 => match inf mid' with
                  | none => none
                  | some j => if (gargs as).length ≤ j.2.2.2.2.2 then (match gRun dec inf f d' mid' j hp.length 0 (gent j.2.2.2.2.2 as) [] hp 0 with
                    | some (v, hp') => fcL hp' (fun h => gRun dec inf f d mid i n0 (pc + 3) loc (v.toList ++ rest) h (ns + sM mid'))
                    | none => none) else none) else none
              | none => match gRet i.2.2.1 ins stk with
                | some v => if len = 1 ∧ (i.2.2.2.1 = 0 ∨ hp.length = n0 + i.2.2.2.1) then some (v, hp) else none
                | none => none
section EV
variable {xs : Option (List Int32)} {d cn : Nat} {ini : Bool} {ret' : Option FieldType} {mc ms n0 : Nat} {cc : ByteArray} {Q : Option Value → GH → Prop} {ns pc : Nat} {loc : GL} {stk st : List Value} {hp : GH}
theorem g_hpB {ins : Instr} {len pc' dc ds : Nat} {hp' : GH} {stk' : List Value} (hd : decode cc pc = .ok (ins, len)) (ha : gHp xs cn ini ins hp stk = some (hp', stk', len, dc, ds)) (hb : (dc = 0 ∧ ds = 0) ∨ (hp.length + dc ≤ n0 + mc ∧ ns + ds ≤ ms)) (hpc : pc + len = pc') (k : G xs d cn ini ret' mc ms n0 cc Q (ns + ds) pc' loc stk' hp') : G xs d cn ini ret' mc ms n0 cc Q ns pc loc stk hp := by
  subst hpc
  obtain ⟨k, h⟩ := k
  exact ⟨k + 1, ins, len, hd, Or.inr (Or.inr (Or.inr (Or.inl ⟨hp', stk', dc, ds, ha, hb, h⟩)))⟩
theorem g_callB {ins : Instr} {mid pc' : Nat} {as rest : List Value} (hd : decode cc pc = .ok (ins, 3)) (hg : gCall cn ins hp stk = some (mid, as, rest)) (hz : (cM mid = 0 ∧ sM mid = 0) ∨ (hp.length + cM mid ≤ n0 + mc ∧ ns + sM mid ≤ ms)) (hpc : pc + 3 = pc') (k : CallD d mid as hp (fun v hp' => G xs d cn ini ret' mc ms n0 cc Q (ns + sM mid) pc' loc (v.toList ++ rest) hp')) : G xs d cn ini ret' mc ms n0 cc Q ns pc loc stk hp := by
  subst hpc
  obtain ⟨k, h⟩ := CallD_ex d mid as hp (fun k v hp' => GoF (CallD d) xs cn ini ret' mc ms n0 cc Q k (pc + 3) loc (v.toList ++ rest) hp' (ns + sM mid)) k
  exact ⟨k + 1, ins, 3, hd, Or.inr (Or.inr (Or.inr (Or.inr (Or.inl ⟨mid, as, rest, hg, rfl, hz, h⟩))))⟩
end EV
/-- the tables are the class files' -/
def InfOk (dec : Nat → Nat → Option (Instr × Nat)) (inf : Nat → Option Inf) : Prop := ∀ mid i, inf mid = some i → ∃ (y : MethodName) (cc : ByteArray) (n : Nat), mis[mid]? = some (y, cc, i.2.2.2.2.2, i.2.2.1, i.1, i.2.2.2.1, i.2.2.2.2.1, n) ∧ (y.name == "<init>") = i.2.1 ∧ ∀ pc e, dec mid pc = some e → decode cc pc = .ok e
theorem gRun_ok {dec : Nat → Nat → Option (Instr × Nat)} {inf : Nat → Option Inf} (hok : InfOk dec inf) : ∀ (f d mid : Nat) (i : Inf) (n0 pc : Nat) (loc : GL) (stk : List Value) (hp : GH) (ns : Nat) (v : Option Value) (hp' : GH) (cc : ByteArray), (∀ pc e, dec mid pc = some e → decode cc pc = .ok e) → gRun dec inf f d mid i n0 pc loc stk hp ns = some (v, hp') → G none d i.1 i.2.1 i.2.2.1 i.2.2.2.1 i.2.2.2.2.1 n0 cc (fun v2 h2 => v2 = v ∧ h2 = hp') ns pc loc stk hp := by
  intro f
  induction f with
  | zero => intro d mid i n0 pc loc stk hp ns v hp' cc hc h; cases h
  | succ f ih =>
    intro d mid i n0 pc loc stk hp ns v hp' cc hc h
    rw [gRun] at h
    split at h
    · cases h
    · rename_i ins len hdec
      have hd := hc pc _ hdec
      split at h
      · rename_i stk' ha
        split at h
        · rename_i hl
          exact g_s hd ha hl rfl (ih _ _ _ _ _ _ _ _ _ _ _ _ hc h)
        · cases h
      · split at h
        · rename_i loc' stk' l2 ha
          split at h
          · rename_i hl
            subst hl
            exact g_l hd ha rfl (ih _ _ _ _ _ _ _ _ _ _ _ _ hc h)
          · cases h
        · split at h
          · rename_i t tk stk' ha
            split at h
            · rename_i hl
              exact g_br hd ha hl (ih _ _ _ _ _ _ _ _ _ _ _ _ hc h)
            · cases h
          · split at h
            · rename_i h2 stk' l2 dc ds ha
              split at h
              · rename_i hl
                obtain ⟨rfl, hb⟩ := hl
                rw [fcL_eq] at h
                exact g_hpB hd ha hb rfl (ih _ _ _ _ _ _ _ _ _ _ _ _ hc h)
              · cases h
            · split at h
              · rename_i mid' as rest ha
                split at h
                · rename_i hl
                  obtain ⟨rfl, hb⟩ := hl
                  split at h
                  · cases h
                  · rename_i d'
                    split at h
                    · cases h
                    · rename_i j hj
                      split at h
                      · rename_i hal
                        split at h
                        · rename_i v1 h1 hrun
                          rw [fcL_eq] at h
                          obtain ⟨y, cc', n, e1, e2, e3⟩ := hok _ _ hj
                          refine g_callB hd ha hb rfl (CallD_mono _ _ _ _ _ _ (fun v2 h2 q => ?_) (g_enter e1 e2 hal rfl (ih _ _ _ _ _ _ _ _ _ _ _ _ e3 hrun)))
                          obtain ⟨rfl, rfl⟩ := q
                          exact ih _ _ _ _ _ _ _ _ _ _ _ _ hc h
                        · cases h
                      · cases h
                · cases h
              · split at h
                · rename_i v1 ha
                  split at h
                  · rename_i hl
                    obtain ⟨rfl, hb⟩ := hl
                    cases h
                    exact g_ret hd ha hb ⟨rfl, rfl⟩
                  · cases h
                · cases h
def AllD (c : ByteArray) : List (Nat × Instr × Nat) → Prop
  | [] => True
  | e :: t => decode c e.1 = .ok (e.2.1, e.2.2) ∧ AllD c t
def lkD : List (Nat × Instr × Nat) → Nat → Option (Instr × Nat)
  | [], _ => none
  | e :: t, pc => if e.1 = pc then some e.2 else lkD t pc
theorem lkD_ok {c : ByteArray} : ∀ (t : List (Nat × Instr × Nat)), AllD c t → ∀ pc e, lkD t pc = some e → decode c pc = .ok e
  | [], _, pc, e, h => by cases h
  | x :: t, ha, pc, e, h => by
    rw [lkD] at h
    split at h
    · rename_i hp
      cases h
      rw [← hp]
      exact ha.1
    · exact lkD_ok t ha.2 pc e h
def tbX0 : List (Nat × Instr × Nat) := [(0, .aload_n 0, 1), (1, .invokespecial 3, 3), (4, .aload_n 0, 1), (5, .bipush 8, 2), (7, .newarray .int, 2), (9, .putfield 9, 3), (12, .aload_n 0, 1), (13, .bipush 8, 2), (15, .newarray .int, 2), (17, .putfield 15, 3), (20, .aload_n 0, 1), (21, .bipush 8, 2), (23, .newarray .int, 2), (25, .putfield 18, 3), (28, .aload_n 0, 1), (29, .bipush 8, 2), (31, .newarray .int, 2), (33, .putfield 21, 3), (36, .aload_n 0, 1), (37, .bipush 8, 2), (39, .newarray .boolean, 2), (41, .putfield 24, 3), (44, .aload_n 0, 1), (45, .aload_n 1, 1), (46, .putfield 28, 3), (49, .aload_n 0, 1), (50, .aload_n 2, 1), (51, .putfield 32, 3), (54, .return_, 1)]
theorem aX0 : AllD cX0_init tbX0 := by
  unfold tbX0
  exact And.intro dX0_init_0 (And.intro dX0_init_1 (And.intro dX0_init_4 (And.intro dX0_init_5 (And.intro dX0_init_7 (And.intro dX0_init_9 (And.intro dX0_init_12 (And.intro dX0_init_13 (And.intro dX0_init_15 (And.intro dX0_init_17 (And.intro dX0_init_20 (And.intro dX0_init_21 (And.intro dX0_init_23 (And.intro dX0_init_25 (And.intro dX0_init_28 (And.intro dX0_init_29 (And.intro dX0_init_31 (And.intro dX0_init_33 (And.intro dX0_init_36 (And.intro dX0_init_37 (And.intro dX0_init_39 (And.intro dX0_init_41 (And.intro dX0_init_44 (And.intro dX0_init_45 (And.intro dX0_init_46 (And.intro dX0_init_49 (And.intro dX0_init_50 (And.intro dX0_init_51 (And.intro dX0_init_54 (True.intro)))))))))))))))))))))))))))))
def tbX1 : List (Nat × Instr × Nat) := [(0, .aload_n 0, 1), (1, .invokespecial 3, 3), (4, .aload_n 0, 1), (5, .iconst 5, 1), (6, .newarray .int, 2), (8, .putfield 9, 3), (11, .aload_n 0, 1), (12, .iconst 5, 1), (13, .newarray .int, 2), (15, .putfield 15, 3), (18, .aload_n 0, 1), (19, .iconst 5, 1), (20, .newarray .int, 2), (22, .putfield 18, 3), (25, .aload_n 0, 1), (26, .iconst 5, 1), (27, .newarray .int, 2), (29, .putfield 21, 3), (32, .aload_n 0, 1), (33, .aload_n 1, 1), (34, .putfield 24, 3), (37, .aload_n 0, 1), (38, .aload_n 2, 1), (39, .putfield 28, 3), (42, .aload_n 0, 1), (43, .aload_n 1, 1), (44, .getfield 31, 3), (47, .getfield 37, 3), (50, .putfield 43, 3), (53, .return_, 1)]
theorem aX1 : AllD cX1_init tbX1 := by
  unfold tbX1
  exact And.intro dX1_init_0 (And.intro dX1_init_1 (And.intro dX1_init_4 (And.intro dX1_init_5 (And.intro dX1_init_6 (And.intro dX1_init_8 (And.intro dX1_init_11 (And.intro dX1_init_12 (And.intro dX1_init_13 (And.intro dX1_init_15 (And.intro dX1_init_18 (And.intro dX1_init_19 (And.intro dX1_init_20 (And.intro dX1_init_22 (And.intro dX1_init_25 (And.intro dX1_init_26 (And.intro dX1_init_27 (And.intro dX1_init_29 (And.intro dX1_init_32 (And.intro dX1_init_33 (And.intro dX1_init_34 (And.intro dX1_init_37 (And.intro dX1_init_38 (And.intro dX1_init_39 (And.intro dX1_init_42 (And.intro dX1_init_43 (And.intro dX1_init_44 (And.intro dX1_init_47 (And.intro dX1_init_50 (And.intro dX1_init_53 (True.intro))))))))))))))))))))))))))))))
def tbX2 : List (Nat × Instr × Nat) := [(0, .aload_n 0, 1), (1, .invokespecial 3, 3), (4, .aload_n 0, 1), (5, .iconst 5, 1), (6, .newarray .int, 2), (8, .putfield 9, 3), (11, .aload_n 0, 1), (12, .iconst 5, 1), (13, .newarray .int, 2), (15, .putfield 15, 3), (18, .aload_n 0, 1), (19, .iconst 5, 1), (20, .newarray .int, 2), (22, .putfield 18, 3), (25, .aload_n 0, 1), (26, .iconst 5, 1), (27, .newarray .int, 2), (29, .putfield 21, 3), (32, .aload_n 0, 1), (33, .iconst 5, 1), (34, .newarray .int, 2), (36, .putfield 24, 3), (39, .aload_n 0, 1), (40, .iconst 2, 1), (41, .putfield 27, 3), (44, .iconst 0, 1), (45, .istore_n 1, 1), (46, .iload_n 1, 1), (47, .iconst 5, 1), (48, .if_icmp .ge 16, 3), (51, .aload_n 0, 1), (52, .getfield 15, 3), (55, .iload_n 1, 1), (56, .iconst 5, 1), (57, .iastore, 1), (58, .iinc 1 1, 3), (61, .goto (-15), 3), (64, .return_, 1)]
theorem aX2 : AllD cX2_init tbX2 := by
  unfold tbX2
  exact And.intro dX2_init_0 (And.intro dX2_init_1 (And.intro dX2_init_4 (And.intro dX2_init_5 (And.intro dX2_init_6 (And.intro dX2_init_8 (And.intro dX2_init_11 (And.intro dX2_init_12 (And.intro dX2_init_13 (And.intro dX2_init_15 (And.intro dX2_init_18 (And.intro dX2_init_19 (And.intro dX2_init_20 (And.intro dX2_init_22 (And.intro dX2_init_25 (And.intro dX2_init_26 (And.intro dX2_init_27 (And.intro dX2_init_29 (And.intro dX2_init_32 (And.intro dX2_init_33 (And.intro dX2_init_34 (And.intro dX2_init_36 (And.intro dX2_init_39 (And.intro dX2_init_40 (And.intro dX2_init_41 (And.intro dX2_init_44 (And.intro dX2_init_45 (And.intro dX2_init_46 (And.intro dX2_init_47 (And.intro dX2_init_48 (And.intro dX2_init_51 (And.intro dX2_init_52 (And.intro dX2_init_55 (And.intro dX2_init_56 (And.intro dX2_init_57 (And.intro dX2_init_58 (And.intro dX2_init_61 (And.intro dX2_init_64 (True.intro))))))))))))))))))))))))))))))))))))))
def tbX3 : List (Nat × Instr × Nat) := [(0, .aload_n 0, 1), (1, .invokespecial 3, 3), (4, .aload_n 0, 1), (5, .aload_n 1, 1), (6, .putfield 9, 3), (9, .aload_n 0, 1), (10, .aload_n 2, 1), (11, .putfield 15, 3), (14, .return_, 1)]
theorem aX3 : AllD cX3_init tbX3 := by
  unfold tbX3
  exact And.intro dX3_init_0 (And.intro dX3_init_1 (And.intro dX3_init_4 (And.intro dX3_init_5 (And.intro dX3_init_6 (And.intro dX3_init_9 (And.intro dX3_init_10 (And.intro dX3_init_11 (And.intro dX3_init_14 (True.intro)))))))))
def tbX4 : List (Nat × Instr × Nat) := [(0, .aload_n 0, 1), (1, .invokespecial 3, 3), (4, .aload_n 0, 1), (5, .iconst 5, 1), (6, .newarray .int, 2), (8, .putfield 9, 3), (11, .aload_n 0, 1), (12, .iconst 5, 1), (13, .newarray .int, 2), (15, .putfield 15, 3), (18, .aload_n 0, 1), (19, .iconst 5, 1), (20, .newarray .int, 2), (22, .putfield 18, 3), (25, .aload_n 0, 1), (26, .aload_n 1, 1), (27, .putfield 21, 3), (30, .return_, 1)]
theorem aX4 : AllD cX4_init tbX4 := by
  unfold tbX4
  exact And.intro dX4_init_0 (And.intro dX4_init_1 (And.intro dX4_init_4 (And.intro dX4_init_5 (And.intro dX4_init_6 (And.intro dX4_init_8 (And.intro dX4_init_11 (And.intro dX4_init_12 (And.intro dX4_init_13 (And.intro dX4_init_15 (And.intro dX4_init_18 (And.intro dX4_init_19 (And.intro dX4_init_20 (And.intro dX4_init_22 (And.intro dX4_init_25 (And.intro dX4_init_26 (And.intro dX4_init_27 (And.intro dX4_init_30 (True.intro))))))))))))))))))
def tbX5 : List (Nat × Instr × Nat) := [(0, .aload_n 0, 1), (1, .invokespecial 3, 3), (4, .aload_n 0, 1), (5, .iconst 5, 1), (6, .newarray .int, 2), (8, .putfield 9, 3), (11, .aload_n 0, 1), (12, .iconst 5, 1), (13, .newarray .int, 2), (15, .putfield 15, 3), (18, .aload_n 0, 1), (19, .iconst 5, 1), (20, .bipush 6, 2), (22, .multianewarray 18 2, 4), (26, .putfield 20, 3), (29, .aload_n 0, 1), (30, .iconst 5, 1), (31, .newarray .boolean, 2), (33, .putfield 23, 3), (36, .return_, 1)]
theorem aX5 : AllD cX5_init tbX5 := by
  unfold tbX5
  exact And.intro dX5_init_0 (And.intro dX5_init_1 (And.intro dX5_init_4 (And.intro dX5_init_5 (And.intro dX5_init_6 (And.intro dX5_init_8 (And.intro dX5_init_11 (And.intro dX5_init_12 (And.intro dX5_init_13 (And.intro dX5_init_15 (And.intro dX5_init_18 (And.intro dX5_init_19 (And.intro dX5_init_20 (And.intro dX5_init_22 (And.intro dX5_init_26 (And.intro dX5_init_29 (And.intro dX5_init_30 (And.intro dX5_init_31 (And.intro dX5_init_33 (And.intro dX5_init_36 (True.intro))))))))))))))))))))
def tbX6 : List (Nat × Instr × Nat) := [(0, .aload_n 0, 1), (1, .invokespecial 3, 3), (4, .aload_n 0, 1), (5, .bipush 12, 2), (7, .anewarray 9, 3), (10, .putfield 11, 3), (13, .iconst 0, 1), (14, .istore_n 2, 1), (15, .iload_n 2, 1), (16, .bipush 12, 2), (18, .if_icmp .ge 23, 3), (21, .aload_n 0, 1), (22, .getfield 11, 3), (25, .iload_n 2, 1), (26, .new 9, 3), (29, .dup, 1), (30, .aload_n 1, 1), (31, .invokespecial 17, 3), (34, .aastore, 1), (35, .iinc 2 1, 3), (38, .goto (-23), 3), (41, .return_, 1)]
theorem aX6 : AllD cX6_init tbX6 := by
  unfold tbX6
  exact And.intro dX6_init_0 (And.intro dX6_init_1 (And.intro dX6_init_4 (And.intro dX6_init_5 (And.intro dX6_init_7 (And.intro dX6_init_10 (And.intro dX6_init_13 (And.intro dX6_init_14 (And.intro dX6_init_15 (And.intro dX6_init_16 (And.intro dX6_init_18 (And.intro dX6_init_21 (And.intro dX6_init_22 (And.intro dX6_init_25 (And.intro dX6_init_26 (And.intro dX6_init_29 (And.intro dX6_init_30 (And.intro dX6_init_31 (And.intro dX6_init_34 (And.intro dX6_init_35 (And.intro dX6_init_38 (And.intro dX6_init_41 (True.intro))))))))))))))))))))))
def tbX7 : List (Nat × Instr × Nat) := [(0, .aload_n 0, 1), (1, .invokespecial 3, 3), (4, .aload_n 0, 1), (5, .bipush 64, 2), (7, .newarray .int, 2), (9, .putfield 9, 3), (12, .return_, 1)]
theorem aX7 : AllD cX7_init tbX7 := by
  unfold tbX7
  exact And.intro dX7_init_0 (And.intro dX7_init_1 (And.intro dX7_init_4 (And.intro dX7_init_5 (And.intro dX7_init_7 (And.intro dX7_init_9 (And.intro dX7_init_12 (True.intro)))))))
def tbX8 : List (Nat × Instr × Nat) := [(0, .aload_n 0, 1), (1, .invokespecial 3, 3), (4, .aload_n 0, 1), (5, .iconst 5, 1), (6, .newarray .int, 2), (8, .putfield 9, 3), (11, .aload_n 0, 1), (12, .iconst 5, 1), (13, .newarray .int, 2), (15, .putfield 15, 3), (18, .aload_n 0, 1), (19, .iconst 5, 1), (20, .newarray .int, 2), (22, .putfield 18, 3), (25, .aload_n 0, 1), (26, .iconst 5, 1), (27, .newarray .int, 2), (29, .putfield 21, 3), (32, .aload_n 0, 1), (33, .iconst 5, 1), (34, .newarray .int, 2), (36, .putfield 24, 3), (39, .return_, 1)]
theorem aX8 : AllD cX8_init tbX8 := by
  unfold tbX8
  exact And.intro dX8_init_0 (And.intro dX8_init_1 (And.intro dX8_init_4 (And.intro dX8_init_5 (And.intro dX8_init_6 (And.intro dX8_init_8 (And.intro dX8_init_11 (And.intro dX8_init_12 (And.intro dX8_init_13 (And.intro dX8_init_15 (And.intro dX8_init_18 (And.intro dX8_init_19 (And.intro dX8_init_20 (And.intro dX8_init_22 (And.intro dX8_init_25 (And.intro dX8_init_26 (And.intro dX8_init_27 (And.intro dX8_init_29 (And.intro dX8_init_32 (And.intro dX8_init_33 (And.intro dX8_init_34 (And.intro dX8_init_36 (And.intro dX8_init_39 (True.intro)))))))))))))))))))))))
def tbX9 : List (Nat × Instr × Nat) := [(0, .aload_n 0, 1), (1, .invokespecial 1, 3), (4, .aload_n 0, 1), (5, .new 7, 3), (8, .dup, 1), (9, .invokespecial 9, 3), (12, .putfield 10, 3), (15, .aload_n 0, 1), (16, .new 16, 3), (19, .dup, 1), (20, .aload_n 1, 1), (21, .invokespecial 18, 3), (24, .putfield 21, 3), (27, .return_, 1)]
theorem aX9 : AllD cX9_init tbX9 := by
  unfold tbX9
  exact And.intro dX9_init_0 (And.intro dX9_init_1 (And.intro dX9_init_4 (And.intro dX9_init_5 (And.intro dX9_init_8 (And.intro dX9_init_9 (And.intro dX9_init_12 (And.intro dX9_init_15 (And.intro dX9_init_16 (And.intro dX9_init_19 (And.intro dX9_init_20 (And.intro dX9_init_21 (And.intro dX9_init_24 (And.intro dX9_init_27 (True.intro))))))))))))))
def tbX10 : List (Nat × Instr × Nat) := [(0, .aload_n 0, 1), (1, .invokespecial 3, 3), (4, .aload_n 0, 1), (5, .iconst 3, 1), (6, .newarray .int, 2), (8, .putfield 9, 3), (11, .aload_n 0, 1), (12, .iconst 3, 1), (13, .anewarray 15, 3), (16, .putfield 17, 3), (19, .aload_n 0, 1), (20, .iconst 3, 1), (21, .newarray .int, 2), (23, .putfield 21, 3), (26, .aload_n 0, 1), (27, .aload_n 1, 1), (28, .putfield 24, 3), (31, .iconst 0, 1), (32, .istore_n 2, 1), (33, .iload_n 2, 1), (34, .iconst 3, 1), (35, .if_icmp .ge 29, 3), (38, .aload_n 0, 1), (39, .getfield 17, 3), (42, .iload_n 2, 1), (43, .new 15, 3), (46, .dup, 1), (47, .aload_n 1, 1), (48, .getfield 28, 3), (51, .getfield 32, 3), (54, .invokespecial 38, 3), (57, .aastore, 1), (58, .iinc 2 1, 3), (61, .goto (-28), 3), (64, .return_, 1)]
theorem aX10 : AllD cX10_init tbX10 := by
  unfold tbX10
  exact And.intro dX10_init_0 (And.intro dX10_init_1 (And.intro dX10_init_4 (And.intro dX10_init_5 (And.intro dX10_init_6 (And.intro dX10_init_8 (And.intro dX10_init_11 (And.intro dX10_init_12 (And.intro dX10_init_13 (And.intro dX10_init_16 (And.intro dX10_init_19 (And.intro dX10_init_20 (And.intro dX10_init_21 (And.intro dX10_init_23 (And.intro dX10_init_26 (And.intro dX10_init_27 (And.intro dX10_init_28 (And.intro dX10_init_31 (And.intro dX10_init_32 (And.intro dX10_init_33 (And.intro dX10_init_34 (And.intro dX10_init_35 (And.intro dX10_init_38 (And.intro dX10_init_39 (And.intro dX10_init_42 (And.intro dX10_init_43 (And.intro dX10_init_46 (And.intro dX10_init_47 (And.intro dX10_init_48 (And.intro dX10_init_51 (And.intro dX10_init_54 (And.intro dX10_init_57 (And.intro dX10_init_58 (And.intro dX10_init_61 (And.intro dX10_init_64 (True.intro)))))))))))))))))))))))))))))))))))
def tbX11 : List (Nat × Instr × Nat) := [(0, .aload_n 0, 1), (1, .invokespecial 1, 3), (4, .aload_n 0, 1), (5, .new 7, 3), (8, .dup, 1), (9, .invokespecial 9, 3), (12, .putfield 10, 3), (15, .aload_n 0, 1), (16, .new 16, 3), (19, .dup, 1), (20, .invokespecial 18, 3), (23, .putfield 19, 3), (26, .aload_n 0, 1), (27, .new 23, 3), (30, .dup, 1), (31, .invokespecial 25, 3), (34, .putfield 26, 3), (37, .aload_n 0, 1), (38, .new 30, 3), (41, .dup, 1), (42, .aload_n 0, 1), (43, .getfield 26, 3), (46, .invokespecial 32, 3), (49, .putfield 35, 3), (52, .aload_n 0, 1), (53, .new 39, 3), (56, .dup, 1), (57, .aload_n 0, 1), (58, .getfield 26, 3), (61, .invokespecial 41, 3), (64, .putfield 42, 3), (67, .aload_n 0, 1), (68, .iconst 2, 1), (69, .anewarray 30, 3), (72, .putfield 46, 3), (75, .iconst 0, 1), (76, .istore_n 1, 1), (77, .iload_n 1, 1), (78, .iconst 2, 1), (79, .if_icmp .ge 26, 3), (82, .aload_n 0, 1), (83, .getfield 46, 3), (86, .iload_n 1, 1), (87, .new 30, 3), (90, .dup, 1), (91, .aload_n 0, 1), (92, .getfield 26, 3), (95, .invokespecial 32, 3), (98, .aastore, 1), (99, .iinc 1 1, 3), (102, .goto (-25), 3), (105, .aload_n 0, 1), (106, .iconst 2, 1), (107, .newarray .boolean, 2), (109, .putfield 50, 3), (112, .new 30, 3), (115, .dup, 1), (116, .aload_n 0, 1), (117, .getfield 26, 3), (120, .invokespecial 32, 3), (123, .astore_n 1, 1), (124, .aload_n 0, 1), (125, .new 54, 3), (128, .dup, 1), (129, .aload_n 0, 1), (130, .getfield 35, 3), (133, .getfield 56, 3), (136, .aload_n 1, 1), (137, .getfield 56, 3), (140, .invokespecial 60, 3), (143, .putfield 63, 3), (146, .aload_n 0, 1), (147, .new 67, 3), (150, .dup, 1), (151, .aload_n 0, 1), (152, .getfield 35, 3), (155, .aload_n 1, 1), (156, .invokespecial 69, 3), (159, .putfield 72, 3), (162, .aload_n 0, 1), (163, .new 76, 3), (166, .dup, 1), (167, .aload_n 0, 1), (168, .getfield 35, 3), (171, .invokespecial 78, 3), (174, .putfield 81, 3), (177, .aload_n 0, 1), (178, .new 85, 3), (181, .dup, 1), (182, .aload_n 0, 1), (183, .getfield 35, 3), (186, .aload_n 1, 1), (187, .invokespecial 87, 3), (190, .putfield 88, 3), (193, .return_, 1)]
theorem aX11 : AllD cX11_init tbX11 := by
  unfold tbX11
  exact And.intro dX11_init_0 (And.intro dX11_init_1 (And.intro dX11_init_4 (And.intro dX11_init_5 (And.intro dX11_init_8 (And.intro dX11_init_9 (And.intro dX11_init_12 (And.intro dX11_init_15 (And.intro dX11_init_16 (And.intro dX11_init_19 (And.intro dX11_init_20 (And.intro dX11_init_23 (And.intro dX11_init_26 (And.intro dX11_init_27 (And.intro dX11_init_30 (And.intro dX11_init_31 (And.intro dX11_init_34 (And.intro dX11_init_37 (And.intro dX11_init_38 (And.intro dX11_init_41 (And.intro dX11_init_42 (And.intro dX11_init_43 (And.intro dX11_init_46 (And.intro dX11_init_49 (And.intro dX11_init_52 (And.intro dX11_init_53 (And.intro dX11_init_56 (And.intro dX11_init_57 (And.intro dX11_init_58 (And.intro dX11_init_61 (And.intro dX11_init_64 (And.intro dX11_init_67 (And.intro dX11_init_68 (And.intro dX11_init_69 (And.intro dX11_init_72 (And.intro dX11_init_75 (And.intro dX11_init_76 (And.intro dX11_init_77 (And.intro dX11_init_78 (And.intro dX11_init_79 (And.intro dX11_init_82 (And.intro dX11_init_83 (And.intro dX11_init_86 (And.intro dX11_init_87 (And.intro dX11_init_90 (And.intro dX11_init_91 (And.intro dX11_init_92 (And.intro dX11_init_95 (And.intro dX11_init_98 (And.intro dX11_init_99 (And.intro dX11_init_102 (And.intro dX11_init_105 (And.intro dX11_init_106 (And.intro dX11_init_107 (And.intro dX11_init_109 (And.intro dX11_init_112 (And.intro dX11_init_115 (And.intro dX11_init_116 (And.intro dX11_init_117 (And.intro dX11_init_120 (And.intro dX11_init_123 (And.intro dX11_init_124 (And.intro dX11_init_125 (And.intro dX11_init_128 (And.intro dX11_init_129 (And.intro dX11_init_130 (And.intro dX11_init_133 (And.intro dX11_init_136 (And.intro dX11_init_137 (And.intro dX11_init_140 (And.intro dX11_init_143 (And.intro dX11_init_146 (And.intro dX11_init_147 (And.intro dX11_init_150 (And.intro dX11_init_151 (And.intro dX11_init_152 (And.intro dX11_init_155 (And.intro dX11_init_156 (And.intro dX11_init_159 (And.intro dX11_init_162 (And.intro dX11_init_163 (And.intro dX11_init_166 (And.intro dX11_init_167 (And.intro dX11_init_168 (And.intro dX11_init_171 (And.intro dX11_init_174 (And.intro dX11_init_177 (And.intro dX11_init_178 (And.intro dX11_init_181 (And.intro dX11_init_182 (And.intro dX11_init_183 (And.intro dX11_init_186 (And.intro dX11_init_187 (And.intro dX11_init_190 (And.intro dX11_init_193 (True.intro)))))))))))))))))))))))))))))))))))))))))))))))))))))))))))))))))))))))))))))))))))))))))))))))
def tbX12 : List (Nat × Instr × Nat) := [(0, .aload_n 0, 1), (1, .invokespecial 1, 3), (4, .aload_n 0, 1), (5, .bipush 64, 2), (7, .newarray .int, 2), (9, .putfield 7, 3), (12, .aload_n 0, 1), (13, .iconst 2, 1), (14, .putfield 13, 3), (17, .aload_n 0, 1), (18, .iconst 5, 1), (19, .newarray .int, 2), (21, .putfield 17, 3), (24, .aload_n 0, 1), (25, .iconst 5, 1), (26, .newarray .int, 2), (28, .putfield 20, 3), (31, .aload_n 0, 1), (32, .iconst 5, 1), (33, .newarray .int, 2), (35, .putfield 23, 3), (38, .aload_n 0, 1), (39, .iconst 5, 1), (40, .newarray .int, 2), (42, .putfield 26, 3), (45, .aload_n 0, 1), (46, .iconst 5, 1), (47, .newarray .int, 2), (49, .putfield 29, 3), (52, .aload_n 0, 1), (53, .iconst 5, 1), (54, .newarray .int, 2), (56, .putfield 32, 3), (59, .aload_n 0, 1), (60, .iconst 5, 1), (61, .newarray .int, 2), (63, .putfield 35, 3), (66, .aload_n 0, 1), (67, .iconst 5, 1), (68, .newarray .int, 2), (70, .putfield 38, 3), (73, .aload_n 0, 1), (74, .iconst 5, 1), (75, .newarray .int, 2), (77, .putfield 41, 3), (80, .aload_n 0, 1), (81, .iconst 5, 1), (82, .newarray .int, 2), (84, .putfield 44, 3), (87, .aload_n 0, 1), (88, .iconst 5, 1), (89, .newarray .int, 2), (91, .putfield 47, 3), (94, .aload_n 0, 1), (95, .iconst 5, 1), (96, .newarray .int, 2), (98, .putfield 50, 3), (101, .aload_n 0, 1), (102, .iconst 5, 1), (103, .newarray .int, 2), (105, .putfield 53, 3), (108, .aload_n 0, 1), (109, .bipush 30, 2), (111, .newarray .int, 2), (113, .putfield 56, 3), (116, .aload_n 0, 1), (117, .sipush 192, 3), (120, .newarray .int, 2), (122, .putfield 59, 3), (125, .aload_n 0, 1), (126, .bipush 72, 2), (128, .newarray .int, 2), (130, .putfield 62, 3), (133, .aload_n 0, 1), (134, .iconst 2, 1), (135, .newarray .boolean, 2), (137, .putfield 65, 3), (140, .aload_n 0, 1), (141, .iconst 5, 1), (142, .newarray .int, 2), (144, .putfield 69, 3), (147, .aload_n 0, 1), (148, .iconst 5, 1), (149, .newarray .int, 2), (151, .putfield 72, 3), (154, .aload_n 0, 1), (155, .iconst 5, 1), (156, .newarray .int, 2), (158, .putfield 75, 3), (161, .aload_n 0, 1), (162, .iconst 5, 1), (163, .newarray .int, 2), (165, .putfield 78, 3), (168, .aload_n 0, 1), (169, .iconst 5, 1), (170, .newarray .int, 2), (172, .putfield 81, 3), (175, .aload_n 0, 1), (176, .iconst 5, 1), (177, .newarray .int, 2), (179, .putfield 84, 3), (182, .aload_n 0, 1), (183, .bipush 8, 2), (185, .newarray .int, 2), (187, .putfield 87, 3), (190, .aload_n 0, 1), (191, .bipush 8, 2), (193, .newarray .int, 2), (195, .putfield 90, 3), (198, .aload_n 0, 1), (199, .bipush 8, 2), (201, .newarray .int, 2), (203, .putfield 93, 3), (206, .aload_n 0, 1), (207, .bipush 8, 2), (209, .newarray .int, 2), (211, .putfield 96, 3), (214, .aload_n 0, 1), (215, .bipush 8, 2), (217, .newarray .boolean, 2), (219, .putfield 99, 3), (222, .aload_n 0, 1), (223, .iconst 3, 1), (224, .newarray .int, 2), (226, .putfield 102, 3), (229, .aload_n 0, 1), (230, .iconst 5, 1), (231, .newarray .int, 2), (233, .putfield 105, 3), (236, .iconst 0, 1), (237, .istore_n 1, 1), (238, .iload_n 1, 1), (239, .iconst 5, 1), (240, .if_icmp .ge 16, 3), (243, .aload_n 0, 1), (244, .getfield 17, 3), (247, .iload_n 1, 1), (248, .iconst 5, 1), (249, .iastore, 1), (250, .iinc 1 1, 3), (253, .goto (-15), 3), (256, .return_, 1)]
theorem aX12 : AllD cX12_init tbX12 := by
  unfold tbX12
  exact And.intro dX12_init_0 (And.intro dX12_init_1 (And.intro dX12_init_4 (And.intro dX12_init_5 (And.intro dX12_init_7 (And.intro dX12_init_9 (And.intro dX12_init_12 (And.intro dX12_init_13 (And.intro dX12_init_14 (And.intro dX12_init_17 (And.intro dX12_init_18 (And.intro dX12_init_19 (And.intro dX12_init_21 (And.intro dX12_init_24 (And.intro dX12_init_25 (And.intro dX12_init_26 (And.intro dX12_init_28 (And.intro dX12_init_31 (And.intro dX12_init_32 (And.intro dX12_init_33 (And.intro dX12_init_35 (And.intro dX12_init_38 (And.intro dX12_init_39 (And.intro dX12_init_40 (And.intro dX12_init_42 (And.intro dX12_init_45 (And.intro dX12_init_46 (And.intro dX12_init_47 (And.intro dX12_init_49 (And.intro dX12_init_52 (And.intro dX12_init_53 (And.intro dX12_init_54 (And.intro dX12_init_56 (And.intro dX12_init_59 (And.intro dX12_init_60 (And.intro dX12_init_61 (And.intro dX12_init_63 (And.intro dX12_init_66 (And.intro dX12_init_67 (And.intro dX12_init_68 (And.intro dX12_init_70 (And.intro dX12_init_73 (And.intro dX12_init_74 (And.intro dX12_init_75 (And.intro dX12_init_77 (And.intro dX12_init_80 (And.intro dX12_init_81 (And.intro dX12_init_82 (And.intro dX12_init_84 (And.intro dX12_init_87 (And.intro dX12_init_88 (And.intro dX12_init_89 (And.intro dX12_init_91 (And.intro dX12_init_94 (And.intro dX12_init_95 (And.intro dX12_init_96 (And.intro dX12_init_98 (And.intro dX12_init_101 (And.intro dX12_init_102 (And.intro dX12_init_103 (And.intro dX12_init_105 (And.intro dX12_init_108 (And.intro dX12_init_109 (And.intro dX12_init_111 (And.intro dX12_init_113 (And.intro dX12_init_116 (And.intro dX12_init_117 (And.intro dX12_init_120 (And.intro dX12_init_122 (And.intro dX12_init_125 (And.intro dX12_init_126 (And.intro dX12_init_128 (And.intro dX12_init_130 (And.intro dX12_init_133 (And.intro dX12_init_134 (And.intro dX12_init_135 (And.intro dX12_init_137 (And.intro dX12_init_140 (And.intro dX12_init_141 (And.intro dX12_init_142 (And.intro dX12_init_144 (And.intro dX12_init_147 (And.intro dX12_init_148 (And.intro dX12_init_149 (And.intro dX12_init_151 (And.intro dX12_init_154 (And.intro dX12_init_155 (And.intro dX12_init_156 (And.intro dX12_init_158 (And.intro dX12_init_161 (And.intro dX12_init_162 (And.intro dX12_init_163 (And.intro dX12_init_165 (And.intro dX12_init_168 (And.intro dX12_init_169 (And.intro dX12_init_170 (And.intro dX12_init_172 (And.intro dX12_init_175 (And.intro dX12_init_176 (And.intro dX12_init_177 (And.intro dX12_init_179 (And.intro dX12_init_182 (And.intro dX12_init_183 (And.intro dX12_init_185 (And.intro dX12_init_187 (And.intro dX12_init_190 (And.intro dX12_init_191 (And.intro dX12_init_193 (And.intro dX12_init_195 (And.intro dX12_init_198 (And.intro dX12_init_199 (And.intro dX12_init_201 (And.intro dX12_init_203 (And.intro dX12_init_206 (And.intro dX12_init_207 (And.intro dX12_init_209 (And.intro dX12_init_211 (And.intro dX12_init_214 (And.intro dX12_init_215 (And.intro dX12_init_217 (And.intro dX12_init_219 (And.intro dX12_init_222 (And.intro dX12_init_223 (And.intro dX12_init_224 (And.intro dX12_init_226 (And.intro dX12_init_229 (And.intro dX12_init_230 (And.intro dX12_init_231 (And.intro dX12_init_233 (And.intro dX12_init_236 (And.intro dX12_init_237 (And.intro dX12_init_238 (And.intro dX12_init_239 (And.intro dX12_init_240 (And.intro dX12_init_243 (And.intro dX12_init_244 (And.intro dX12_init_247 (And.intro dX12_init_248 (And.intro dX12_init_249 (And.intro dX12_init_250 (And.intro dX12_init_253 (And.intro dX12_init_256 (True.intro))))))))))))))))))))))))))))))))))))))))))))))))))))))))))))))))))))))))))))))))))))))))))))))))))))))))))))))))))))))))))))))))))))))))))))))
def decI (mid pc : Nat) : Option (Instr × Nat) := if mid = 0 then lkD tbX0 pc else if mid = 7 then lkD tbX1 pc else if mid = 15 then lkD tbX2 pc else if mid = 26 then lkD tbX3 pc else if mid = 33 then lkD tbX4 pc else if mid = 43 then lkD tbX5 pc else if mid = 51 then lkD tbX6 pc else if mid = 57 then lkD tbX7 pc else if mid = 64 then lkD tbX8 pc else if mid = 72 then lkD tbX9 pc else if mid = 78 then lkD tbX10 pc else if mid = 82 then lkD tbX11 pc else if mid = 113 then lkD tbX12 pc else none
def infI (mid : Nat) : Option Inf := if mid = 0 then some (0, true, none, 5, 40, 3) else if mid = 7 then some (1, true, none, 4, 20, 3) else if mid = 15 then some (2, true, none, 5, 25, 2) else if mid = 26 then some (3, true, none, 0, 0, 3) else if mid = 33 then some (4, true, none, 3, 15, 2) else if mid = 43 then some (5, true, none, 9, 50, 1) else if mid = 51 then some (6, true, none, 133, 648, 3) else if mid = 57 then some (7, true, none, 1, 64, 1) else if mid = 64 then some (8, true, none, 5, 25, 1) else if mid = 72 then some (9, true, none, 10, 51, 2) else if mid = 78 then some (10, true, none, 36, 168, 3) else if mid = 82 then some (11, true, none, 247, 3000, 2) else if mid = 113 then some (12, true, none, 31, 1000, 2) else none
theorem infI_ok : InfOk decI infI := by
  intro mid i h
  unfold infI at h
  by_cases c0 : mid = 0
  · subst c0
    rw [if_pos rfl] at h
    cases h
    refine ⟨_, _, _, e_X0_init, i_X0_init, fun pc e q => ?_⟩
    unfold decI at q
    rw [if_pos rfl] at q
    exact lkD_ok _ aX0 _ _ q
  by_cases c1 : mid = 7
  · subst c1
    rw [if_neg (by decide), if_pos rfl] at h
    cases h
    refine ⟨_, _, _, e_X1_init, i_X1_init, fun pc e q => ?_⟩
    unfold decI at q
    rw [if_neg (by decide), if_pos rfl] at q
    exact lkD_ok _ aX1 _ _ q
  by_cases c2 : mid = 15
  · subst c2
    rw [if_neg (by decide), if_neg (by decide), if_pos rfl] at h
    cases h
    refine ⟨_, _, _, e_X2_init, i_X2_init, fun pc e q => ?_⟩
    unfold decI at q
    rw [if_neg (by decide), if_neg (by decide), if_pos rfl] at q
    exact lkD_ok _ aX2 _ _ q
  by_cases c3 : mid = 26
  · subst c3
    rw [if_neg (by decide), if_neg (by decide), if_neg (by decide), if_pos rfl] at h
    cases h
    refine ⟨_, _, _, e_X3_init, i_X3_init, fun pc e q => ?_⟩
    unfold decI at q
    rw [if_neg (by decide), if_neg (by decide), if_neg (by decide), if_pos rfl] at q
    exact lkD_ok _ aX3 _ _ q
  by_cases c4 : mid = 33
  · subst c4
    rw [if_neg (by decide), if_neg (by decide), if_neg (by decide), if_neg (by decide), if_pos rfl] at h
    cases h
    refine ⟨_, _, _, e_X4_init, i_X4_init, fun pc e q => ?_⟩
    unfold decI at q
    rw [if_neg (by decide), if_neg (by decide), if_neg (by decide), if_neg (by decide), if_pos rfl] at q
    exact lkD_ok _ aX4 _ _ q
  by_cases c5 : mid = 43
  · subst c5
    rw [if_neg (by decide), if_neg (by decide), if_neg (by decide), if_neg (by decide), if_neg (by decide), if_pos rfl] at h
    cases h
    refine ⟨_, _, _, e_X5_init, i_X5_init, fun pc e q => ?_⟩
    unfold decI at q
    rw [if_neg (by decide), if_neg (by decide), if_neg (by decide), if_neg (by decide), if_neg (by decide), if_pos rfl] at q
    exact lkD_ok _ aX5 _ _ q
  by_cases c6 : mid = 51
  · subst c6
    rw [if_neg (by decide), if_neg (by decide), if_neg (by decide), if_neg (by decide), if_neg (by decide), if_neg (by decide), if_pos rfl] at h
    cases h
    refine ⟨_, _, _, e_X6_init, i_X6_init, fun pc e q => ?_⟩
    unfold decI at q
    rw [if_neg (by decide), if_neg (by decide), if_neg (by decide), if_neg (by decide), if_neg (by decide), if_neg (by decide), if_pos rfl] at q
    exact lkD_ok _ aX6 _ _ q
  by_cases c7 : mid = 57
  · subst c7
    rw [if_neg (by decide), if_neg (by decide), if_neg (by decide), if_neg (by decide), if_neg (by decide), if_neg (by decide), if_neg (by decide), if_pos rfl] at h
    cases h
    refine ⟨_, _, _, e_X7_init, i_X7_init, fun pc e q => ?_⟩
    unfold decI at q
    rw [if_neg (by decide), if_neg (by decide), if_neg (by decide), if_neg (by decide), if_neg (by decide), if_neg (by decide), if_neg (by decide), if_pos rfl] at q
    exact lkD_ok _ aX7 _ _ q
  by_cases c8 : mid = 64
  · subst c8
    rw [if_neg (by decide), if_neg (by decide), if_neg (by decide), if_neg (by decide), if_neg (by decide), if_neg (by decide), if_neg (by decide), if_neg (by decide), if_pos rfl] at h
    cases h
    refine ⟨_, _, _, e_X8_init, i_X8_init, fun pc e q => ?_⟩
    unfold decI at q
    rw [if_neg (by decide), if_neg (by decide), if_neg (by decide), if_neg (by decide), if_neg (by decide), if_neg (by decide), if_neg (by decide), if_neg (by decide), if_pos rfl] at q
    exact lkD_ok _ aX8 _ _ q
  by_cases c9 : mid = 72
  · subst c9
    rw [if_neg (by decide), if_neg (by decide), if_neg (by decide), if_neg (by decide), if_neg (by decide), if_neg (by decide), if_neg (by decide), if_neg (by decide), if_neg (by decide), if_pos rfl] at h
    cases h
    refine ⟨_, _, _, e_X9_init, i_X9_init, fun pc e q => ?_⟩
    unfold decI at q
    rw [if_neg (by decide), if_neg (by decide), if_neg (by decide), if_neg (by decide), if_neg (by decide), if_neg (by decide), if_neg (by decide), if_neg (by decide), if_neg (by decide), if_pos rfl] at q
    exact lkD_ok _ aX9 _ _ q
  by_cases c10 : mid = 78
  · subst c10
    rw [if_neg (by decide), if_neg (by decide), if_neg (by decide), if_neg (by decide), if_neg (by decide), if_neg (by decide), if_neg (by decide), if_neg (by decide), if_neg (by decide), if_neg (by decide), if_pos rfl] at h
    cases h
    refine ⟨_, _, _, e_X10_init, i_X10_init, fun pc e q => ?_⟩
    unfold decI at q
    rw [if_neg (by decide), if_neg (by decide), if_neg (by decide), if_neg (by decide), if_neg (by decide), if_neg (by decide), if_neg (by decide), if_neg (by decide), if_neg (by decide), if_neg (by decide), if_pos rfl] at q
    exact lkD_ok _ aX10 _ _ q
  by_cases c11 : mid = 82
  · subst c11
    rw [if_neg (by decide), if_neg (by decide), if_neg (by decide), if_neg (by decide), if_neg (by decide), if_neg (by decide), if_neg (by decide), if_neg (by decide), if_neg (by decide), if_neg (by decide), if_neg (by decide), if_pos rfl] at h
    cases h
    refine ⟨_, _, _, e_X11_init, i_X11_init, fun pc e q => ?_⟩
    unfold decI at q
    rw [if_neg (by decide), if_neg (by decide), if_neg (by decide), if_neg (by decide), if_neg (by decide), if_neg (by decide), if_neg (by decide), if_neg (by decide), if_neg (by decide), if_neg (by decide), if_neg (by decide), if_pos rfl] at q
    exact lkD_ok _ aX11 _ _ q
  by_cases c12 : mid = 113
  · subst c12
    rw [if_neg (by decide), if_neg (by decide), if_neg (by decide), if_neg (by decide), if_neg (by decide), if_neg (by decide), if_neg (by decide), if_neg (by decide), if_neg (by decide), if_neg (by decide), if_neg (by decide), if_neg (by decide), if_pos rfl] at h
    cases h
    refine ⟨_, _, _, e_X12_init, i_X12_init, fun pc e q => ?_⟩
    unfold decI at q
    rw [if_neg (by decide), if_neg (by decide), if_neg (by decide), if_neg (by decide), if_neg (by decide), if_neg (by decide), if_neg (by decide), if_neg (by decide), if_neg (by decide), if_neg (by decide), if_neg (by decide), if_neg (by decide), if_pos rfl] at q
    exact lkD_ok _ aX12 _ _ q
  rw [if_neg c0, if_neg c1, if_neg c2, if_neg c3, if_neg c4, if_neg c5, if_neg c6, if_neg c7, if_neg c8, if_neg c9, if_neg c10, if_neg c11, if_neg c12] at h
  cases h
