section
-- ===== PART A: goes FIRST, ahead of the names: the tables' words, and 'selects' of the private methods out of them =====
/-- a private method of a class that the tables say can be made, by its rows of tables_1 -/
def lw_okq (q : MethodName × Nat) : Prop := (q.1.cls ≠ "java/lang/invoke/MethodHandle" ∧ q.1.cls ≠ "java/lang/invoke/VarHandle") ∧ Cond.instantiable q.1.cls q.2 ∈ tables_1 ∧ Cond.privateMethod q.1 ∈ tables_1 ∧ Cond.instanceMethod q.1 ∈ tables_1
theorem lw_p0 : lw_okq (⟨"OvensAbove$Reading", "begin", "(I)V"⟩, 7) := ⟨⟨by decide +kernel, by decide +kernel⟩, List.mem_of_getElem? (i := 40) (by decide +kernel), List.mem_of_getElem? (i := 387) (by decide +kernel), List.mem_of_getElem? (i := 388) (by decide +kernel)⟩
theorem lw_p1 : lw_okq (⟨"OvensAbove$Reading", "readParts", "(LOvensAbove$Text;)I"⟩, 7) := ⟨⟨by decide +kernel, by decide +kernel⟩, List.mem_of_getElem? (i := 40) (by decide +kernel), List.mem_of_getElem? (i := 391) (by decide +kernel), List.mem_of_getElem? (i := 392) (by decide +kernel)⟩
theorem lw_p2 : lw_okq (⟨"OvensAbove$Reading", "readPot", "(LOvensAbove$Text;I)I"⟩, 7) := ⟨⟨by decide +kernel, by decide +kernel⟩, List.mem_of_getElem? (i := 40) (by decide +kernel), List.mem_of_getElem? (i := 399) (by decide +kernel), List.mem_of_getElem? (i := 400) (by decide +kernel)⟩
theorem lw_p3 : lw_okq (⟨"OvensAbove$Reading", "leastDigit", "(I)I"⟩, 7) := ⟨⟨by decide +kernel, by decide +kernel⟩, List.mem_of_getElem? (i := 40) (by decide +kernel), List.mem_of_getElem? (i := 403) (by decide +kernel), List.mem_of_getElem? (i := 404) (by decide +kernel)⟩
theorem lw_p4 : lw_okq (⟨"OvensAbove$Reading", "mostDigit", "(I)I"⟩, 7) := ⟨⟨by decide +kernel, by decide +kernel⟩, List.mem_of_getElem? (i := 40) (by decide +kernel), List.mem_of_getElem? (i := 407) (by decide +kernel), List.mem_of_getElem? (i := 408) (by decide +kernel)⟩
theorem lw_p5 : lw_okq (⟨"OvensAbove$Reading", "readShutter", "(LOvensAbove$Text;I)I"⟩, 7) := ⟨⟨by decide +kernel, by decide +kernel⟩, List.mem_of_getElem? (i := 40) (by decide +kernel), List.mem_of_getElem? (i := 411) (by decide +kernel), List.mem_of_getElem? (i := 412) (by decide +kernel)⟩
theorem lw_p6 : lw_okq (⟨"OvensAbove$Row", "forgetFirst", "()V"⟩, 2) := ⟨⟨by decide +kernel, by decide +kernel⟩, List.mem_of_getElem? (i := 202) (by decide +kernel), List.mem_of_getElem? (i := 510) (by decide +kernel), List.mem_of_getElem? (i := 511) (by decide +kernel)⟩
theorem lw_p7 : lw_okq (⟨"OvensAbove$Woods", "fireOn", "(IIII)V"⟩, 5) := ⟨⟨by decide +kernel, by decide +kernel⟩, List.mem_of_getElem? (i := 262) (by decide +kernel), List.mem_of_getElem? (i := 639) (by decide +kernel), List.mem_of_getElem? (i := 640) (by decide +kernel)⟩
theorem lw_p8 : lw_okq (⟨"OvensAbove$Woods", "goOn", "(IIII)V"⟩, 5) := ⟨⟨by decide +kernel, by decide +kernel⟩, List.mem_of_getElem? (i := 262) (by decide +kernel), List.mem_of_getElem? (i := 645) (by decide +kernel), List.mem_of_getElem? (i := 646) (by decide +kernel)⟩
theorem lw_p9 : lw_okq (⟨"OvensAbove$Floors", "foresee", "(II)V"⟩, 7) := ⟨⟨by decide +kernel, by decide +kernel⟩, List.mem_of_getElem? (i := 287) (by decide +kernel), List.mem_of_getElem? (i := 662) (by decide +kernel), List.mem_of_getElem? (i := 663) (by decide +kernel)⟩
theorem lw_p10 : lw_okq (⟨"OvensAbove$Floors", "isReadyIn", "(IIZII)Z"⟩, 7) := ⟨⟨by decide +kernel, by decide +kernel⟩, List.mem_of_getElem? (i := 287) (by decide +kernel), List.mem_of_getElem? (i := 666) (by decide +kernel), List.mem_of_getElem? (i := 667) (by decide +kernel)⟩
theorem lw_p11 : lw_okq (⟨"OvensAbove$Floors", "isFree", "(I)Z"⟩, 7) := ⟨⟨by decide +kernel, by decide +kernel⟩, List.mem_of_getElem? (i := 287) (by decide +kernel), List.mem_of_getElem? (i := 673) (by decide +kernel), List.mem_of_getElem? (i := 674) (by decide +kernel)⟩
theorem lw_p12 : lw_okq (⟨"OvensAbove$Floors", "mostPossible", "()I"⟩, 7) := ⟨⟨by decide +kernel, by decide +kernel⟩, List.mem_of_getElem? (i := 287) (by decide +kernel), List.mem_of_getElem? (i := 677) (by decide +kernel), List.mem_of_getElem? (i := 678) (by decide +kernel)⟩
theorem lw_p13 : lw_okq (⟨"OvensAbove$Floors", "readyHere", "()I"⟩, 7) := ⟨⟨by decide +kernel, by decide +kernel⟩, List.mem_of_getElem? (i := 287) (by decide +kernel), List.mem_of_getElem? (i := 681) (by decide +kernel), List.mem_of_getElem? (i := 682) (by decide +kernel)⟩
theorem lw_p14 : lw_okq (⟨"OvensAbove$Floors", "nextPlacing", "()Z"⟩, 7) := ⟨⟨by decide +kernel, by decide +kernel⟩, List.mem_of_getElem? (i := 287) (by decide +kernel), List.mem_of_getElem? (i := 687) (by decide +kernel), List.mem_of_getElem? (i := 688) (by decide +kernel)⟩
theorem lw_p15 : lw_okq (⟨"OvensAbove$Plans", "isCracked", "(IIII)Z"⟩, 2) := ⟨⟨by decide +kernel, by decide +kernel⟩, List.mem_of_getElem? (i := 249) (by decide +kernel), List.mem_of_getElem? (i := 722) (by decide +kernel), List.mem_of_getElem? (i := 723) (by decide +kernel)⟩
def lw_privs_1 : List (MethodName × Nat) := [(⟨"OvensAbove$Reading", "begin", "(I)V"⟩, 7), (⟨"OvensAbove$Reading", "readParts", "(LOvensAbove$Text;)I"⟩, 7), (⟨"OvensAbove$Reading", "readPot", "(LOvensAbove$Text;I)I"⟩, 7), (⟨"OvensAbove$Reading", "leastDigit", "(I)I"⟩, 7), (⟨"OvensAbove$Reading", "mostDigit", "(I)I"⟩, 7), (⟨"OvensAbove$Reading", "readShutter", "(LOvensAbove$Text;I)I"⟩, 7), (⟨"OvensAbove$Row", "forgetFirst", "()V"⟩, 2), (⟨"OvensAbove$Woods", "fireOn", "(IIII)V"⟩, 5), (⟨"OvensAbove$Woods", "goOn", "(IIII)V"⟩, 5), (⟨"OvensAbove$Floors", "foresee", "(II)V"⟩, 7), (⟨"OvensAbove$Floors", "isReadyIn", "(IIZII)Z"⟩, 7), (⟨"OvensAbove$Floors", "isFree", "(I)Z"⟩, 7), (⟨"OvensAbove$Floors", "mostPossible", "()I"⟩, 7), (⟨"OvensAbove$Floors", "readyHere", "()I"⟩, 7), (⟨"OvensAbove$Floors", "nextPlacing", "()Z"⟩, 7), (⟨"OvensAbove$Plans", "isCracked", "(IIII)Z"⟩, 2)]
theorem lw_r1 : ∀ q ∈ lw_privs_1, lw_okq q := List.forall_mem_cons.mpr ⟨lw_p0, List.forall_mem_cons.mpr ⟨lw_p1, List.forall_mem_cons.mpr ⟨lw_p2, List.forall_mem_cons.mpr ⟨lw_p3, List.forall_mem_cons.mpr ⟨lw_p4, List.forall_mem_cons.mpr ⟨lw_p5, List.forall_mem_cons.mpr ⟨lw_p6, List.forall_mem_cons.mpr ⟨lw_p7, List.forall_mem_cons.mpr ⟨lw_p8, List.forall_mem_cons.mpr ⟨lw_p9, List.forall_mem_cons.mpr ⟨lw_p10, List.forall_mem_cons.mpr ⟨lw_p11, List.forall_mem_cons.mpr ⟨lw_p12, List.forall_mem_cons.mpr ⟨lw_p13, List.forall_mem_cons.mpr ⟨lw_p14, List.forall_mem_cons.mpr ⟨lw_p15, fun _ h => absurd h List.not_mem_nil⟩⟩⟩⟩⟩⟩⟩⟩⟩⟩⟩⟩⟩⟩⟩⟩
theorem lw_p16 : lw_okq (⟨"OvensAbove$Cones", "areAllTrue", "(II)Z"⟩, 8) := ⟨⟨by decide +kernel, by decide +kernel⟩, List.mem_of_getElem? (i := 218) (by decide +kernel), List.mem_of_getElem? (i := 764) (by decide +kernel), List.mem_of_getElem? (i := 765) (by decide +kernel)⟩
theorem lw_p17 : lw_okq (⟨"OvensAbove$Cones", "isTrue", "(III)Z"⟩, 8) := ⟨⟨by decide +kernel, by decide +kernel⟩, List.mem_of_getElem? (i := 218) (by decide +kernel), List.mem_of_getElem? (i := 768) (by decide +kernel), List.mem_of_getElem? (i := 769) (by decide +kernel)⟩
theorem lw_p18 : lw_okq (⟨"OvensAboveModel", "readTower", "()I"⟩, 43) := ⟨⟨by decide +kernel, by decide +kernel⟩, List.mem_of_getElem? (i := 789) (by decide +kernel), List.mem_of_getElem? (i := 941) (by decide +kernel), List.mem_of_getElem? (i := 942) (by decide +kernel)⟩
theorem lw_p19 : lw_okq (⟨"OvensAboveModel", "figure", "(II)I"⟩, 43) := ⟨⟨by decide +kernel, by decide +kernel⟩, List.mem_of_getElem? (i := 789) (by decide +kernel), List.mem_of_getElem? (i := 945) (by decide +kernel), List.mem_of_getElem? (i := 946) (by decide +kernel)⟩
theorem lw_p20 : lw_okq (⟨"OvensAboveModel", "readPart", "()Z"⟩, 43) := ⟨⟨by decide +kernel, by decide +kernel⟩, List.mem_of_getElem? (i := 789) (by decide +kernel), List.mem_of_getElem? (i := 949) (by decide +kernel), List.mem_of_getElem? (i := 950) (by decide +kernel)⟩
theorem lw_p21 : lw_okq (⟨"OvensAboveModel", "readShutter", "()Z"⟩, 43) := ⟨⟨by decide +kernel, by decide +kernel⟩, List.mem_of_getElem? (i := 789) (by decide +kernel), List.mem_of_getElem? (i := 953) (by decide +kernel), List.mem_of_getElem? (i := 954) (by decide +kernel)⟩
theorem lw_p22 : lw_okq (⟨"OvensAboveModel", "readPot", "()Z"⟩, 43) := ⟨⟨by decide +kernel, by decide +kernel⟩, List.mem_of_getElem? (i := 789) (by decide +kernel), List.mem_of_getElem? (i := 960) (by decide +kernel), List.mem_of_getElem? (i := 961) (by decide +kernel)⟩
theorem lw_p23 : lw_okq (⟨"OvensAboveModel", "allHeat", "()I"⟩, 43) := ⟨⟨by decide +kernel, by decide +kernel⟩, List.mem_of_getElem? (i := 789) (by decide +kernel), List.mem_of_getElem? (i := 972) (by decide +kernel), List.mem_of_getElem? (i := 973) (by decide +kernel)⟩
theorem lw_p24 : lw_okq (⟨"OvensAboveModel", "countHow", "(I)I"⟩, 43) := ⟨⟨by decide +kernel, by decide +kernel⟩, List.mem_of_getElem? (i := 789) (by decide +kernel), List.mem_of_getElem? (i := 976) (by decide +kernel), List.mem_of_getElem? (i := 977) (by decide +kernel)⟩
theorem lw_p25 : lw_okq (⟨"OvensAboveModel", "noKiln", "(I)Z"⟩, 43) := ⟨⟨by decide +kernel, by decide +kernel⟩, List.mem_of_getElem? (i := 789) (by decide +kernel), List.mem_of_getElem? (i := 984) (by decide +kernel), List.mem_of_getElem? (i := 985) (by decide +kernel)⟩
theorem lw_p26 : lw_okq (⟨"OvensAboveModel", "noPot", "(I)Z"⟩, 43) := ⟨⟨by decide +kernel, by decide +kernel⟩, List.mem_of_getElem? (i := 789) (by decide +kernel), List.mem_of_getElem? (i := 992) (by decide +kernel), List.mem_of_getElem? (i := 993) (by decide +kernel)⟩
theorem lw_p27 : lw_okq (⟨"OvensAboveModel", "note", "()V"⟩, 43) := ⟨⟨by decide +kernel, by decide +kernel⟩, List.mem_of_getElem? (i := 789) (by decide +kernel), List.mem_of_getElem? (i := 1013) (by decide +kernel), List.mem_of_getElem? (i := 1014) (by decide +kernel)⟩
theorem lw_p28 : lw_okq (⟨"OvensAboveModel", "begin", "()V"⟩, 43) := ⟨⟨by decide +kernel, by decide +kernel⟩, List.mem_of_getElem? (i := 789) (by decide +kernel), List.mem_of_getElem? (i := 1017) (by decide +kernel), List.mem_of_getElem? (i := 1018) (by decide +kernel)⟩
theorem lw_p29 : lw_okq (⟨"OvensAboveModel", "go", "(IZ)I"⟩, 43) := ⟨⟨by decide +kernel, by decide +kernel⟩, List.mem_of_getElem? (i := 789) (by decide +kernel), List.mem_of_getElem? (i := 1021) (by decide +kernel), List.mem_of_getElem? (i := 1022) (by decide +kernel)⟩
theorem lw_p30 : lw_okq (⟨"OvensAboveModel", "goHeat", "(IZ)V"⟩, 43) := ⟨⟨by decide +kernel, by decide +kernel⟩, List.mem_of_getElem? (i := 789) (by decide +kernel), List.mem_of_getElem? (i := 1025) (by decide +kernel), List.mem_of_getElem? (i := 1026) (by decide +kernel)⟩
theorem lw_p31 : lw_okq (⟨"OvensAboveModel", "feel", "(I)I"⟩, 43) := ⟨⟨by decide +kernel, by decide +kernel⟩, List.mem_of_getElem? (i := 789) (by decide +kernel), List.mem_of_getElem? (i := 1029) (by decide +kernel), List.mem_of_getElem? (i := 1030) (by decide +kernel)⟩
def lw_privs_2 : List (MethodName × Nat) := [(⟨"OvensAbove$Cones", "areAllTrue", "(II)Z"⟩, 8), (⟨"OvensAbove$Cones", "isTrue", "(III)Z"⟩, 8), (⟨"OvensAboveModel", "readTower", "()I"⟩, 43), (⟨"OvensAboveModel", "figure", "(II)I"⟩, 43), (⟨"OvensAboveModel", "readPart", "()Z"⟩, 43), (⟨"OvensAboveModel", "readShutter", "()Z"⟩, 43), (⟨"OvensAboveModel", "readPot", "()Z"⟩, 43), (⟨"OvensAboveModel", "allHeat", "()I"⟩, 43), (⟨"OvensAboveModel", "countHow", "(I)I"⟩, 43), (⟨"OvensAboveModel", "noKiln", "(I)Z"⟩, 43), (⟨"OvensAboveModel", "noPot", "(I)Z"⟩, 43), (⟨"OvensAboveModel", "note", "()V"⟩, 43), (⟨"OvensAboveModel", "begin", "()V"⟩, 43), (⟨"OvensAboveModel", "go", "(IZ)I"⟩, 43), (⟨"OvensAboveModel", "goHeat", "(IZ)V"⟩, 43), (⟨"OvensAboveModel", "feel", "(I)I"⟩, 43)]
theorem lw_r2 : ∀ q ∈ lw_privs_2, lw_okq q := List.forall_mem_cons.mpr ⟨lw_p16, List.forall_mem_cons.mpr ⟨lw_p17, List.forall_mem_cons.mpr ⟨lw_p18, List.forall_mem_cons.mpr ⟨lw_p19, List.forall_mem_cons.mpr ⟨lw_p20, List.forall_mem_cons.mpr ⟨lw_p21, List.forall_mem_cons.mpr ⟨lw_p22, List.forall_mem_cons.mpr ⟨lw_p23, List.forall_mem_cons.mpr ⟨lw_p24, List.forall_mem_cons.mpr ⟨lw_p25, List.forall_mem_cons.mpr ⟨lw_p26, List.forall_mem_cons.mpr ⟨lw_p27, List.forall_mem_cons.mpr ⟨lw_p28, List.forall_mem_cons.mpr ⟨lw_p29, List.forall_mem_cons.mpr ⟨lw_p30, List.forall_mem_cons.mpr ⟨lw_p31, fun _ h => absurd h List.not_mem_nil⟩⟩⟩⟩⟩⟩⟩⟩⟩⟩⟩⟩⟩⟩⟩⟩
theorem lw_p32 : lw_okq (⟨"OvensAboveModel", "isSalted", "(I)Z"⟩, 43) := ⟨⟨by decide +kernel, by decide +kernel⟩, List.mem_of_getElem? (i := 789) (by decide +kernel), List.mem_of_getElem? (i := 1033) (by decide +kernel), List.mem_of_getElem? (i := 1034) (by decide +kernel)⟩
theorem lw_p33 : lw_okq (⟨"OvensAboveModel", "goMany", "(II)V"⟩, 43) := ⟨⟨by decide +kernel, by decide +kernel⟩, List.mem_of_getElem? (i := 789) (by decide +kernel), List.mem_of_getElem? (i := 1048) (by decide +kernel), List.mem_of_getElem? (i := 1049) (by decide +kernel)⟩
theorem lw_p34 : lw_okq (⟨"OvensAboveModel", "noLeast", "(II)Z"⟩, 43) := ⟨⟨by decide +kernel, by decide +kernel⟩, List.mem_of_getElem? (i := 789) (by decide +kernel), List.mem_of_getElem? (i := 1060) (by decide +kernel), List.mem_of_getElem? (i := 1061) (by decide +kernel)⟩
theorem lw_p35 : lw_okq (⟨"OvensAboveModel", "findLeast", "(II)I"⟩, 43) := ⟨⟨by decide +kernel, by decide +kernel⟩, List.mem_of_getElem? (i := 789) (by decide +kernel), List.mem_of_getElem? (i := 1065) (by decide +kernel), List.mem_of_getElem? (i := 1066) (by decide +kernel)⟩
theorem lw_p36 : lw_okq (⟨"OvensAboveModel", "findFloors", "(II)I"⟩, 43) := ⟨⟨by decide +kernel, by decide +kernel⟩, List.mem_of_getElem? (i := 789) (by decide +kernel), List.mem_of_getElem? (i := 1077) (by decide +kernel), List.mem_of_getElem? (i := 1078) (by decide +kernel)⟩
theorem lw_p37 : lw_okq (⟨"OvensAboveModel", "isTrue", "(I)Z"⟩, 43) := ⟨⟨by decide +kernel, by decide +kernel⟩, List.mem_of_getElem? (i := 789) (by decide +kernel), List.mem_of_getElem? (i := 1112) (by decide +kernel), List.mem_of_getElem? (i := 1113) (by decide +kernel)⟩
def lw_privs_3 : List (MethodName × Nat) := [(⟨"OvensAboveModel", "isSalted", "(I)Z"⟩, 43), (⟨"OvensAboveModel", "goMany", "(II)V"⟩, 43), (⟨"OvensAboveModel", "noLeast", "(II)Z"⟩, 43), (⟨"OvensAboveModel", "findLeast", "(II)I"⟩, 43), (⟨"OvensAboveModel", "findFloors", "(II)I"⟩, 43), (⟨"OvensAboveModel", "isTrue", "(I)Z"⟩, 43)]
theorem lw_r3 : ∀ q ∈ lw_privs_3, lw_okq q := List.forall_mem_cons.mpr ⟨lw_p32, List.forall_mem_cons.mpr ⟨lw_p33, List.forall_mem_cons.mpr ⟨lw_p34, List.forall_mem_cons.mpr ⟨lw_p35, List.forall_mem_cons.mpr ⟨lw_p36, List.forall_mem_cons.mpr ⟨lw_p37, fun _ h => absurd h List.not_mem_nil⟩⟩⟩⟩⟩⟩
def lw_privs : List (MethodName × Nat) := lw_privs_1 ++ (lw_privs_2 ++ (lw_privs_3))
def lw_tbl : List Cond := k2_sels lw_privs ++ tables_1
theorem lw_privs_ok : ∀ q ∈ lw_privs, lw_okq q := by
  show ∀ q ∈ lw_privs_1 ++ (lw_privs_2 ++ (lw_privs_3)), lw_okq q
  exact List.forall_mem_append.mpr ⟨lw_r1, List.forall_mem_append.mpr ⟨lw_r2, lw_r3⟩⟩
end
section
/-! the program's names, printed (claim/NAMES.whole): classes, fields, methods; the words that the law needs -/
/-! ===== BEGIN words of one list among another's, by their places ===== -/
theorem goodIn_r {big : List Cond} (ws : List Cond) (ps : List Nat) (hp : ws = ps.filterMap (fun i => big[i]?)) (h : ws.all goodWord = true) : GoodIn big ws := by
  intro w hw
  have h1 := List.all_eq_true.mp h w hw
  rw [hp] at hw
  obtain ⟨i, -, hi⟩ := List.mem_filterMap.mp hw
  have hm : w ∈ big := by first | exact List.mem_of_getElem? hi | exact List.getElem?_mem hi
  exact ⟨hm, good_of_word h1⟩
theorem goodIn_app {big a b : List Cond} (ha : GoodIn big a) (hb : GoodIn big b) : GoodIn big (a ++ b) := fun w h => (List.mem_append.mp h).elim (ha w) (hb w)
theorem goodIn_ca {big a b : List Cond} {c : Cond} (ha : GoodIn big (c :: a)) (hb : GoodIn big b) : GoodIn big (c :: (a ++ b)) := fun w h => (List.mem_cons.mp h).elim (fun e => ha w (List.mem_cons.mpr (Or.inl e))) (fun h => (List.mem_append.mp h).elim (fun h => ha w (List.mem_cons.mpr (Or.inr h))) (hb w))
theorem goodIn_sub {big ws : List Cond} (hm : ∀ w ∈ ws, w ∈ big) (h : ws.all goodWord = true) : GoodIn big ws := fun w hw => ⟨hm w hw, good_of_word (List.all_eq_true.mp h w hw)⟩
/-! ===== END ===== -/
def RX0 : String := "OvensAbove$Cones"
def TX0 : u_T := fun k => match k with
  | 0 => ("OvensAbove$Cones", "kiln", "[I", true)
  | 1 => ("OvensAbove$Cones", "span", "[I", true)
  | 2 => ("OvensAbove$Cones", "wood", "[I", true)
  | 3 => ("OvensAbove$Cones", "heat", "[I", true)
  | 4 => ("OvensAbove$Cones", "isMore", "[Z", true)
  | 5 => ("OvensAbove$Cones", "now", "LOvensAbove$Kilns;", true)
  | 6 => ("OvensAbove$Cones", "trial", "LOvensAbove$Kilns;", true)
  | _ => ("OvensAbove$Cones", "count", "I", false)
def tyX0 : Nat → FieldType := fun k => match k with
  | 0 => .array .int
  | 1 => .array .int
  | 2 => .array .int
  | 3 => .array .int
  | 4 => .array .boolean
  | 5 => .object "OvensAbove$Kilns"
  | 6 => .object "OvensAbove$Kilns"
  | _ => .int
abbrev wsX00 : List Cond := u_ws RX0 TX0 8
theorem nmX0 : ∀ a, a < 8 → ∀ b, b < 8 → a ≠ b → (TX0 a).2.1 ≠ (TX0 b).2.1 := by decide +kernel
theorem tyX0_ok : ∀ k, k < 8 → parseFieldDescriptor (TX0 k).2.2.1 = some (tyX0 k) := by decide +kernel
abbrev cX0_init : ByteArray := prog_2_method_1_code
def yX0_init : MethodName := ⟨RX0, "<init>", "(LOvensAbove$Kilns;LOvensAbove$Kilns;)V"⟩
abbrev cX0_count : ByteArray := prog_2_method_2_code
def yX0_count : MethodName := ⟨RX0, "count", "()I"⟩
abbrev cX0_add : ByteArray := prog_2_method_3_code
def yX0_add : MethodName := ⟨RX0, "add", "(IIIIZ)I"⟩
abbrev cX0_clear : ByteArray := prog_2_method_4_code
def yX0_clear : MethodName := ⟨RX0, "clear", "()I"⟩
abbrev cX0_trueTenths : ByteArray := prog_2_method_5_code
def yX0_trueTenths : MethodName := ⟨RX0, "trueTenths", "(I)I"⟩
abbrev cX0_areAllTrue : ByteArray := prog_2_method_6_code
def yX0_areAllTrue : MethodName := ⟨RX0, "areAllTrue", "(II)Z"⟩
abbrev cX0_isTrue : ByteArray := prog_2_method_7_code
def yX0_isTrue : MethodName := ⟨RX0, "isTrue", "(III)Z"⟩
def RX1 : String := "OvensAbove$Floors"
def TX1 : u_T := fun k => match k with
  | 0 => ("OvensAbove$Floors", "best", "[I", true)
  | 1 => ("OvensAbove$Floors", "now", "LOvensAbove$Tower;", true)
  | 2 => ("OvensAbove$Floors", "trial", "LOvensAbove$Tower;", true)
  | 3 => ("OvensAbove$Floors", "told", "LOvensAbove$Told;", true)
  | 4 => ("OvensAbove$Floors", "place", "[I", true)
  | 5 => ("OvensAbove$Floors", "readyPlain", "[I", true)
  | _ => ("OvensAbove$Floors", "readySalted", "[I", true)
def tyX1 : Nat → FieldType := fun k => match k with
  | 0 => .array .int
  | 1 => .object "OvensAbove$Tower"
  | 2 => .object "OvensAbove$Tower"
  | 3 => .object "OvensAbove$Told"
  | 4 => .array .int
  | 5 => .array .int
  | _ => .array .int
abbrev wsX10 : List Cond := u_ws RX1 TX1 7
theorem nmX1 : ∀ a, a < 7 → ∀ b, b < 7 → a ≠ b → (TX1 a).2.1 ≠ (TX1 b).2.1 := by decide +kernel
theorem tyX1_ok : ∀ k, k < 7 → parseFieldDescriptor (TX1 k).2.2.1 = some (tyX1 k) := by decide +kernel
abbrev cX1_init : ByteArray := prog_3_method_1_code
def yX1_init : MethodName := ⟨RX1, "<init>", "(LOvensAbove$Tower;LOvensAbove$Tower;)V"⟩
abbrev cX1_search : ByteArray := prog_3_method_2_code
def yX1_search : MethodName := ⟨RX1, "search", "(II)I"⟩
abbrev cX1_isFree : ByteArray := prog_3_method_3_code
def yX1_isFree : MethodName := ⟨RX1, "isFree", "(I)Z"⟩
abbrev cX1_foresee : ByteArray := prog_3_method_4_code
def yX1_foresee : MethodName := ⟨RX1, "foresee", "(II)V"⟩
abbrev cX1_isReadyIn : ByteArray := prog_3_method_5_code
def yX1_isReadyIn : MethodName := ⟨RX1, "isReadyIn", "(IIZII)Z"⟩
abbrev cX1_mostPossible : ByteArray := prog_3_method_6_code
def yX1_mostPossible : MethodName := ⟨RX1, "mostPossible", "()I"⟩
abbrev cX1_readyHere : ByteArray := prog_3_method_7_code
def yX1_readyHere : MethodName := ⟨RX1, "readyHere", "()I"⟩
abbrev cX1_nextPlacing : ByteArray := prog_3_method_8_code
def yX1_nextPlacing : MethodName := ⟨RX1, "nextPlacing", "()Z"⟩
def RX2 : String := "OvensAbove$Kilns"
def TX2 : u_T := fun k => match k with
  | 0 => ("OvensAbove$Kilns", "heat", "[I", true)
  | 1 => ("OvensAbove$Kilns", "shutter", "[I", true)
  | 2 => ("OvensAbove$Kilns", "damper", "[I", true)
  | 3 => ("OvensAbove$Kilns", "was", "[I", true)
  | 4 => ("OvensAbove$Kilns", "came", "[I", true)
  | 5 => ("OvensAbove$Kilns", "count", "I", false)
  | _ => ("OvensAbove$Kilns", "out", "I", false)
def tyX2 : Nat → FieldType := fun k => match k with
  | 0 => .array .int
  | 1 => .array .int
  | 2 => .array .int
  | 3 => .array .int
  | 4 => .array .int
  | 5 => .int
  | _ => .int
abbrev wsX20 : List Cond := u_ws RX2 TX2 7
theorem nmX2 : ∀ a, a < 7 → ∀ b, b < 7 → a ≠ b → (TX2 a).2.1 ≠ (TX2 b).2.1 := by decide +kernel
theorem tyX2_ok : ∀ k, k < 7 → parseFieldDescriptor (TX2 k).2.2.1 = some (tyX2 k) := by decide +kernel
abbrev cX2_init : ByteArray := prog_4_method_1_code
def yX2_init : MethodName := ⟨RX2, "<init>", "()V"⟩
abbrev cX2_isThere : ByteArray := prog_4_method_2_code
def yX2_isThere : MethodName := ⟨RX2, "isThere", "(I)Z"⟩
abbrev cX2_build : ByteArray := prog_4_method_3_code
def yX2_build : MethodName := ⟨RX2, "build", "(LOvensAbove$Reading;)V"⟩
abbrev cX2_cool : ByteArray := prog_4_method_4_code
def yX2_cool : MethodName := ⟨RX2, "cool", "()V"⟩
abbrev cX2_copyFrom : ByteArray := prog_4_method_5_code
def yX2_copyFrom : MethodName := ⟨RX2, "copyFrom", "(LOvensAbove$Kilns;)V"⟩
abbrev cX2_copyHeat : ByteArray := prog_4_method_6_code
def yX2_copyHeat : MethodName := ⟨RX2, "copyHeat", "(LOvensAbove$Kilns;)V"⟩
abbrev cX2_burn : ByteArray := prog_4_method_7_code
def yX2_burn : MethodName := ⟨RX2, "burn", "(I)V"⟩
abbrev cX2_burnAll : ByteArray := prog_4_method_8_code
def yX2_burnAll : MethodName := ⟨RX2, "burnAll", "(II)V"⟩
abbrev cX2_blow : ByteArray := prog_4_method_9_code
def yX2_blow : MethodName := ⟨RX2, "blow", "()V"⟩
abbrev cX2_jump : ByteArray := prog_4_method_10_code
def yX2_jump : MethodName := ⟨RX2, "jump", "(I)I"⟩
abbrev cX2_allHeat : ByteArray := prog_4_method_11_code
def yX2_allHeat : MethodName := ⟨RX2, "allHeat", "()I"⟩
def RX3 : String := "OvensAbove$Plans"
def TX3 : u_T := fun k => match k with
  | 0 => ("OvensAbove$Plans", "now", "LOvensAbove$Tower;", true)
  | _ => ("OvensAbove$Plans", "trial", "LOvensAbove$Tower;", true)
def tyX3 : Nat → FieldType := fun k => match k with
  | 0 => .object "OvensAbove$Tower"
  | _ => .object "OvensAbove$Tower"
abbrev wsX30 : List Cond := u_ws RX3 TX3 2
theorem nmX3 : ∀ a, a < 2 → ∀ b, b < 2 → a ≠ b → (TX3 a).2.1 ≠ (TX3 b).2.1 := by decide +kernel
theorem tyX3_ok : ∀ k, k < 2 → parseFieldDescriptor (TX3 k).2.2.1 = some (tyX3 k) := by decide +kernel
abbrev cX3_init : ByteArray := prog_5_method_1_code
def yX3_init : MethodName := ⟨RX3, "<init>", "(LOvensAbove$Tower;LOvensAbove$Tower;)V"⟩
abbrev cX3_heatBehind : ByteArray := prog_5_method_2_code
def yX3_heatBehind : MethodName := ⟨RX3, "heatBehind", "(III)I"⟩
abbrev cX3_howBehind : ByteArray := prog_5_method_3_code
def yX3_howBehind : MethodName := ⟨RX3, "howBehind", "(III)I"⟩
abbrev cX3_fewestTenths : ByteArray := prog_5_method_4_code
def yX3_fewestTenths : MethodName := ⟨RX3, "fewestTenths", "(IIII)I"⟩
abbrev cX3_crackingWays : ByteArray := prog_5_method_5_code
def yX3_crackingWays : MethodName := ⟨RX3, "crackingWays", "(IIII)J"⟩
abbrev cX3_isCracked : ByteArray := prog_5_method_6_code
def yX3_isCracked : MethodName := ⟨RX3, "isCracked", "(IIII)Z"⟩
abbrev cX3_power : ByteArray := prog_5_method_7_code
def yX3_power : MethodName := ⟨RX3, "power", "(II)J"⟩
def RX4 : String := "OvensAbove$Pots"
def TX4 : u_T := fun k => match k with
  | 0 => ("OvensAbove$Pots", "place", "[I", true)
  | 1 => ("OvensAbove$Pots", "has", "[I", true)
  | 2 => ("OvensAbove$Pots", "how", "[I", true)
  | _ => ("OvensAbove$Pots", "told", "LOvensAbove$Told;", true)
def tyX4 : Nat → FieldType := fun k => match k with
  | 0 => .array .int
  | 1 => .array .int
  | 2 => .array .int
  | _ => .object "OvensAbove$Told"
abbrev wsX40 : List Cond := u_ws RX4 TX4 4
theorem nmX4 : ∀ a, a < 4 → ∀ b, b < 4 → a ≠ b → (TX4 a).2.1 ≠ (TX4 b).2.1 := by decide +kernel
theorem tyX4_ok : ∀ k, k < 4 → parseFieldDescriptor (TX4 k).2.2.1 = some (tyX4 k) := by decide +kernel
abbrev cX4_init : ByteArray := prog_6_method_1_code
def yX4_init : MethodName := ⟨RX4, "<init>", "(LOvensAbove$Told;)V"⟩
abbrev cX4_build : ByteArray := prog_6_method_2_code
def yX4_build : MethodName := ⟨RX4, "build", "(LOvensAbove$Reading;)V"⟩
abbrev cX4_copyFrom : ByteArray := prog_6_method_3_code
def yX4_copyFrom : MethodName := ⟨RX4, "copyFrom", "(LOvensAbove$Pots;)V"⟩
abbrev cX4_copyHow : ByteArray := prog_6_method_4_code
def yX4_copyHow : MethodName := ⟨RX4, "copyHow", "(LOvensAbove$Pots;)V"⟩
abbrev cX4_feelAll : ByteArray := prog_6_method_5_code
def yX4_feelAll : MethodName := ⟨RX4, "feelAll", "(LOvensAbove$Kilns;)I"⟩
abbrev cX4_feel : ByteArray := prog_6_method_6_code
def yX4_feel : MethodName := ⟨RX4, "feel", "(ILOvensAbove$Kilns;Z)V"⟩
abbrev cX4_isSaltBelow : ByteArray := prog_6_method_7_code
def yX4_isSaltBelow : MethodName := ⟨RX4, "isSaltBelow", "(I)Z"⟩
abbrev cX4_potsIn : ByteArray := prog_6_method_8_code
def yX4_potsIn : MethodName := ⟨RX4, "potsIn", "(I)I"⟩
abbrev cX4_howMany : ByteArray := prog_6_method_9_code
def yX4_howMany : MethodName := ⟨RX4, "howMany", "(I)I"⟩
abbrev cX4_canBeReady : ByteArray := prog_6_method_10_code
def yX4_canBeReady : MethodName := ⟨RX4, "canBeReady", "(II)Z"⟩
def RX5 : String := "OvensAbove$Reading"
def TX5 : u_T := fun k => match k with
  | 0 => ("OvensAbove$Reading", "shutter", "[I", true)
  | 1 => ("OvensAbove$Reading", "damper", "[I", true)
  | 2 => ("OvensAbove$Reading", "digits", "[[I", true)
  | 3 => ("OvensAbove$Reading", "kilns", "I", false)
  | 4 => ("OvensAbove$Reading", "pots", "I", false)
  | 5 => ("OvensAbove$Reading", "isTold", "[Z", true)
  | _ => ("OvensAbove$Reading", "shuttersTold", "I", false)
def tyX5 : Nat → FieldType := fun k => match k with
  | 0 => .array .int
  | 1 => .array .int
  | 2 => .array (.array .int)
  | 3 => .int
  | 4 => .int
  | 5 => .array .boolean
  | _ => .int
abbrev wsX50 : List Cond := u_ws RX5 TX5 7
theorem nmX5 : ∀ a, a < 7 → ∀ b, b < 7 → a ≠ b → (TX5 a).2.1 ≠ (TX5 b).2.1 := by decide +kernel
theorem tyX5_ok : ∀ k, k < 7 → parseFieldDescriptor (TX5 k).2.2.1 = some (tyX5 k) := by decide +kernel
abbrev cX5_init : ByteArray := prog_7_method_1_code
def yX5_init : MethodName := ⟨RX5, "<init>", "()V"⟩
abbrev cX5_read : ByteArray := prog_7_method_2_code
def yX5_read : MethodName := ⟨RX5, "read", "(LOvensAbove$Text;)I"⟩
abbrev cX5_begin : ByteArray := prog_7_method_3_code
def yX5_begin : MethodName := ⟨RX5, "begin", "(I)V"⟩
abbrev cX5_readParts : ByteArray := prog_7_method_4_code
def yX5_readParts : MethodName := ⟨RX5, "readParts", "(LOvensAbove$Text;)I"⟩
abbrev cX5_readShutter : ByteArray := prog_7_method_5_code
def yX5_readShutter : MethodName := ⟨RX5, "readShutter", "(LOvensAbove$Text;I)I"⟩
abbrev cX5_readPot : ByteArray := prog_7_method_6_code
def yX5_readPot : MethodName := ⟨RX5, "readPot", "(LOvensAbove$Text;I)I"⟩
abbrev cX5_leastDigit : ByteArray := prog_7_method_7_code
def yX5_leastDigit : MethodName := ⟨RX5, "leastDigit", "(I)I"⟩
abbrev cX5_mostDigit : ByteArray := prog_7_method_8_code
def yX5_mostDigit : MethodName := ⟨RX5, "mostDigit", "(I)I"⟩
def RX6 : String := "OvensAbove$Row"
def TX6 : u_T := fun k => match k with
  | 0 => ("OvensAbove$Row", "ahead", "[LOvensAbove$Tower;", true)
  | _ => ("OvensAbove$Row", "length", "I", false)
def tyX6 : Nat → FieldType := fun k => match k with
  | 0 => .array (.object "OvensAbove$Tower")
  | _ => .int
abbrev wsX60 : List Cond := u_ws RX6 TX6 2
theorem nmX6 : ∀ a, a < 2 → ∀ b, b < 2 → a ≠ b → (TX6 a).2.1 ≠ (TX6 b).2.1 := by decide +kernel
theorem tyX6_ok : ∀ k, k < 2 → parseFieldDescriptor (TX6 k).2.2.1 = some (tyX6 k) := by decide +kernel
abbrev cX6_init : ByteArray := prog_8_method_1_code
def yX6_init : MethodName := ⟨RX6, "<init>", "(LOvensAbove$Told;)V"⟩
abbrev cX6_length : ByteArray := prog_8_method_2_code
def yX6_length : MethodName := ⟨RX6, "length", "()I"⟩
abbrev cX6_forget : ByteArray := prog_8_method_3_code
def yX6_forget : MethodName := ⟨RX6, "forget", "()V"⟩
abbrev cX6_add : ByteArray := prog_8_method_4_code
def yX6_add : MethodName := ⟨RX6, "add", "(LOvensAbove$Tower;)V"⟩
abbrev cX6_forgetFirst : ByteArray := prog_8_method_5_code
def yX6_forgetFirst : MethodName := ⟨RX6, "forgetFirst", "()V"⟩
abbrev cX6_takeBack : ByteArray := prog_8_method_6_code
def yX6_takeBack : MethodName := ⟨RX6, "takeBack", "(LOvensAbove$Tower;)I"⟩
def RX7 : String := "OvensAbove$Text"
def TX7 : u_T := fun k => match k with
  | 0 => ("OvensAbove$Text", "bytes", "[I", true)
  | _ => ("OvensAbove$Text", "length", "I", false)
def tyX7 : Nat → FieldType := fun k => match k with
  | 0 => .array .int
  | _ => .int
abbrev wsX70 : List Cond := u_ws RX7 TX7 2
theorem nmX7 : ∀ a, a < 2 → ∀ b, b < 2 → a ≠ b → (TX7 a).2.1 ≠ (TX7 b).2.1 := by decide +kernel
theorem tyX7_ok : ∀ k, k < 2 → parseFieldDescriptor (TX7 k).2.2.1 = some (tyX7 k) := by decide +kernel
abbrev cX7_init : ByteArray := prog_9_method_1_code
def yX7_init : MethodName := ⟨RX7, "<init>", "()V"⟩
abbrev cX7_length : ByteArray := prog_9_method_2_code
def yX7_length : MethodName := ⟨RX7, "length", "()I"⟩
abbrev cX7_hasRoomFor : ByteArray := prog_9_method_3_code
def yX7_hasRoomFor : MethodName := ⟨RX7, "hasRoomFor", "(I)Z"⟩
abbrev cX7_append : ByteArray := prog_9_method_4_code
def yX7_append : MethodName := ⟨RX7, "append", "(IJ)I"⟩
abbrev cX7_clear : ByteArray := prog_9_method_5_code
def yX7_clear : MethodName := ⟨RX7, "clear", "()I"⟩
abbrev cX7_byteAt : ByteArray := prog_9_method_6_code
def yX7_byteAt : MethodName := ⟨RX7, "byteAt", "(I)I"⟩
abbrev cX7_digitAt : ByteArray := prog_9_method_7_code
def yX7_digitAt : MethodName := ⟨RX7, "digitAt", "(I)I"⟩
def RX8 : String := "OvensAbove$Told"
def TX8 : u_T := fun k => match k with
  | 0 => ("OvensAbove$Told", "kind", "[I", true)
  | 1 => ("OvensAbove$Told", "low", "[I", true)
  | 2 => ("OvensAbove$Told", "high", "[I", true)
  | 3 => ("OvensAbove$Told", "time", "[I", true)
  | 4 => ("OvensAbove$Told", "bears", "[I", true)
  | _ => ("OvensAbove$Told", "count", "I", false)
def tyX8 : Nat → FieldType := fun k => match k with
  | 0 => .array .int
  | 1 => .array .int
  | 2 => .array .int
  | 3 => .array .int
  | 4 => .array .int
  | _ => .int
abbrev wsX80 : List Cond := u_ws RX8 TX8 6
theorem nmX8 : ∀ a, a < 6 → ∀ b, b < 6 → a ≠ b → (TX8 a).2.1 ≠ (TX8 b).2.1 := by decide +kernel
theorem tyX8_ok : ∀ k, k < 6 → parseFieldDescriptor (TX8 k).2.2.1 = some (tyX8 k) := by decide +kernel
abbrev cX8_init : ByteArray := prog_10_method_1_code
def yX8_init : MethodName := ⟨RX8, "<init>", "()V"⟩
abbrev cX8_copyFrom : ByteArray := prog_10_method_2_code
def yX8_copyFrom : MethodName := ⟨RX8, "copyFrom", "(LOvensAbove$Reading;)V"⟩
abbrev cX8_isThere : ByteArray := prog_10_method_3_code
def yX8_isThere : MethodName := ⟨RX8, "isThere", "(I)Z"⟩
abbrev cX8_isSet : ByteArray := prog_10_method_4_code
def yX8_isSet : MethodName := ⟨RX8, "isSet", "(I)Z"⟩
abbrev cX8_isSalt : ByteArray := prog_10_method_5_code
def yX8_isSalt : MethodName := ⟨RX8, "isSalt", "(I)Z"⟩
abbrev cX8_isRaw : ByteArray := prog_10_method_6_code
def yX8_isRaw : MethodName := ⟨RX8, "isRaw", "(I)Z"⟩
abbrev cX8_mostJump : ByteArray := prog_10_method_7_code
def yX8_mostJump : MethodName := ⟨RX8, "mostJump", "(I)I"⟩
abbrev cX8_wants : ByteArray := prog_10_method_8_code
def yX8_wants : MethodName := ⟨RX8, "wants", "(II)Z"⟩
def RX9 : String := "OvensAbove$Tower"
def TX9 : u_T := fun k => match k with
  | 0 => ("OvensAbove$Tower", "kilns", "LOvensAbove$Kilns;", true)
  | _ => ("OvensAbove$Tower", "pots", "LOvensAbove$Pots;", true)
def tyX9 : Nat → FieldType := fun k => match k with
  | 0 => .object "OvensAbove$Kilns"
  | _ => .object "OvensAbove$Pots"
abbrev wsX90 : List Cond := u_ws RX9 TX9 2
theorem nmX9 : ∀ a, a < 2 → ∀ b, b < 2 → a ≠ b → (TX9 a).2.1 ≠ (TX9 b).2.1 := by decide +kernel
theorem tyX9_ok : ∀ k, k < 2 → parseFieldDescriptor (TX9 k).2.2.1 = some (tyX9 k) := by decide +kernel
abbrev cX9_init : ByteArray := prog_11_method_1_code
def yX9_init : MethodName := ⟨RX9, "<init>", "(LOvensAbove$Told;)V"⟩
abbrev cX9_build : ByteArray := prog_11_method_2_code
def yX9_build : MethodName := ⟨RX9, "build", "(LOvensAbove$Reading;)V"⟩
abbrev cX9_copyFrom : ByteArray := prog_11_method_3_code
def yX9_copyFrom : MethodName := ⟨RX9, "copyFrom", "(LOvensAbove$Tower;)V"⟩
abbrev cX9_goBackTo : ByteArray := prog_11_method_4_code
def yX9_goBackTo : MethodName := ⟨RX9, "goBackTo", "(LOvensAbove$Tower;)V"⟩
abbrev cX9_fire : ByteArray := prog_11_method_5_code
def yX9_fire : MethodName := ⟨RX9, "fire", "(I)I"⟩
abbrev cX9_fireAll : ByteArray := prog_11_method_6_code
def yX9_fireAll : MethodName := ⟨RX9, "fireAll", "(II)V"⟩
def RX10 : String := "OvensAbove$Woods"
def TX10 : u_T := fun k => match k with
  | 0 => ("OvensAbove$Woods", "best", "[I", true)
  | 1 => ("OvensAbove$Woods", "now", "LOvensAbove$Tower;", true)
  | 2 => ("OvensAbove$Woods", "behind", "[LOvensAbove$Tower;", true)
  | 3 => ("OvensAbove$Woods", "wood", "[I", true)
  | _ => ("OvensAbove$Woods", "least", "I", false)
def tyX10 : Nat → FieldType := fun k => match k with
  | 0 => .array .int
  | 1 => .object "OvensAbove$Tower"
  | 2 => .array (.object "OvensAbove$Tower")
  | 3 => .array .int
  | _ => .int
abbrev wsX100 : List Cond := u_ws RX10 TX10 5
theorem nmX10 : ∀ a, a < 5 → ∀ b, b < 5 → a ≠ b → (TX10 a).2.1 ≠ (TX10 b).2.1 := by decide +kernel
theorem tyX10_ok : ∀ k, k < 5 → parseFieldDescriptor (TX10 k).2.2.1 = some (tyX10 k) := by decide +kernel
abbrev cX10_init : ByteArray := prog_12_method_1_code
def yX10_init : MethodName := ⟨RX10, "<init>", "(LOvensAbove$Tower;)V"⟩
abbrev cX10_search : ByteArray := prog_12_method_2_code
def yX10_search : MethodName := ⟨RX10, "search", "(II)I"⟩
abbrev cX10_fireOn : ByteArray := prog_12_method_3_code
def yX10_fireOn : MethodName := ⟨RX10, "fireOn", "(IIII)V"⟩
abbrev cX10_goOn : ByteArray := prog_12_method_4_code
def yX10_goOn : MethodName := ⟨RX10, "goOn", "(IIII)V"⟩
def RX11 : String := "OvensAbove"
def TX11 : u_T := fun k => match k with
  | 0 => ("OvensAbove", "text", "LOvensAbove$Text;", true)
  | 1 => ("OvensAbove", "reading", "LOvensAbove$Reading;", true)
  | 2 => ("OvensAbove", "told", "LOvensAbove$Told;", true)
  | 3 => ("OvensAbove", "now", "LOvensAbove$Tower;", true)
  | 4 => ("OvensAbove", "row", "LOvensAbove$Row;", true)
  | 5 => ("OvensAbove", "slots", "[LOvensAbove$Tower;", true)
  | 6 => ("OvensAbove", "kept", "[Z", true)
  | 7 => ("OvensAbove", "cones", "LOvensAbove$Cones;", true)
  | 8 => ("OvensAbove", "plans", "LOvensAbove$Plans;", true)
  | 9 => ("OvensAbove", "woods", "LOvensAbove$Woods;", true)
  | _ => ("OvensAbove", "floors", "LOvensAbove$Floors;", true)
def tyX11 : Nat → FieldType := fun k => match k with
  | 0 => .object "OvensAbove$Text"
  | 1 => .object "OvensAbove$Reading"
  | 2 => .object "OvensAbove$Told"
  | 3 => .object "OvensAbove$Tower"
  | 4 => .object "OvensAbove$Row"
  | 5 => .array (.object "OvensAbove$Tower")
  | 6 => .array .boolean
  | 7 => .object "OvensAbove$Cones"
  | 8 => .object "OvensAbove$Plans"
  | 9 => .object "OvensAbove$Woods"
  | _ => .object "OvensAbove$Floors"
abbrev wsX110 : List Cond := u_ws RX11 TX11 11
theorem nmX11 : ∀ a, a < 11 → ∀ b, b < 11 → a ≠ b → (TX11 a).2.1 ≠ (TX11 b).2.1 := by decide +kernel
theorem tyX11_ok : ∀ k, k < 11 → parseFieldDescriptor (TX11 k).2.2.1 = some (tyX11 k) := by decide +kernel
abbrev cX11_init : ByteArray := prog_1_method_1_code
def yX11_init : MethodName := ⟨RX11, "<init>", "()V"⟩
abbrev cX11_write : ByteArray := prog_1_method_2_code
def yX11_write : MethodName := ⟨RX11, "write", "(IJ)I"⟩
abbrev cX11_wipe : ByteArray := prog_1_method_3_code
def yX11_wipe : MethodName := ⟨RX11, "wipe", "()I"⟩
abbrev cX11_fault : ByteArray := prog_1_method_4_code
def yX11_fault : MethodName := ⟨RX11, "fault", "()I"⟩
abbrev cX11_tower : ByteArray := prog_1_method_5_code
def yX11_tower : MethodName := ⟨RX11, "tower", "()I"⟩
abbrev cX11_about : ByteArray := prog_1_method_6_code
def yX11_about : MethodName := ⟨RX11, "about", "(I)I"⟩
abbrev cX11_kiln : ByteArray := prog_1_method_7_code
def yX11_kiln : MethodName := ⟨RX11, "kiln", "(II)I"⟩
abbrev cX11_pot : ByteArray := prog_1_method_8_code
def yX11_pot : MethodName := ⟨RX11, "pot", "(II)I"⟩
abbrev cX11_open : ByteArray := prog_1_method_9_code
def yX11_open : MethodName := ⟨RX11, "open", "(II)I"⟩
abbrev cX11_damp : ByteArray := prog_1_method_10_code
def yX11_damp : MethodName := ⟨RX11, "damp", "(II)I"⟩
abbrev cX11_put : ByteArray := prog_1_method_11_code
def yX11_put : MethodName := ⟨RX11, "put", "(II)I"⟩
abbrev cX11_quarter : ByteArray := prog_1_method_12_code
def yX11_quarter : MethodName := ⟨RX11, "quarter", "(I)I"⟩
abbrev cX11_undo : ByteArray := prog_1_method_13_code
def yX11_undo : MethodName := ⟨RX11, "undo", "()I"⟩
abbrev cX11_warm : ByteArray := prog_1_method_14_code
def yX11_warm : MethodName := ⟨RX11, "warm", "(III)I"⟩
abbrev cX11_then : ByteArray := prog_1_method_15_code
def yX11_then : MethodName := ⟨RX11, "then", "(III)I"⟩
abbrev cX11_least : ByteArray := prog_1_method_16_code
def yX11_least : MethodName := ⟨RX11, "least", "(II)I"⟩
abbrev cX11_leastAt : ByteArray := prog_1_method_17_code
def yX11_leastAt : MethodName := ⟨RX11, "leastAt", "(III)I"⟩
abbrev cX11_floors : ByteArray := prog_1_method_18_code
def yX11_floors : MethodName := ⟨RX11, "floors", "(II)I"⟩
abbrev cX11_floorAt : ByteArray := prog_1_method_19_code
def yX11_floorAt : MethodName := ⟨RX11, "floorAt", "(III)I"⟩
abbrev cX11_openFor : ByteArray := prog_1_method_20_code
def yX11_openFor : MethodName := ⟨RX11, "openFor", "(IIII)I"⟩
abbrev cX11_gales : ByteArray := prog_1_method_21_code
def yX11_gales : MethodName := ⟨RX11, "gales", "(IIIIZ)J"⟩
abbrev cX11_cone : ByteArray := prog_1_method_22_code
def yX11_cone : MethodName := ⟨RX11, "cone", "(IIIIZ)I"⟩
abbrev cX11_uncone : ByteArray := prog_1_method_23_code
def yX11_uncone : MethodName := ⟨RX11, "uncone", "()I"⟩
abbrev cX11_blame : ByteArray := prog_1_method_24_code
def yX11_blame : MethodName := ⟨RX11, "blame", "(I)I"⟩
abbrev cX11_owed : ByteArray := prog_1_method_25_code
def yX11_owed : MethodName := ⟨RX11, "owed", "(IZ)I"⟩
abbrev cX11_keep : ByteArray := prog_1_method_26_code
def yX11_keep : MethodName := ⟨RX11, "keep", "(I)I"⟩
abbrev cX11_again : ByteArray := prog_1_method_27_code
def yX11_again : MethodName := ⟨RX11, "again", "(I)I"⟩
abbrev cX11_isWood : ByteArray := prog_1_method_28_code
def yX11_isWood : MethodName := ⟨RX11, "isWood", "(I)Z"⟩
abbrev cX11_isSpan : ByteArray := prog_1_method_29_code
def yX11_isSpan : MethodName := ⟨RX11, "isSpan", "(II)Z"⟩
abbrev cX11_part : ByteArray := prog_1_method_30_code
def yX11_part : MethodName := ⟨RX11, "part", "(JJZ)J"⟩
abbrev cX11_commonDivisor : ByteArray := prog_1_method_31_code
def yX11_commonDivisor : MethodName := ⟨RX11, "commonDivisor", "(JJ)J"⟩
def RX12 : String := "OvensAboveModel"
def TX12 : u_T := fun k => match k with
  | 0 => ("OvensAboveModel", "thrown", "I", false)
  | 1 => ("OvensAboveModel", "text", "[I", true)
  | 2 => ("OvensAboveModel", "textSize", "I", false)
  | 3 => ("OvensAboveModel", "place", "I", false)
  | 4 => ("OvensAboveModel", "kilns", "I", false)
  | 5 => ("OvensAboveModel", "pots", "I", false)
  | 6 => ("OvensAboveModel", "shutter", "[I", true)
  | 7 => ("OvensAboveModel", "damper", "[I", true)
  | 8 => ("OvensAboveModel", "heat", "[I", true)
  | 9 => ("OvensAboveModel", "where", "[I", true)
  | 10 => ("OvensAboveModel", "kind", "[I", true)
  | 11 => ("OvensAboveModel", "low", "[I", true)
  | 12 => ("OvensAboveModel", "high", "[I", true)
  | 13 => ("OvensAboveModel", "wants", "[I", true)
  | 14 => ("OvensAboveModel", "bears", "[I", true)
  | 15 => ("OvensAboveModel", "has", "[I", true)
  | 16 => ("OvensAboveModel", "how", "[I", true)
  | 17 => ("OvensAboveModel", "out", "I", false)
  | 18 => ("OvensAboveModel", "readKilns", "I", false)
  | 19 => ("OvensAboveModel", "readPots", "I", false)
  | 20 => ("OvensAboveModel", "readSet", "I", false)
  | 21 => ("OvensAboveModel", "readShutter", "[I", true)
  | 22 => ("OvensAboveModel", "readDamper", "[I", true)
  | 23 => ("OvensAboveModel", "readPot", "[I", true)
  | 24 => ("OvensAboveModel", "book", "[I", true)
  | 25 => ("OvensAboveModel", "quarters", "I", false)
  | 26 => ("OvensAboveModel", "kept", "[I", true)
  | 27 => ("OvensAboveModel", "isKept", "[Z", true)
  | 28 => ("OvensAboveModel", "hot", "[I", true)
  | 29 => ("OvensAboveModel", "was", "[I", true)
  | 30 => ("OvensAboveModel", "up", "[I", true)
  | 31 => ("OvensAboveModel", "got", "[I", true)
  | 32 => ("OvensAboveModel", "state", "[I", true)
  | 33 => ("OvensAboveModel", "stands", "[I", true)
  | 34 => ("OvensAboveModel", "went", "I", false)
  | 35 => ("OvensAboveModel", "cones", "I", false)
  | 36 => ("OvensAboveModel", "coneKiln", "[I", true)
  | 37 => ("OvensAboveModel", "coneMany", "[I", true)
  | 38 => ("OvensAboveModel", "coneWood", "[I", true)
  | 39 => ("OvensAboveModel", "coneHeat", "[I", true)
  | 40 => ("OvensAboveModel", "coneMore", "[Z", true)
  | 41 => ("OvensAboveModel", "wood", "[I", true)
  | _ => ("OvensAboveModel", "best", "[I", true)
def tyX12 : Nat → FieldType := fun k => match k with
  | 0 => .int
  | 1 => .array .int
  | 2 => .int
  | 3 => .int
  | 4 => .int
  | 5 => .int
  | 6 => .array .int
  | 7 => .array .int
  | 8 => .array .int
  | 9 => .array .int
  | 10 => .array .int
  | 11 => .array .int
  | 12 => .array .int
  | 13 => .array .int
  | 14 => .array .int
  | 15 => .array .int
  | 16 => .array .int
  | 17 => .int
  | 18 => .int
  | 19 => .int
  | 20 => .int
  | 21 => .array .int
  | 22 => .array .int
  | 23 => .array .int
  | 24 => .array .int
  | 25 => .int
  | 26 => .array .int
  | 27 => .array .boolean
  | 28 => .array .int
  | 29 => .array .int
  | 30 => .array .int
  | 31 => .array .int
  | 32 => .array .int
  | 33 => .array .int
  | 34 => .int
  | 35 => .int
  | 36 => .array .int
  | 37 => .array .int
  | 38 => .array .int
  | 39 => .array .int
  | 40 => .array .boolean
  | 41 => .array .int
  | _ => .array .int
abbrev wsX120 : List Cond := u_ws RX12 TX12 43
theorem nmX12 : ∀ a, a < 43 → ∀ b, b < 43 → a ≠ b → (TX12 a).2.1 ≠ (TX12 b).2.1 := by decide +kernel
theorem tyX12_ok : ∀ k, k < 43 → parseFieldDescriptor (TX12 k).2.2.1 = some (tyX12 k) := by decide +kernel
abbrev cX12_init : ByteArray := prog_14_method_1_code
def yX12_init : MethodName := ⟨RX12, "<init>", "()V"⟩
abbrev cX12_in : ByteArray := prog_14_method_3_code
def yX12_in : MethodName := ⟨RX12, "in", "(JJJ)Z"⟩
abbrev cX12_has : ByteArray := prog_14_method_4_code
def yX12_has : MethodName := ⟨RX12, "has", "(II)Z"⟩
abbrev cX12_noKiln : ByteArray := prog_14_method_5_code
def yX12_noKiln : MethodName := ⟨RX12, "noKiln", "(I)Z"⟩
abbrev cX12_noPot : ByteArray := prog_14_method_6_code
def yX12_noPot : MethodName := ⟨RX12, "noPot", "(I)Z"⟩
abbrev cX12_noFire : ByteArray := prog_14_method_7_code
def yX12_noFire : MethodName := ⟨RX12, "noFire", "(II)Z"⟩
abbrev cX12_write : ByteArray := prog_14_method_8_code
def yX12_write : MethodName := ⟨RX12, "write", "(IJ)I"⟩
abbrev cX12_wipe : ByteArray := prog_14_method_9_code
def yX12_wipe : MethodName := ⟨RX12, "wipe", "()I"⟩
abbrev cX12_figure : ByteArray := prog_14_method_10_code
def yX12_figure : MethodName := ⟨RX12, "figure", "(II)I"⟩
abbrev cX12_readShutter : ByteArray := prog_14_method_11_code
def yX12_readShutter : MethodName := ⟨RX12, "readShutter", "()Z"⟩
abbrev cX12_readPot : ByteArray := prog_14_method_12_code
def yX12_readPot : MethodName := ⟨RX12, "readPot", "()Z"⟩
abbrev cX12_readPart : ByteArray := prog_14_method_13_code
def yX12_readPart : MethodName := ⟨RX12, "readPart", "()Z"⟩
abbrev cX12_readTower : ByteArray := prog_14_method_14_code
def yX12_readTower : MethodName := ⟨RX12, "readTower", "()I"⟩
abbrev cX12_fault : ByteArray := prog_14_method_15_code
def yX12_fault : MethodName := ⟨RX12, "fault", "()I"⟩
abbrev cX12_tower : ByteArray := prog_14_method_16_code
def yX12_tower : MethodName := ⟨RX12, "tower", "()I"⟩
abbrev cX12_allHeat : ByteArray := prog_14_method_17_code
def yX12_allHeat : MethodName := ⟨RX12, "allHeat", "()I"⟩
abbrev cX12_countHow : ByteArray := prog_14_method_18_code
def yX12_countHow : MethodName := ⟨RX12, "countHow", "(I)I"⟩
abbrev cX12_about : ByteArray := prog_14_method_19_code
def yX12_about : MethodName := ⟨RX12, "about", "(I)I"⟩
abbrev cX12_kiln : ByteArray := prog_14_method_20_code
def yX12_kiln : MethodName := ⟨RX12, "kiln", "(II)I"⟩
abbrev cX12_pot : ByteArray := prog_14_method_21_code
def yX12_pot : MethodName := ⟨RX12, "pot", "(II)I"⟩
abbrev cX12_open : ByteArray := prog_14_method_22_code
def yX12_open : MethodName := ⟨RX12, "open", "(II)I"⟩
abbrev cX12_damp : ByteArray := prog_14_method_23_code
def yX12_damp : MethodName := ⟨RX12, "damp", "(II)I"⟩
abbrev cX12_put : ByteArray := prog_14_method_24_code
def yX12_put : MethodName := ⟨RX12, "put", "(II)I"⟩
abbrev cX12_begin : ByteArray := prog_14_method_25_code
def yX12_begin : MethodName := ⟨RX12, "begin", "()V"⟩
abbrev cX12_goHeat : ByteArray := prog_14_method_26_code
def yX12_goHeat : MethodName := ⟨RX12, "goHeat", "(IZ)V"⟩
abbrev cX12_isSalted : ByteArray := prog_14_method_27_code
def yX12_isSalted : MethodName := ⟨RX12, "isSalted", "(I)Z"⟩
abbrev cX12_feel : ByteArray := prog_14_method_28_code
def yX12_feel : MethodName := ⟨RX12, "feel", "(I)I"⟩
abbrev cX12_go : ByteArray := prog_14_method_29_code
def yX12_go : MethodName := ⟨RX12, "go", "(IZ)I"⟩
abbrev cX12_goMany : ByteArray := prog_14_method_30_code
def yX12_goMany : MethodName := ⟨RX12, "goMany", "(II)V"⟩
abbrev cX12_note : ByteArray := prog_14_method_31_code
def yX12_note : MethodName := ⟨RX12, "note", "()V"⟩
abbrev cX12_quarter : ByteArray := prog_14_method_32_code
def yX12_quarter : MethodName := ⟨RX12, "quarter", "(I)I"⟩
abbrev cX12_undo : ByteArray := prog_14_method_33_code
def yX12_undo : MethodName := ⟨RX12, "undo", "()I"⟩
abbrev cX12_warm : ByteArray := prog_14_method_34_code
def yX12_warm : MethodName := ⟨RX12, "warm", "(III)I"⟩
abbrev cX12_then : ByteArray := prog_14_method_35_code
def yX12_then : MethodName := ⟨RX12, "then", "(III)I"⟩
abbrev cX12_findLeast : ByteArray := prog_14_method_36_code
def yX12_findLeast : MethodName := ⟨RX12, "findLeast", "(II)I"⟩
abbrev cX12_noLeast : ByteArray := prog_14_method_37_code
def yX12_noLeast : MethodName := ⟨RX12, "noLeast", "(II)Z"⟩
abbrev cX12_least : ByteArray := prog_14_method_38_code
def yX12_least : MethodName := ⟨RX12, "least", "(II)I"⟩
abbrev cX12_leastAt : ByteArray := prog_14_method_39_code
def yX12_leastAt : MethodName := ⟨RX12, "leastAt", "(III)I"⟩
abbrev cX12_findFloors : ByteArray := prog_14_method_40_code
def yX12_findFloors : MethodName := ⟨RX12, "findFloors", "(II)I"⟩
abbrev cX12_floors : ByteArray := prog_14_method_41_code
def yX12_floors : MethodName := ⟨RX12, "floors", "(II)I"⟩
abbrev cX12_floorAt : ByteArray := prog_14_method_42_code
def yX12_floorAt : MethodName := ⟨RX12, "floorAt", "(III)I"⟩
abbrev cX12_openFor : ByteArray := prog_14_method_43_code
def yX12_openFor : MethodName := ⟨RX12, "openFor", "(IIII)I"⟩
abbrev cX12_divisor : ByteArray := prog_14_method_44_code
def yX12_divisor : MethodName := ⟨RX12, "divisor", "(JJ)J"⟩
abbrev cX12_gales : ByteArray := prog_14_method_45_code
def yX12_gales : MethodName := ⟨RX12, "gales", "(IIIIZ)J"⟩
abbrev cX12_cone : ByteArray := prog_14_method_46_code
def yX12_cone : MethodName := ⟨RX12, "cone", "(IIIIZ)I"⟩
abbrev cX12_uncone : ByteArray := prog_14_method_47_code
def yX12_uncone : MethodName := ⟨RX12, "uncone", "()I"⟩
abbrev cX12_isTrue : ByteArray := prog_14_method_48_code
def yX12_isTrue : MethodName := ⟨RX12, "isTrue", "(I)Z"⟩
abbrev cX12_blame : ByteArray := prog_14_method_49_code
def yX12_blame : MethodName := ⟨RX12, "blame", "(I)I"⟩
abbrev cX12_owed : ByteArray := prog_14_method_50_code
def yX12_owed : MethodName := ⟨RX12, "owed", "(IZ)I"⟩
abbrev cX12_keep : ByteArray := prog_14_method_51_code
def yX12_keep : MethodName := ⟨RX12, "keep", "(I)I"⟩
abbrev cX12_again : ByteArray := prog_14_method_52_code
def yX12_again : MethodName := ⟨RX12, "again", "(I)I"⟩
def RJ6 : String := "java/lang/Integer"
def TJ6 : u_T := fun k => match k with
  | _ => ("", "", "", false)
def tyJ6 : Nat → FieldType := fun k => match k with
  | _ => .int
abbrev wsJ60 : List Cond := u_ws RJ6 TJ6 0
theorem nmJ6 : ∀ a, a < 0 → ∀ b, b < 0 → a ≠ b → (TJ6 a).2.1 ≠ (TJ6 b).2.1 := by decide +kernel
theorem tyJ6_ok : ∀ k, k < 0 → parseFieldDescriptor (TJ6 k).2.2.1 = some (tyJ6 k) := by decide +kernel
abbrev cJ6_bitCount_0f7a4 : ByteArray := prog_15_method_49_code
def yJ6_bitCount_0f7a4 : MethodName := ⟨RJ6, "bitCount", "(I)I"⟩
def RJ9 : String := "java/lang/Math"
def TJ9 : u_T := fun k => match k with
  | _ => ("", "", "", false)
def tyJ9 : Nat → FieldType := fun k => match k with
  | _ => .int
abbrev wsJ90 : List Cond := u_ws RJ9 TJ9 0
theorem nmJ9 : ∀ a, a < 0 → ∀ b, b < 0 → a ≠ b → (TJ9 a).2.1 ≠ (TJ9 b).2.1 := by decide +kernel
theorem tyJ9_ok : ∀ k, k < 0 → parseFieldDescriptor (TJ9 k).2.2.1 = some (tyJ9 k) := by decide +kernel
abbrev cJ9_abs_0f7a4 : ByteArray := prog_16_method_59_code
def yJ9_abs_0f7a4 : MethodName := ⟨RJ9, "abs", "(I)I"⟩
def RJ10 : String := "java/lang/System"
def TJ10 : u_T := fun k => match k with
  | _ => ("", "", "", false)
def tyJ10 : Nat → FieldType := fun k => match k with
  | _ => .int
abbrev wsJ100 : List Cond := u_ws RJ10 TJ10 0
theorem nmJ10 : ∀ a, a < 0 → ∀ b, b < 0 → a ≠ b → (TJ10 a).2.1 ≠ (TJ10 b).2.1 := by decide +kernel
theorem tyJ10_ok : ∀ k, k < 0 → parseFieldDescriptor (TJ10 k).2.2.1 = some (tyJ10 k) := by decide +kernel
def RL : String := "OvensAboveLaw"
abbrev cL_law : ByteArray := code
def yL_law : MethodName := ⟨RL, "law", "([I)Z"⟩
abbrev vwCl : List vw_C := [(RX0, TX0, 8), (RX1, TX1, 7), (RX2, TX2, 7), (RX3, TX3, 2), (RX4, TX4, 4), (RX5, TX5, 7), (RX6, TX6, 2), (RX7, TX7, 2), (RX8, TX8, 6), (RX9, TX9, 2), (RX10, TX10, 5), (RX11, TX11, 11), (RX12, TX12, 43)]
end
section
/-! the tables of the links: by class number and constant pool place, printed by program (wip/whole/gen3.py) -/
def RR (cn : Nat) : String := [RX0, RX1, RX2, RX3, RX4, RX5, RX6, RX7, RX8, RX9, RX10, RX11, RX12, RJ6, RL].getD cn ""
def tyC (ci : Nat) : Nat → FieldType := [tyX0, tyX1, tyX2, tyX3, tyX4, tyX5, tyX6, tyX7, tyX8, tyX9, tyX10, tyX11, tyX12].getD ci (fun _ => .int)
def fTab : List (List (Nat × Nat × Nat × Nat)) := [[(9, 0, 0, 261), (15, 0, 1, 262), (18, 0, 2, 263), (21, 0, 3, 264), (24, 0, 4, 265), (28, 0, 5, 266), (32, 0, 6, 267), (35, 0, 7, 268), (39, 2, 2, 172), (63, 2, 1, 168), (70, 2, 0, 165)],
  [(9, 1, 0, 330), (15, 1, 4, 335), (18, 1, 5, 336), (21, 1, 6, 337), (24, 1, 1, 332), (28, 1, 2, 333), (31, 9, 1, 230), (37, 4, 3, 214), (43, 1, 3, 334), (48, 8, 5, 133), (58, 4, 0, 204), (76, 4, 2, 210), (79, 9, 0, 228), (83, 2, 5, 178)],
  [(9, 2, 0, 161), (15, 2, 1, 166), (18, 2, 2, 170), (21, 2, 3, 174), (24, 2, 4, 175), (27, 2, 5, 177), (31, 5, 3, 93), (36, 2, 6, 180), (42, 5, 0, 86), (49, 5, 1, 88)],
  [(9, 3, 0, 292), (15, 3, 1, 293), (18, 9, 0, 227), (34, 2, 0, 162), (44, 9, 1, 232), (48, 4, 2, 211), (53, 2, 2, 171), (56, 2, 1, 167), (73, 4, 0, 205)],
  [(9, 4, 0, 203), (15, 4, 1, 207), (18, 4, 2, 209), (21, 4, 3, 213), (25, 5, 4, 95), (31, 5, 2, 90), (45, 8, 5, 134), (70, 2, 4, 176), (73, 2, 0, 163), (80, 8, 3, 128)],
  [(9, 5, 0, 85), (15, 5, 1, 87), (20, 5, 2, 89), (23, 5, 5, 97), (44, 5, 3, 92), (48, 5, 4, 96), (51, 5, 6, 98)],
  [(11, 6, 0, 248), (20, 6, 1, 249)],
  [(9, 7, 0, 69), (15, 7, 1, 70)],
  [(9, 8, 0, 121), (15, 8, 1, 123), (18, 8, 2, 125), (21, 8, 3, 127), (24, 8, 4, 130), (27, 5, 4, 94), (33, 8, 5, 132), (36, 5, 2, 91)],
  [(10, 9, 0, 225), (21, 9, 1, 229)],
  [(9, 10, 0, 307), (17, 10, 2, 310), (21, 10, 3, 311), (24, 10, 1, 309), (28, 9, 1, 231), (32, 4, 3, 215), (41, 10, 4, 312)],
  [(10, 11, 0, 353), (19, 11, 1, 354), (26, 11, 2, 355), (35, 11, 3, 356), (42, 11, 4, 357), (46, 11, 5, 358), (50, 11, 6, 359), (56, 9, 0, 226), (63, 11, 7, 360), (72, 11, 8, 361), (81, 11, 9, 362), (88, 11, 10, 363), (118, 2, 5, 179), (124, 8, 5, 135), (131, 2, 6, 181), (134, 9, 1, 233), (150, 2, 0, 164), (154, 2, 1, 169), (157, 2, 2, 173), (164, 4, 0, 206), (167, 8, 0, 122), (170, 8, 1, 124), (173, 8, 2, 126), (176, 8, 3, 129), (179, 8, 4, 131), (182, 4, 1, 208), (185, 4, 2, 212), (219, 10, 0, 308), (223, 1, 0, 331)],
  [(7, 12, 1, 833), (13, 12, 4, 836), (17, 12, 6, 838), (20, 12, 7, 839), (23, 12, 8, 840), (26, 12, 9, 841), (29, 12, 10, 842), (32, 12, 11, 843), (35, 12, 12, 844), (38, 12, 13, 845), (41, 12, 14, 846), (44, 12, 15, 847), (47, 12, 16, 848), (50, 12, 21, 853), (53, 12, 22, 854), (56, 12, 23, 855), (59, 12, 24, 856), (62, 12, 26, 858), (65, 12, 27, 859), (69, 12, 28, 860), (72, 12, 29, 861), (75, 12, 30, 862), (78, 12, 31, 863), (81, 12, 32, 864), (84, 12, 33, 865), (87, 12, 36, 868), (90, 12, 37, 869), (93, 12, 38, 870), (96, 12, 39, 871), (99, 12, 40, 872), (102, 12, 41, 873), (105, 12, 42, 874), (108, 12, 0, 832), (115, 12, 5, 837), (122, 12, 2, 834), (125, 12, 3, 835), (128, 12, 18, 850), (131, 12, 20, 852), (141, 12, 19, 851), (156, 12, 17, 849), (159, 12, 25, 857), (169, 12, 35, 867), (179, 12, 34, 866)],
  [],
  []]
def fT (cn idx : Nat) : Option (Nat × Nat) := ((fTab.getD cn []).find? (fun q => q.1 == idx)).map (fun q => (q.2.1, q.2.2.1))
def mTab : List (List (Nat × Nat × Nat × Nat)) := [[(44, 5, 0, 801), (48, 6, 0, 805), (52, 16, 0, 809), (56, 19, 0, 810), (60, 18, 0, 811), (66, 22, 0, 812)],
  [(44, 10, 0, 699), (54, 9, 0, 710), (59, 12, 0, 714), (63, 13, 0, 718), (72, 14, 0, 724), (86, 11, 0, 703), (90, 74, 0, 707), (94, 21, 0, 708), (98, 38, 0, 709), (102, 68, 0, 722)],
  [(39, 18, 0, 468), (50, 20, 0, 559), (54, 21, 0, 645)],
  [(24, 19, 0, 640), (30, 22, 0, 641), (38, 74, 0, 654), (41, 77, 0, 655), (59, 164, 1, 750), (65, 32, 1, 756), (69, 31, 0, 759), (76, 39, 0, 763), (80, 21, 0, 764), (84, 23, 0, 765), (87, 38, 0, 769)],
  [(41, 36, 0, 568), (50, 39, 0, 584), (54, 38, 0, 592), (58, 24, 0, 596), (64, 70, 0, 603), (67, 69, 0, 607), (76, 71, 0, 611), (83, 68, 0, 588)],
  [(27, 62, 0, 415), (33, 63, 0, 419), (36, 45, 0, 424), (40, 46, 0, 428), (54, 58, 0, 432), (58, 48, 0, 436), (62, 47, 0, 448), (65, 49, 0, 440), (68, 50, 0, 444)],
  [(17, 72, 2, 247), (24, 55, 0, 547), (27, 74, 0, 551), (31, 75, 0, 623)],
  [(19, 62, 0, 423)],
  [],
  [(9, 15, 2, 157), (18, 33, 2, 199), (25, 17, 0, 464), (29, 34, 0, 475), (30, 19, 0, 555), (34, 35, 0, 563), (37, 20, 0, 627), (40, 36, 0, 628), (43, 21, 0, 576), (47, 37, 0, 580), (51, 76, 0, 659)],
  [(38, 72, 2, 306), (45, 42, 0, 672), (49, 80, 0, 676), (53, 74, 0, 680), (57, 76, 0, 681), (61, 81, 0, 682)],
  [(9, 57, 3, 65), (18, 43, 3, 79), (25, 64, 3, 117), (32, 72, 2, 151), (41, 51, 2, 241), (60, 0, 2, 257), (69, 26, 2, 288), (78, 78, 2, 301), (87, 7, 2, 326), (92, 59, 0, 391), (96, 60, 0, 395), (100, 61, 0, 403), (104, 44, 0, 411), (108, 65, 0, 456), (112, 73, 0, 460), (115, 53, 0, 479), (125, 52, 0, 487), (128, 25, 0, 491), (138, 41, 0, 495), (144, 1, 0, 499), (146, 58, 0, 503), (147, 16, 0, 508), (160, 40, 0, 512), (163, 66, 0, 520), (188, 109, 1, 540), (191, 54, 0, 543), (194, 76, 0, 572), (197, 56, 0, 619), (201, 110, 1, 633), (205, 27, 0, 636), (209, 28, 0, 650), (212, 67, 0, 664), (215, 79, 0, 668), (222, 8, 0, 695), (224, 29, 0, 736), (232, 30, 0, 746), (236, 32, 1, 770), (240, 111, 1, 771), (244, 2, 0, 781), (247, 3, 0, 789), (248, 4, 0, 797), (251, 74, 0, 821), (253, 112, 1, 774)],
  [(111, 114, 1, 967), (134, 115, 1, 994), (137, 121, 0, 982), (144, 122, 0, 990), (147, 123, 0, 997), (149, 124, 0, 986), (152, 125, 0, 978), (162, 128, 0, 1009), (165, 129, 0, 1013), (172, 116, 0, 1021), (176, 117, 0, 1029), (182, 138, 0, 1070), (185, 137, 0, 1062), (189, 139, 0, 1066), (192, 140, 0, 1058), (196, 142, 0, 1050), (199, 136, 0, 1054), (202, 118, 1, 1082), (205, 141, 0, 1085), (211, 148, 0, 1097), (214, 147, 0, 1102), (217, 151, 0, 1114), (226, 155, 1, 1133), (232, 159, 0, 1149)],
  [],
  [(9, 82, 2, 57), (12, 113, 2, 828), (15, 83, 0, 387), (19, 119, 0, 962), (20, 84, 0, 399), (24, 120, 0, 970), (25, 85, 0, 407), (28, 126, 0, 974), (29, 86, 0, 452), (32, 127, 0, 1001), (33, 87, 0, 483), (37, 130, 0, 1005), (38, 88, 0, 504), (42, 131, 0, 1017), (43, 89, 0, 516), (46, 132, 0, 1025), (47, 90, 0, 524), (50, 133, 0, 1033), (51, 91, 0, 528), (54, 134, 0, 1037), (55, 92, 0, 532), (58, 135, 0, 1041), (59, 93, 0, 536), (62, 143, 0, 1045), (63, 94, 0, 615), (66, 144, 0, 1074), (67, 95, 0, 629), (71, 145, 0, 1078), (72, 96, 0, 646), (75, 146, 0, 1089), (76, 97, 0, 660), (79, 149, 0, 1093), (80, 98, 0, 687), (83, 150, 0, 1106), (84, 99, 0, 691), (87, 152, 0, 1110), (88, 100, 0, 728), (91, 153, 0, 1118), (92, 101, 0, 732), (96, 154, 0, 1122), (97, 102, 0, 740), (101, 156, 0, 1126), (102, 103, 0, 777), (106, 157, 0, 1136), (107, 104, 0, 785), (110, 158, 0, 1141), (111, 105, 0, 793), (114, 160, 0, 1145), (115, 106, 0, 813), (119, 161, 0, 1153), (120, 107, 0, 817), (123, 162, 0, 1157), (124, 108, 0, 822), (127, 163, 0, 1161)]]
def mT (cn idx : Nat) : Option (Nat × Nat) := ((mTab.getD cn []).find? (fun q => q.1 == idx)).map (fun q => (q.2.1, q.2.2.1))
def cTab : List (List (Nat × Nat × Nat)) := [[],
  [],
  [],
  [],
  [],
  [],
  [(9, 9, 245)],
  [],
  [],
  [(7, 2, 155), (16, 4, 197)],
  [(15, 9, 305)],
  [(7, 7, 63), (16, 5, 77), (23, 8, 115), (30, 9, 149), (39, 6, 239), (54, 0, 255), (67, 3, 286), (76, 10, 299), (85, 1, 324)],
  [],
  [],
  [(7, 11, 55), (10, 12, 826)]]
def cT (cn idx : Nat) : Option Nat := ((cTab.getD cn []).find? (fun q => q.1 == idx)).map (fun q => q.2.1)
def aTab : List (List (Nat × Nat)) := [[],
  [],
  [],
  [],
  [],
  [],
  [(9, 245)],
  [],
  [],
  [],
  [(15, 305)],
  [(30, 149)],
  [],
  [],
  []]
def aT (cn idx : Nat) : Bool := ((aTab.getD cn []).find? (fun q => q.1 == idx)).isSome
def lTab : List (List (Nat × Int64 × Nat)) := [[],
  [],
  [],
  [],
  [],
  [],
  [],
  [],
  [],
  [],
  [],
  [(228, (-1), 744), (230, (-2), 745)],
  [(118, (9), 1049), (120, (8), 966), (209, (3), 1101), (220, (-1), 1130), (222, (10), 1131), (224, (-2), 1132), (230, (99), 1140)],
  [],
  [(13, (4294967295), 1165)]]
def lT (cn idx : Nat) : Option Int64 := ((lTab.getD cn []).find? (fun q => q.1 == idx)).map (fun q => q.2.1)
def iTab : List (List (Nat × Int32 × Nat)) := [[],
  [],
  [],
  [],
  [],
  [],
  [],
  [],
  [],
  [],
  [],
  [],
  [],
  [(265, (1431655765), 753), (266, (858993459), 754), (267, (252645135), 755)],
  []]
def iT (cn idx : Nat) : Option Int32 := ((iTab.getD cn []).find? (fun q => q.1 == idx)).map (fun q => q.2.1)
def oTab : List (List (Nat × Nat)) := [[(3, 260)],
  [(3, 329)],
  [(3, 160)],
  [(3, 291)],
  [(3, 202)],
  [(3, 82)],
  [(3, 244)],
  [(3, 68)],
  [(3, 120)],
  [(1, 154)],
  [(3, 304)],
  [(1, 60)],
  [(1, 831)],
  [],
  []]
def oT (cn idx : Nat) : Bool := ((oTab.getD cn []).find? (fun q => q.1 == idx)).isSome
def pTab : List (List (Nat × Nat)) := [[],
  [(66, 723)],
  [(43, 472)],
  [],
  [(35, 567)],
  [],
  [],
  [],
  [],
  [],
  [(64, 686)],
  [],
  [],
  [],
  []]
def pT (cn idx : Nat) : Bool := ((pTab.getD cn []).find? (fun q => q.1 == idx)).isSome
def bTab : List (List (Nat × Nat)) := [[],
  [],
  [(58, 600)],
  [],
  [],
  [],
  [],
  [],
  [],
  [],
  [],
  [],
  [],
  [],
  []]
def bT (cn idx : Nat) : Bool := ((bTab.getD cn []).find? (fun q => q.1 == idx)).isSome
/-- name, code, locals, what it answers, class, cells and slots that it may make, parameters -/
abbrev MI : Type := MethodName × ByteArray × Nat × Option FieldType × Nat × Nat × Nat × Nat
def mis0 : List MI := [(yX0_init, cX0_init, 3, none, 0, 5, 40, 2),
  (yX0_count, cX0_count, 1, (some .int), 0, 0, 0, 0),
  (yX0_add, cX0_add, 6, (some .int), 0, 0, 0, 5),
  (yX0_clear, cX0_clear, 2, (some .int), 0, 0, 0, 0),
  (yX0_trueTenths, cX0_trueTenths, 4, (some .int), 0, 0, 0, 1),
  (yX0_areAllTrue, cX0_areAllTrue, 4, (some .boolean), 0, 0, 0, 2),
  (yX0_isTrue, cX0_isTrue, 4, (some .boolean), 0, 0, 0, 3),
  (yX1_init, cX1_init, 3, none, 1, 4, 20, 2),
  (yX1_search, cX1_search, 8, (some .int), 1, 0, 0, 2),
  (yX1_isFree, cX1_isFree, 2, (some .boolean), 1, 0, 0, 1),
  (yX1_foresee, cX1_foresee, 5, none, 1, 0, 0, 2),
  (yX1_isReadyIn, cX1_isReadyIn, 7, (some .boolean), 1, 0, 0, 5),
  (yX1_mostPossible, cX1_mostPossible, 3, (some .int), 1, 0, 0, 0),
  (yX1_readyHere, cX1_readyHere, 5, (some .int), 1, 0, 0, 0),
  (yX1_nextPlacing, cX1_nextPlacing, 2, (some .boolean), 1, 0, 0, 0),
  (yX2_init, cX2_init, 2, none, 2, 5, 25, 0),
  (yX2_isThere, cX2_isThere, 2, (some .boolean), 2, 0, 0, 1),
  (yX2_build, cX2_build, 2, none, 2, 0, 0, 1),
  (yX2_cool, cX2_cool, 2, none, 2, 0, 0, 0),
  (yX2_copyFrom, cX2_copyFrom, 2, none, 2, 0, 0, 1),
  (yX2_copyHeat, cX2_copyHeat, 2, none, 2, 0, 0, 1),
  (yX2_burn, cX2_burn, 6, none, 2, 0, 0, 1),
  (yX2_burnAll, cX2_burnAll, 4, none, 2, 0, 0, 2),
  (yX2_blow, cX2_blow, 2, none, 2, 0, 0, 0),
  (yX2_jump, cX2_jump, 2, (some .int), 2, 0, 0, 1),
  (yX2_allHeat, cX2_allHeat, 3, (some .int), 2, 0, 0, 0),
  (yX3_init, cX3_init, 3, none, 3, 0, 0, 2),
  (yX3_heatBehind, cX3_heatBehind, 4, (some .int), 3, 0, 0, 3),
  (yX3_howBehind, cX3_howBehind, 4, (some .int), 3, 0, 0, 3),
  (yX3_fewestTenths, cX3_fewestTenths, 6, (some .int), 3, 0, 0, 4),
  (yX3_crackingWays, cX3_crackingWays, 11, (some .long), 3, 0, 0, 4),
  (yX3_isCracked, cX3_isCracked, 7, (some .boolean), 3, 0, 0, 4),
  (yX3_power, cX3_power, 5, (some .long), 3, 0, 0, 2),
  (yX4_init, cX4_init, 2, none, 4, 3, 15, 1),
  (yX4_build, cX4_build, 3, none, 4, 0, 0, 1),
  (yX4_copyFrom, cX4_copyFrom, 2, none, 4, 0, 0, 1),
  (yX4_copyHow, cX4_copyHow, 2, none, 4, 0, 0, 1),
  (yX4_feelAll, cX4_feelAll, 4, (some .int), 4, 0, 0, 1),
  (yX4_feel, cX4_feel, 5, none, 4, 0, 0, 3),
  (yX4_isSaltBelow, cX4_isSaltBelow, 3, (some .boolean), 4, 0, 0, 1)]
def mis1 : List MI := [(yX4_potsIn, cX4_potsIn, 4, (some .int), 4, 0, 0, 1),
  (yX4_howMany, cX4_howMany, 4, (some .int), 4, 0, 0, 1),
  (yX4_canBeReady, cX4_canBeReady, 5, (some .boolean), 4, 0, 0, 2),
  (yX5_init, cX5_init, 1, none, 5, 9, 50, 0),
  (yX5_read, cX5_read, 3, (some .int), 5, 0, 0, 1),
  (yX5_begin, cX5_begin, 3, none, 5, 0, 0, 1),
  (yX5_readParts, cX5_readParts, 6, (some .int), 5, 0, 0, 1),
  (yX5_readShutter, cX5_readShutter, 6, (some .int), 5, 0, 0, 2),
  (yX5_readPot, cX5_readPot, 5, (some .int), 5, 0, 0, 2),
  (yX5_leastDigit, cX5_leastDigit, 2, (some .int), 5, 0, 0, 1),
  (yX5_mostDigit, cX5_mostDigit, 2, (some .int), 5, 0, 0, 1),
  (yX6_init, cX6_init, 3, none, 6, 133, 648, 1),
  (yX6_length, cX6_length, 1, (some .int), 6, 0, 0, 0),
  (yX6_forget, cX6_forget, 1, none, 6, 0, 0, 0),
  (yX6_add, cX6_add, 2, none, 6, 0, 0, 1),
  (yX6_forgetFirst, cX6_forgetFirst, 3, none, 6, 0, 0, 0),
  (yX6_takeBack, cX6_takeBack, 2, (some .int), 6, 0, 0, 1),
  (yX7_init, cX7_init, 1, none, 7, 1, 64, 0),
  (yX7_length, cX7_length, 1, (some .int), 7, 0, 0, 0),
  (yX7_hasRoomFor, cX7_hasRoomFor, 2, (some .boolean), 7, 0, 0, 1),
  (yX7_append, cX7_append, 5, (some .int), 7, 0, 0, 2),
  (yX7_clear, cX7_clear, 2, (some .int), 7, 0, 0, 0),
  (yX7_byteAt, cX7_byteAt, 2, (some .int), 7, 0, 0, 1),
  (yX7_digitAt, cX7_digitAt, 3, (some .int), 7, 0, 0, 1),
  (yX8_init, cX8_init, 1, none, 8, 5, 25, 0),
  (yX8_copyFrom, cX8_copyFrom, 3, none, 8, 0, 0, 1),
  (yX8_isThere, cX8_isThere, 2, (some .boolean), 8, 0, 0, 1),
  (yX8_isSet, cX8_isSet, 2, (some .boolean), 8, 0, 0, 1),
  (yX8_isSalt, cX8_isSalt, 2, (some .boolean), 8, 0, 0, 1),
  (yX8_isRaw, cX8_isRaw, 2, (some .boolean), 8, 0, 0, 1),
  (yX8_mostJump, cX8_mostJump, 2, (some .int), 8, 0, 0, 1),
  (yX8_wants, cX8_wants, 3, (some .boolean), 8, 0, 0, 2),
  (yX9_init, cX9_init, 2, none, 9, 10, 51, 1),
  (yX9_build, cX9_build, 2, none, 9, 0, 0, 1),
  (yX9_copyFrom, cX9_copyFrom, 2, none, 9, 0, 0, 1),
  (yX9_goBackTo, cX9_goBackTo, 2, none, 9, 0, 0, 1),
  (yX9_fire, cX9_fire, 2, (some .int), 9, 0, 0, 1),
  (yX9_fireAll, cX9_fireAll, 4, none, 9, 0, 0, 2),
  (yX10_init, cX10_init, 3, none, 10, 36, 168, 1),
  (yX10_search, cX10_search, 4, (some .int), 10, 0, 0, 2)]
def mis2 : List MI := [(yX10_fireOn, cX10_fireOn, 6, none, 10, 0, 0, 4),
  (yX10_goOn, cX10_goOn, 5, none, 10, 0, 0, 4),
  (yX11_init, cX11_init, 2, none, 11, 247, 3000, 0),
  (yX11_write, cX11_write, 4, (some .int), 11, 0, 0, 2),
  (yX11_wipe, cX11_wipe, 1, (some .int), 11, 0, 0, 0),
  (yX11_fault, cX11_fault, 1, (some .int), 11, 0, 0, 0),
  (yX11_tower, cX11_tower, 2, (some .int), 11, 0, 0, 0),
  (yX11_about, cX11_about, 2, (some .int), 11, 0, 0, 1),
  (yX11_kiln, cX11_kiln, 3, (some .int), 11, 0, 0, 2),
  (yX11_pot, cX11_pot, 3, (some .int), 11, 0, 0, 2),
  (yX11_open, cX11_open, 4, (some .int), 11, 0, 0, 2),
  (yX11_damp, cX11_damp, 4, (some .int), 11, 0, 0, 2),
  (yX11_put, cX11_put, 4, (some .int), 11, 0, 0, 2),
  (yX11_quarter, cX11_quarter, 2, (some .int), 11, 0, 0, 1),
  (yX11_undo, cX11_undo, 1, (some .int), 11, 0, 0, 0),
  (yX11_warm, cX11_warm, 4, (some .int), 11, 0, 0, 3),
  (yX11_then, cX11_then, 4, (some .int), 11, 0, 0, 3),
  (yX11_least, cX11_least, 3, (some .int), 11, 0, 0, 2),
  (yX11_leastAt, cX11_leastAt, 4, (some .int), 11, 0, 0, 3),
  (yX11_floors, cX11_floors, 3, (some .int), 11, 0, 0, 2),
  (yX11_floorAt, cX11_floorAt, 4, (some .int), 11, 0, 0, 3),
  (yX11_openFor, cX11_openFor, 5, (some .int), 11, 0, 0, 4),
  (yX11_gales, cX11_gales, 6, (some .long), 11, 0, 0, 5),
  (yX11_cone, cX11_cone, 6, (some .int), 11, 0, 0, 5),
  (yX11_uncone, cX11_uncone, 1, (some .int), 11, 0, 0, 0),
  (yX11_blame, cX11_blame, 2, (some .int), 11, 0, 0, 1),
  (yX11_owed, cX11_owed, 3, (some .int), 11, 0, 0, 2),
  (yX11_keep, cX11_keep, 2, (some .int), 11, 0, 0, 1),
  (yX11_again, cX11_again, 2, (some .int), 11, 0, 0, 1),
  (yX11_isWood, cX11_isWood, 1, (some .boolean), 11, 0, 0, 1),
  (yX11_isSpan, cX11_isSpan, 2, (some .boolean), 11, 0, 0, 2),
  (yX11_part, cX11_part, 7, (some .long), 11, 0, 0, 3),
  (yX11_commonDivisor, cX11_commonDivisor, 11, (some .long), 11, 0, 0, 2),
  (yX12_init, cX12_init, 2, none, 12, 31, 1000, 0),
  (yX12_in, cX12_in, 6, (some .boolean), 12, 0, 0, 3),
  (yX12_has, cX12_has, 2, (some .boolean), 12, 0, 0, 2),
  (yX12_noKiln, cX12_noKiln, 2, (some .boolean), 12, 0, 0, 1),
  (yX12_noPot, cX12_noPot, 2, (some .boolean), 12, 0, 0, 1),
  (yX12_noFire, cX12_noFire, 2, (some .boolean), 12, 0, 0, 2),
  (yX12_write, cX12_write, 5, (some .int), 12, 0, 0, 2)]
def mis3 : List MI := [(yX12_wipe, cX12_wipe, 2, (some .int), 12, 0, 0, 0),
  (yX12_figure, cX12_figure, 3, (some .int), 12, 0, 0, 2),
  (yX12_readShutter, cX12_readShutter, 4, (some .boolean), 12, 0, 0, 0),
  (yX12_readPot, cX12_readPot, 8, (some .boolean), 12, 0, 0, 0),
  (yX12_readPart, cX12_readPart, 2, (some .boolean), 12, 0, 0, 0),
  (yX12_readTower, cX12_readTower, 2, (some .int), 12, 0, 0, 0),
  (yX12_fault, cX12_fault, 1, (some .int), 12, 0, 0, 0),
  (yX12_tower, cX12_tower, 2, (some .int), 12, 0, 0, 0),
  (yX12_allHeat, cX12_allHeat, 3, (some .int), 12, 0, 0, 0),
  (yX12_countHow, cX12_countHow, 4, (some .int), 12, 0, 0, 1),
  (yX12_about, cX12_about, 2, (some .int), 12, 0, 0, 1),
  (yX12_kiln, cX12_kiln, 5, (some .int), 12, 0, 0, 2),
  (yX12_pot, cX12_pot, 3, (some .int), 12, 0, 0, 2),
  (yX12_open, cX12_open, 4, (some .int), 12, 0, 0, 2),
  (yX12_damp, cX12_damp, 4, (some .int), 12, 0, 0, 2),
  (yX12_put, cX12_put, 4, (some .int), 12, 0, 0, 2),
  (yX12_begin, cX12_begin, 2, none, 12, 0, 0, 0),
  (yX12_goHeat, cX12_goHeat, 5, none, 12, 0, 0, 2),
  (yX12_isSalted, cX12_isSalted, 5, (some .boolean), 12, 0, 0, 1),
  (yX12_feel, cX12_feel, 4, (some .int), 12, 0, 0, 1),
  (yX12_go, cX12_go, 5, (some .int), 12, 0, 0, 2),
  (yX12_goMany, cX12_goMany, 4, none, 12, 0, 0, 2),
  (yX12_note, cX12_note, 3, none, 12, 0, 0, 0),
  (yX12_quarter, cX12_quarter, 4, (some .int), 12, 0, 0, 1),
  (yX12_undo, cX12_undo, 3, (some .int), 12, 0, 0, 0),
  (yX12_warm, cX12_warm, 4, (some .int), 12, 0, 0, 3),
  (yX12_then, cX12_then, 4, (some .int), 12, 0, 0, 3),
  (yX12_findLeast, cX12_findLeast, 10, (some .int), 12, 0, 0, 2),
  (yX12_noLeast, cX12_noLeast, 3, (some .boolean), 12, 0, 0, 2),
  (yX12_least, cX12_least, 3, (some .int), 12, 0, 0, 2),
  (yX12_leastAt, cX12_leastAt, 4, (some .int), 12, 0, 0, 3),
  (yX12_findFloors, cX12_findFloors, 9, (some .int), 12, 0, 0, 2),
  (yX12_floors, cX12_floors, 3, (some .int), 12, 0, 0, 2),
  (yX12_floorAt, cX12_floorAt, 4, (some .int), 12, 0, 0, 3),
  (yX12_openFor, cX12_openFor, 8, (some .int), 12, 0, 0, 4),
  (yX12_divisor, cX12_divisor, 10, (some .long), 12, 0, 0, 2),
  (yX12_gales, cX12_gales, 14, (some .long), 12, 0, 0, 5),
  (yX12_cone, cX12_cone, 6, (some .int), 12, 0, 0, 5),
  (yX12_uncone, cX12_uncone, 2, (some .int), 12, 0, 0, 0),
  (yX12_isTrue, cX12_isTrue, 3, (some .boolean), 12, 0, 0, 1)]
def mis4 : List MI := [(yX12_blame, cX12_blame, 7, (some .int), 12, 0, 0, 1),
  (yX12_owed, cX12_owed, 5, (some .int), 12, 0, 0, 2),
  (yX12_keep, cX12_keep, 4, (some .int), 12, 0, 0, 1),
  (yX12_again, cX12_again, 4, (some .int), 12, 0, 0, 1),
  (yJ6_bitCount_0f7a4, cJ6_bitCount_0f7a4, 1, (some .int), 13, 0, 0, 1)]
def mis : List MI := mis0 ++ (mis1 ++ (mis2 ++ (mis3 ++ (mis4))))
def mwi : List (Nat × Nat × Nat × Nat) := [(259, 258, 0, 47), (502, 500, 501, 47), (784, 782, 783, 47), (792, 790, 791, 47), (800, 798, 799, 47), (804, 803, 16, 47), (808, 807, 17, 47), (328, 327, 0, 50), (698, 696, 697, 50), (713, 712, 11, 50), (702, 701, 9, 50), (706, 705, 10, 50), (717, 716, 12, 50), (721, 720, 13, 50), (727, 726, 14, 50), (159, 158, 0, 44), (511, 509, 510, 44), (467, 465, 466, 44), (471, 469, 470, 44), (558, 556, 557, 44), (562, 560, 561, 44), (579, 577, 578, 44), (644, 642, 643, 44), (768, 766, 767, 44), (599, 597, 598, 44), (494, 492, 493, 44), (290, 289, 0, 48), (639, 637, 638, 48), (653, 651, 652, 48), (739, 737, 738, 48), (749, 747, 748, 48), (762, 761, 15, 48), (758, 757, 0, 48), (201, 200, 0, 45), (478, 476, 477, 45), (566, 564, 565, 45), (571, 569, 570, 45), (583, 581, 582, 45), (595, 593, 594, 45), (587, 585, 586, 45), (515, 513, 514, 45), (498, 496, 497, 45), (675, 673, 674, 45), (81, 80, 0, 41), (414, 412, 413, 41), (427, 426, 0, 41), (431, 430, 1, 41), (451, 450, 5, 41), (439, 438, 2, 41), (443, 442, 3, 41), (447, 446, 4, 41), (243, 242, 0, 46), (490, 488, 489, 46), (482, 480, 481, 46), (546, 544, 545, 46), (550, 549, 6, 46), (622, 620, 621, 46), (67, 66, 0, 40), (435, 433, 434, 40), (394, 392, 393, 40), (398, 396, 397, 40), (406, 404, 405, 40), (418, 416, 417, 40), (422, 420, 421, 40), (119, 118, 0, 42), (459, 457, 458, 42), (523, 521, 522, 42), (667, 665, 666, 42), (591, 589, 590, 42), (610, 608, 609, 42), (606, 604, 605, 42), (614, 612, 613, 42), (153, 152, 0, 43), (463, 461, 462, 43), (554, 552, 553, 43), (626, 624, 625, 43), (575, 573, 574, 43), (658, 656, 657, 43), (303, 302, 0, 49), (671, 669, 670, 49), (679, 678, 7, 49), (685, 684, 8, 49), (59, 58, 0, 39), (390, 388, 389, 39), (402, 400, 401, 39), (410, 408, 409, 39), (455, 453, 454, 39), (486, 484, 485, 39), (507, 505, 506, 39), (519, 517, 518, 39), (527, 525, 526, 39), (531, 529, 530, 39), (535, 533, 534, 39), (539, 537, 538, 39), (618, 616, 617, 39), (632, 630, 631, 39), (649, 647, 648, 39), (663, 661, 662, 39), (690, 688, 689, 39), (694, 692, 693, 39), (731, 729, 730, 39), (735, 733, 734, 39), (743, 741, 742, 39), (780, 778, 779, 39), (788, 786, 787, 39), (796, 794, 795, 39), (816, 814, 815, 39), (820, 818, 819, 39), (825, 823, 824, 39), (542, 541, 0, 39), (635, 634, 0, 39), (773, 772, 0, 39), (776, 775, 0, 39), (830, 829, 0, 51), (969, 968, 0, 51), (996, 995, 0, 51), (1024, 1023, 25, 51), (1032, 1031, 26, 51), (1084, 1083, 0, 51), (965, 963, 964, 51), (973, 971, 972, 51), (985, 984, 19, 51), (993, 992, 21, 51), (1000, 999, 22, 51), (989, 988, 20, 51), (981, 980, 18, 51), (977, 975, 976, 51), (1004, 1002, 1003, 51), (1012, 1011, 23, 51), (1016, 1015, 24, 51), (1008, 1006, 1007, 51), (1020, 1018, 1019, 51), (1028, 1026, 1027, 51), (1036, 1034, 1035, 51), (1040, 1038, 1039, 51), (1044, 1042, 1043, 51), (1057, 1056, 28, 51), (1065, 1064, 30, 51), (1073, 1072, 32, 51), (1069, 1068, 31, 51), (1061, 1060, 29, 51), (1088, 1087, 33, 51), (1053, 1052, 27, 51), (1048, 1046, 1047, 51), (1077, 1075, 1076, 51), (1081, 1079, 1080, 51), (1092, 1090, 1091, 51), (1105, 1104, 35, 51), (1100, 1099, 34, 51), (1096, 1094, 1095, 51), (1109, 1107, 1108, 51), (1117, 1116, 36, 51), (1113, 1111, 1112, 51), (1121, 1119, 1120, 51), (1125, 1123, 1124, 51), (1135, 1134, 0, 51), (1129, 1127, 1128, 51), (1139, 1137, 1138, 51), (1144, 1142, 1143, 51), (1152, 1151, 37, 51), (1148, 1146, 1147, 51), (1156, 1154, 1155, 51), (1160, 1158, 1159, 51), (1164, 1162, 1163, 51), (752, 751, 0, 54)]
def clsW : List (List Nat × Nat × Nat) := [([269, 271, 273, 275, 277, 279, 281, 283], 256, 47), ([338, 340, 342, 344, 346, 348, 350], 325, 50), ([182, 184, 186, 188, 190, 192, 194], 156, 44), ([294, 296], 287, 48), ([216, 218, 220, 222], 198, 45), ([99, 101, 103, 105, 107, 109, 111], 78, 41), ([250, 252], 240, 46), ([71, 73], 64, 40), ([136, 138, 140, 142, 144, 146], 116, 42), ([234, 236], 150, 43), ([313, 315, 317, 319, 321], 300, 49), ([364, 366, 368, 370, 372, 374, 376, 378, 380, 382, 384], 56, 39), ([875, 877, 879, 881, 883, 885, 887, 889, 891, 893, 895, 897, 899, 901, 903, 905, 907, 909, 911, 913, 915, 917, 919, 921, 923, 925, 927, 929, 931, 933, 935, 937, 939, 941, 943, 945, 947, 949, 951, 953, 955, 957, 959], 827, 51)]
/-- the words that go into every method's list -/
def TT : List Cond := lw_tbl.filter goodWord
theorem TT_lw {w : Cond} (h : w ∈ TT) : w ∈ lw_tbl := (List.mem_filter.mp h).1
theorem TT_good : GoodIn TT TT := fun w h => ⟨h, good_of_word (List.mem_filter.mp h).2⟩
/-- word w stands at place i of the tables, and may go into a list -/
def wAt (w : Cond) (i : Nat) : Bool := decide (lw_tbl[i]? = some w) && goodWord w
theorem wAt_mem {w : Cond} {i : Nat} (h : wAt w i = true) : w ∈ TT := by
  simp only [wAt, Bool.and_eq_true, decide_eq_true_eq] at h
  exact List.mem_filter.mpr ⟨List.mem_of_getElem? h.1, h.2⟩
def fOk (cn : Nat) (q : Nat × Nat × Nat × Nat) : Bool := match vwCl[q.2.1]? with
  | some (_, T, N) => decide (q.2.2.1 < N) && wAt (.fieldLink (RR cn) q.1 (T q.2.2.1).1 (T q.2.2.1).2.1 (T q.2.2.1).2.2.1) q.2.2.2
  | none => false
theorem tab_get {α : Type} {tab : List (List α)} {cn : Nat} {P : Nat → α → Bool} {p : α → Bool} {q : α} (h : (List.range 15).all (fun cn => (tab.getD cn []).all (fun q => P cn q)) = true) (hl : tab.length = 15) (hq : (tab.getD cn []).find? p = some q) : P cn q = true ∧ p q = true := by
  have hc : cn < 15 := by
    refine Nat.lt_of_not_le fun hc => ?_
    rw [List.getD_eq_getElem?_getD, List.getElem?_eq_none (by omega)] at hq
    cases hq
  have h1 := List.all_eq_true.mp h cn (List.mem_range.mpr hc)
  exact ⟨List.all_eq_true.mp h1 q (List.mem_of_find?_eq_some hq), List.find?_some hq⟩
set_option maxRecDepth 100000 in
theorem fTab_ok : (List.range 15).all (fun cn => (fTab.getD cn []).all (fun q => fOk cn q)) = true := by decide +kernel
theorem fT_ok {cn idx ci k : Nat} (h : fT cn idx = some (ci, k)) : ∃ (C : String) (T : u_T) (N : Nat), vwCl[ci]? = some (C, T, N) ∧ k < N ∧ Cond.fieldLink (RR cn) idx (T k).1 (T k).2.1 (T k).2.2.1 ∈ TT := by
  unfold fT at h
  cases hq : (fTab.getD cn []).find? (fun q => q.1 == idx) with
  | none => rw [hq] at h; cases h
  | some q =>
    rw [hq] at h
    cases h
    obtain ⟨h1, h2⟩ := tab_get fTab_ok rfl hq
    rw [← eq_of_beq h2]
    unfold fOk at h1
    split at h1
    · rename_i C T N hc
      simp only [Bool.and_eq_true, decide_eq_true_eq] at h1
      exact ⟨C, T, N, hc, h1.1, wAt_mem h1.2⟩
    · cases h1
def RRm (cn : Nat) : String := RR cn
/-- what is known of a class -/
def clsOk (ci : Nat) : Bool := match vwCl[ci]?, clsW[ci]? with
  | some (C, T, N), some (lay, w1, w2) => (List.range N).all (fun k => wAt (u_lay C T k) (lay.getD k 0) && decide (parseFieldDescriptor (T k).2.2.1 = some (tyC ci k)) && decide ((T k).1 = C) && (List.range N).all (fun j => decide (k = j) || decide ((T k).2.1 ≠ (T j).2.1))) && wAt (.instantiable C N) w1 && wAt (.initialized C) w2 && decide (RR ci = C)
  | _, _ => false
set_option maxRecDepth 100000 in
theorem cls_all : (List.range 13).all clsOk = true := by decide +kernel
theorem cls_ok {ci : Nat} {C : String} {T : u_T} {N : Nat} (h : vwCl[ci]? = some (C, T, N)) : (∀ w ∈ u_ws C T N, w ∈ TT) ∧ Cond.instantiable C N ∈ TT ∧ Cond.initialized C ∈ TT ∧ (∀ k, k < N → parseFieldDescriptor (T k).2.2.1 = some (tyC ci k)) ∧ (∀ a, a < N → ∀ b, b < N → a ≠ b → (T a).2.1 ≠ (T b).2.1) ∧ (∀ k, k < N → (T k).1 = C) ∧ RR ci = C := by
  have hc : ci < 13 := (List.getElem?_eq_some_iff.mp h).1
  have h1 := List.all_eq_true.mp cls_all ci (List.mem_range.mpr hc)
  unfold clsOk at h1
  rw [h] at h1
  split at h1
  · rename_i C' T' N' lay w1 w2 e1 e2
    cases e1
    simp only [Bool.and_eq_true, Bool.or_eq_true, decide_eq_true_eq, List.all_eq_true, List.mem_range] at h1
    obtain ⟨⟨⟨h1, h2⟩, h3⟩, h4⟩ := h1
    refine ⟨fun w hw => ?_, wAt_mem h2, wAt_mem h3, fun k hk => (h1 k hk).1.1.2, fun a ha b hb hne => ?_, fun k hk => (h1 k hk).1.2, h4⟩
    · obtain ⟨k, hk, rfl⟩ := List.mem_map.mp hw
      exact wAt_mem (h1 k (List.mem_range.mp hk)).1.1.1
    · exact ((h1 a ha).2 b hb).resolve_left hne
  · cases h1
theorem tin1 {w : Cond} {i : Nat} (hi : tables_1_1[i]? = some w) (hg : goodWord w = true) : w ∈ TT := by
  have h := List.mem_of_getElem? hi
  exact List.mem_filter.mpr ⟨List.mem_append_right _ (show w ∈ tables_1_1 ++ (tables_1_2 ++ (tables_1_3 ++ (tables_1_4 ++ tables_1_5))) from List.mem_append_left _ h), hg⟩
theorem tin2 {w : Cond} {i : Nat} (hi : tables_1_2[i]? = some w) (hg : goodWord w = true) : w ∈ TT := by
  have h := List.mem_of_getElem? hi
  exact List.mem_filter.mpr ⟨List.mem_append_right _ (show w ∈ tables_1_1 ++ (tables_1_2 ++ (tables_1_3 ++ (tables_1_4 ++ tables_1_5))) from List.mem_append_right _ (List.mem_append_left _ h)), hg⟩
theorem tin3 {w : Cond} {i : Nat} (hi : tables_1_3[i]? = some w) (hg : goodWord w = true) : w ∈ TT := by
  have h := List.mem_of_getElem? hi
  exact List.mem_filter.mpr ⟨List.mem_append_right _ (show w ∈ tables_1_1 ++ (tables_1_2 ++ (tables_1_3 ++ (tables_1_4 ++ tables_1_5))) from List.mem_append_right _ (List.mem_append_right _ (List.mem_append_left _ h))), hg⟩
theorem tin4 {w : Cond} {i : Nat} (hi : tables_1_4[i]? = some w) (hg : goodWord w = true) : w ∈ TT := by
  have h := List.mem_of_getElem? hi
  exact List.mem_filter.mpr ⟨List.mem_append_right _ (show w ∈ tables_1_1 ++ (tables_1_2 ++ (tables_1_3 ++ (tables_1_4 ++ tables_1_5))) from List.mem_append_right _ (List.mem_append_right _ (List.mem_append_right _ (List.mem_append_left _ h)))), hg⟩
theorem tin5 {w : Cond} {i : Nat} (hi : tables_1_5[i]? = some w) (hg : goodWord w = true) : w ∈ TT := by
  have h := List.mem_of_getElem? hi
  exact List.mem_filter.mpr ⟨List.mem_append_right _ (show w ∈ tables_1_1 ++ (tables_1_2 ++ (tables_1_3 ++ (tables_1_4 ++ tables_1_5))) from List.mem_append_right _ (List.mem_append_right _ (List.mem_append_right _ (List.mem_append_right _ h)))), hg⟩
set_option maxRecDepth 100000 in
theorem mc_0 : Cond.code yX0_init cX0_init 3 none ∈ TT := tin1 (i := 221) rfl rfl
set_option maxRecDepth 100000 in
theorem mc_1 : Cond.code yX0_count cX0_count 1 (some .int) ∈ TT := tin2 (i := 224) rfl rfl
set_option maxRecDepth 100000 in
theorem mc_2 : Cond.code yX0_add cX0_add 6 (some .int) ∈ TT := tin4 (i := 26) rfl rfl
set_option maxRecDepth 100000 in
theorem mc_3 : Cond.code yX0_clear cX0_clear 2 (some .int) ∈ TT := tin4 (i := 34) rfl rfl
set_option maxRecDepth 100000 in
theorem mc_4 : Cond.code yX0_trueTenths cX0_trueTenths 4 (some .int) ∈ TT := tin4 (i := 42) rfl rfl
set_option maxRecDepth 100000 in
theorem mc_5 : Cond.code yX0_areAllTrue cX0_areAllTrue 4 (some .boolean) ∈ TT := tin4 (i := 46) rfl rfl
set_option maxRecDepth 100000 in
theorem mc_6 : Cond.code yX0_isTrue cX0_isTrue 4 (some .boolean) ∈ TT := tin4 (i := 50) rfl rfl
set_option maxRecDepth 100000 in
theorem mc_7 : Cond.code yX1_init cX1_init 3 none ∈ TT := tin2 (i := 50) rfl rfl
set_option maxRecDepth 100000 in
theorem mc_8 : Cond.code yX1_search cX1_search 8 (some .int) ∈ TT := tin3 (i := 180) rfl rfl
set_option maxRecDepth 100000 in
theorem mc_9 : Cond.code yX1_isFree cX1_isFree 2 (some .boolean) ∈ TT := tin3 (i := 195) rfl rfl
set_option maxRecDepth 100000 in
theorem mc_10 : Cond.code yX1_foresee cX1_foresee 5 none ∈ TT := tin3 (i := 184) rfl rfl
set_option maxRecDepth 100000 in
theorem mc_11 : Cond.code yX1_isReadyIn cX1_isReadyIn 7 (some .boolean) ∈ TT := tin3 (i := 188) rfl rfl
set_option maxRecDepth 100000 in
theorem mc_12 : Cond.code yX1_mostPossible cX1_mostPossible 3 (some .int) ∈ TT := tin3 (i := 199) rfl rfl
set_option maxRecDepth 100000 in
theorem mc_13 : Cond.code yX1_readyHere cX1_readyHere 5 (some .int) ∈ TT := tin3 (i := 203) rfl rfl
set_option maxRecDepth 100000 in
theorem mc_14 : Cond.code yX1_nextPlacing cX1_nextPlacing 2 (some .boolean) ∈ TT := tin3 (i := 209) rfl rfl
set_option maxRecDepth 100000 in
theorem mc_15 : Cond.code yX2_init cX2_init 2 none ∈ TT := tin1 (i := 121) rfl rfl
set_option maxRecDepth 100000 in
theorem mc_16 : Cond.code yX2_isThere cX2_isThere 2 (some .boolean) ∈ TT := tin2 (i := 233) rfl rfl
set_option maxRecDepth 100000 in
theorem mc_17 : Cond.code yX2_build cX2_build 2 none ∈ TT := tin2 (i := 189) rfl rfl
set_option maxRecDepth 100000 in
theorem mc_18 : Cond.code yX2_cool cX2_cool 2 none ∈ TT := tin2 (i := 193) rfl rfl
set_option maxRecDepth 100000 in
theorem mc_19 : Cond.code yX2_copyFrom cX2_copyFrom 2 none ∈ TT := tin3 (i := 40) rfl rfl
set_option maxRecDepth 100000 in
theorem mc_20 : Cond.code yX2_copyHeat cX2_copyHeat 2 none ∈ TT := tin3 (i := 44) rfl rfl
set_option maxRecDepth 100000 in
theorem mc_21 : Cond.code yX2_burn cX2_burn 6 none ∈ TT := tin3 (i := 61) rfl rfl
set_option maxRecDepth 100000 in
theorem mc_22 : Cond.code yX2_burnAll cX2_burnAll 4 none ∈ TT := tin3 (i := 126) rfl rfl
set_option maxRecDepth 100000 in
theorem mc_23 : Cond.code yX2_blow cX2_blow 2 none ∈ TT := tin4 (i := 10) rfl rfl
set_option maxRecDepth 100000 in
theorem mc_24 : Cond.code yX2_jump cX2_jump 2 (some .int) ∈ TT := tin3 (i := 81) rfl rfl
set_option maxRecDepth 100000 in
theorem mc_25 : Cond.code yX2_allHeat cX2_allHeat 3 (some .int) ∈ TT := tin2 (i := 216) rfl rfl
set_option maxRecDepth 100000 in
theorem mc_26 : Cond.code yX3_init cX3_init 3 none ∈ TT := tin2 (i := 12) rfl rfl
set_option maxRecDepth 100000 in
theorem mc_27 : Cond.code yX3_heatBehind cX3_heatBehind 4 (some .int) ∈ TT := tin3 (i := 121) rfl rfl
set_option maxRecDepth 100000 in
theorem mc_28 : Cond.code yX3_howBehind cX3_howBehind 4 (some .int) ∈ TT := tin3 (i := 135) rfl rfl
set_option maxRecDepth 100000 in
theorem mc_29 : Cond.code yX3_fewestTenths cX3_fewestTenths 6 (some .int) ∈ TT := tin3 (i := 221) rfl rfl
set_option maxRecDepth 100000 in
theorem mc_30 : Cond.code yX3_crackingWays cX3_crackingWays 11 (some .long) ∈ TT := tin3 (i := 231) rfl rfl
set_option maxRecDepth 100000 in
theorem mc_31 : Cond.code yX3_isCracked cX3_isCracked 7 (some .boolean) ∈ TT := tin4 (i := 4) rfl rfl
set_option maxRecDepth 100000 in
theorem mc_32 : Cond.code yX3_power cX3_power 5 (some .long) ∈ TT := tin4 (i := 0) rfl rfl
set_option maxRecDepth 100000 in
theorem mc_33 : Cond.code yX4_init cX4_init 2 none ∈ TT := tin1 (i := 163) rfl rfl
set_option maxRecDepth 100000 in
theorem mc_34 : Cond.code yX4_build cX4_build 3 none ∈ TT := tin2 (i := 200) rfl rfl
set_option maxRecDepth 100000 in
theorem mc_35 : Cond.code yX4_copyFrom cX4_copyFrom 2 none ∈ TT := tin3 (i := 48) rfl rfl
set_option maxRecDepth 100000 in
theorem mc_36 : Cond.code yX4_copyHow cX4_copyHow 2 none ∈ TT := tin3 (i := 53) rfl rfl
set_option maxRecDepth 100000 in
theorem mc_37 : Cond.code yX4_feelAll cX4_feelAll 4 (some .int) ∈ TT := tin3 (i := 65) rfl rfl
set_option maxRecDepth 100000 in
theorem mc_38 : Cond.code yX4_feel cX4_feel 5 none ∈ TT := tin3 (i := 77) rfl rfl
set_option maxRecDepth 100000 in
theorem mc_39 : Cond.code yX4_isSaltBelow cX4_isSaltBelow 3 (some .boolean) ∈ TT := tin3 (i := 69) rfl rfl
set_option maxRecDepth 100000 in
theorem mc_40 : Cond.code yX4_potsIn cX4_potsIn 4 (some .int) ∈ TT := tin2 (i := 237) rfl rfl
set_option maxRecDepth 100000 in
theorem mc_41 : Cond.code yX4_howMany cX4_howMany 4 (some .int) ∈ TT := tin2 (i := 220) rfl rfl
set_option maxRecDepth 100000 in
theorem mc_42 : Cond.code yX4_canBeReady cX4_canBeReady 5 (some .boolean) ∈ TT := tin3 (i := 157) rfl rfl
set_option maxRecDepth 100000 in
theorem mc_43 : Cond.code yX5_init cX5_init 1 none ∈ TT := tin1 (i := 43) rfl rfl
set_option maxRecDepth 100000 in
theorem mc_44 : Cond.code yX5_read cX5_read 3 (some .int) ∈ TT := tin2 (i := 136) rfl rfl
set_option maxRecDepth 100000 in
theorem mc_45 : Cond.code yX5_begin cX5_begin 3 none ∈ TT := tin2 (i := 149) rfl rfl
set_option maxRecDepth 100000 in
theorem mc_46 : Cond.code yX5_readParts cX5_readParts 6 (some .int) ∈ TT := tin2 (i := 153) rfl rfl
set_option maxRecDepth 100000 in
theorem mc_47 : Cond.code yX5_readShutter cX5_readShutter 6 (some .int) ∈ TT := tin2 (i := 173) rfl rfl
set_option maxRecDepth 100000 in
theorem mc_48 : Cond.code yX5_readPot cX5_readPot 5 (some .int) ∈ TT := tin2 (i := 161) rfl rfl
set_option maxRecDepth 100000 in
theorem mc_49 : Cond.code yX5_leastDigit cX5_leastDigit 2 (some .int) ∈ TT := tin2 (i := 165) rfl rfl
set_option maxRecDepth 100000 in
theorem mc_50 : Cond.code yX5_mostDigit cX5_mostDigit 2 (some .int) ∈ TT := tin2 (i := 169) rfl rfl
set_option maxRecDepth 100000 in
theorem mc_51 : Cond.code yX6_init cX6_init 3 none ∈ TT := tin1 (i := 205) rfl rfl
set_option maxRecDepth 100000 in
theorem mc_52 : Cond.code yX6_length cX6_length 1 (some .int) ∈ TT := tin2 (i := 212) rfl rfl
set_option maxRecDepth 100000 in
theorem mc_53 : Cond.code yX6_forget cX6_forget 1 none ∈ TT := tin2 (i := 204) rfl rfl
set_option maxRecDepth 100000 in
theorem mc_54 : Cond.code yX6_add cX6_add 2 none ∈ TT := tin3 (i := 28) rfl rfl
set_option maxRecDepth 100000 in
theorem mc_55 : Cond.code yX6_forgetFirst cX6_forgetFirst 3 none ∈ TT := tin3 (i := 32) rfl rfl
set_option maxRecDepth 100000 in
theorem mc_56 : Cond.code yX6_takeBack cX6_takeBack 2 (some .int) ∈ TT := tin3 (i := 104) rfl rfl
set_option maxRecDepth 100000 in
theorem mc_57 : Cond.code yX7_init cX7_init 1 none ∈ TT := tin1 (i := 29) rfl rfl
set_option maxRecDepth 100000 in
theorem mc_58 : Cond.code yX7_length cX7_length 1 (some .int) ∈ TT := tin2 (i := 157) rfl rfl
set_option maxRecDepth 100000 in
theorem mc_59 : Cond.code yX7_hasRoomFor cX7_hasRoomFor 2 (some .boolean) ∈ TT := tin2 (i := 116) rfl rfl
set_option maxRecDepth 100000 in
theorem mc_60 : Cond.code yX7_append cX7_append 5 (some .int) ∈ TT := tin2 (i := 120) rfl rfl
set_option maxRecDepth 100000 in
theorem mc_61 : Cond.code yX7_clear cX7_clear 2 (some .int) ∈ TT := tin2 (i := 128) rfl rfl
set_option maxRecDepth 100000 in
theorem mc_62 : Cond.code yX7_byteAt cX7_byteAt 2 (some .int) ∈ TT := tin2 (i := 140) rfl rfl
set_option maxRecDepth 100000 in
theorem mc_63 : Cond.code yX7_digitAt cX7_digitAt 3 (some .int) ∈ TT := tin2 (i := 144) rfl rfl
set_option maxRecDepth 100000 in
theorem mc_64 : Cond.code yX8_init cX8_init 1 none ∈ TT := tin1 (i := 81) rfl rfl
set_option maxRecDepth 100000 in
theorem mc_65 : Cond.code yX8_copyFrom cX8_copyFrom 3 none ∈ TT := tin2 (i := 181) rfl rfl
set_option maxRecDepth 100000 in
theorem mc_66 : Cond.code yX8_isThere cX8_isThere 2 (some .boolean) ∈ TT := tin3 (i := 5) rfl rfl
set_option maxRecDepth 100000 in
theorem mc_67 : Cond.code yX8_isSet cX8_isSet 2 (some .boolean) ∈ TT := tin3 (i := 149) rfl rfl
set_option maxRecDepth 100000 in
theorem mc_68 : Cond.code yX8_isSalt cX8_isSalt 2 (some .boolean) ∈ TT := tin3 (i := 73) rfl rfl
set_option maxRecDepth 100000 in
theorem mc_69 : Cond.code yX8_isRaw cX8_isRaw 2 (some .boolean) ∈ TT := tin3 (i := 92) rfl rfl
set_option maxRecDepth 100000 in
theorem mc_70 : Cond.code yX8_mostJump cX8_mostJump 2 (some .int) ∈ TT := tin3 (i := 88) rfl rfl
set_option maxRecDepth 100000 in
theorem mc_71 : Cond.code yX8_wants cX8_wants 3 (some .boolean) ∈ TT := tin3 (i := 96) rfl rfl
set_option maxRecDepth 100000 in
theorem mc_72 : Cond.code yX9_init cX9_init 2 none ∈ TT := tin1 (i := 115) rfl rfl
set_option maxRecDepth 100000 in
theorem mc_73 : Cond.code yX9_build cX9_build 2 none ∈ TT := tin2 (i := 185) rfl rfl
set_option maxRecDepth 100000 in
theorem mc_74 : Cond.code yX9_copyFrom cX9_copyFrom 2 none ∈ TT := tin3 (i := 36) rfl rfl
set_option maxRecDepth 100000 in
theorem mc_75 : Cond.code yX9_goBackTo cX9_goBackTo 2 none ∈ TT := tin3 (i := 108) rfl rfl
set_option maxRecDepth 100000 in
theorem mc_76 : Cond.code yX9_fire cX9_fire 2 (some .int) ∈ TT := tin3 (i := 57) rfl rfl
set_option maxRecDepth 100000 in
theorem mc_77 : Cond.code yX9_fireAll cX9_fireAll 4 none ∈ TT := tin3 (i := 140) rfl rfl
set_option maxRecDepth 100000 in
theorem mc_78 : Cond.code yX10_init cX10_init 3 none ∈ TT := tin2 (i := 25) rfl rfl
set_option maxRecDepth 100000 in
theorem mc_79 : Cond.code yX10_search cX10_search 4 (some .int) ∈ TT := tin3 (i := 153) rfl rfl
set_option maxRecDepth 100000 in
theorem mc_80 : Cond.code yX10_fireOn cX10_fireOn 6 none ∈ TT := tin3 (i := 161) rfl rfl
set_option maxRecDepth 100000 in
theorem mc_81 : Cond.code yX10_goOn cX10_goOn 5 none ∈ TT := tin3 (i := 167) rfl rfl
set_option maxRecDepth 100000 in
theorem mc_82 : Cond.code yX11_init cX11_init 2 none ∈ TT := tin1 (i := 21) rfl rfl
set_option maxRecDepth 100000 in
theorem mc_83 : Cond.code yX11_write cX11_write 4 (some .int) ∈ TT := tin2 (i := 112) rfl rfl
set_option maxRecDepth 100000 in
theorem mc_84 : Cond.code yX11_wipe cX11_wipe 1 (some .int) ∈ TT := tin2 (i := 124) rfl rfl
set_option maxRecDepth 100000 in
theorem mc_85 : Cond.code yX11_fault cX11_fault 1 (some .int) ∈ TT := tin2 (i := 132) rfl rfl
set_option maxRecDepth 100000 in
theorem mc_86 : Cond.code yX11_tower cX11_tower 2 (some .int) ∈ TT := tin2 (i := 177) rfl rfl
set_option maxRecDepth 100000 in
theorem mc_87 : Cond.code yX11_about cX11_about 2 (some .int) ∈ TT := tin2 (i := 208) rfl rfl
set_option maxRecDepth 100000 in
theorem mc_88 : Cond.code yX11_kiln cX11_kiln 3 (some .int) ∈ TT := tin2 (i := 229) rfl rfl
set_option maxRecDepth 100000 in
theorem mc_89 : Cond.code yX11_pot cX11_pot 3 (some .int) ∈ TT := tin3 (i := 1) rfl rfl
set_option maxRecDepth 100000 in
theorem mc_90 : Cond.code yX11_open cX11_open 4 (some .int) ∈ TT := tin3 (i := 9) rfl rfl
set_option maxRecDepth 100000 in
theorem mc_91 : Cond.code yX11_damp cX11_damp 4 (some .int) ∈ TT := tin3 (i := 13) rfl rfl
set_option maxRecDepth 100000 in
theorem mc_92 : Cond.code yX11_put cX11_put 4 (some .int) ∈ TT := tin3 (i := 17) rfl rfl
set_option maxRecDepth 100000 in
theorem mc_93 : Cond.code yX11_quarter cX11_quarter 2 (some .int) ∈ TT := tin3 (i := 21) rfl rfl
set_option maxRecDepth 100000 in
theorem mc_94 : Cond.code yX11_undo cX11_undo 1 (some .int) ∈ TT := tin3 (i := 100) rfl rfl
set_option maxRecDepth 100000 in
theorem mc_95 : Cond.code yX11_warm cX11_warm 4 (some .int) ∈ TT := tin3 (i := 114) rfl rfl
set_option maxRecDepth 100000 in
theorem mc_96 : Cond.code yX11_then cX11_then 4 (some .int) ∈ TT := tin3 (i := 131) rfl rfl
set_option maxRecDepth 100000 in
theorem mc_97 : Cond.code yX11_least cX11_least 3 (some .int) ∈ TT := tin3 (i := 145) rfl rfl
set_option maxRecDepth 100000 in
theorem mc_98 : Cond.code yX11_leastAt cX11_leastAt 4 (some .int) ∈ TT := tin3 (i := 172) rfl rfl
set_option maxRecDepth 100000 in
theorem mc_99 : Cond.code yX11_floors cX11_floors 3 (some .int) ∈ TT := tin3 (i := 176) rfl rfl
set_option maxRecDepth 100000 in
theorem mc_100 : Cond.code yX11_floorAt cX11_floorAt 4 (some .int) ∈ TT := tin3 (i := 213) rfl rfl
set_option maxRecDepth 100000 in
theorem mc_101 : Cond.code yX11_openFor cX11_openFor 5 (some .int) ∈ TT := tin3 (i := 217) rfl rfl
set_option maxRecDepth 100000 in
theorem mc_102 : Cond.code yX11_gales cX11_gales 6 (some .long) ∈ TT := tin3 (i := 225) rfl rfl
set_option maxRecDepth 100000 in
theorem mc_103 : Cond.code yX11_cone cX11_cone 6 (some .int) ∈ TT := tin4 (i := 22) rfl rfl
set_option maxRecDepth 100000 in
theorem mc_104 : Cond.code yX11_uncone cX11_uncone 1 (some .int) ∈ TT := tin4 (i := 30) rfl rfl
set_option maxRecDepth 100000 in
theorem mc_105 : Cond.code yX11_blame cX11_blame 2 (some .int) ∈ TT := tin4 (i := 38) rfl rfl
set_option maxRecDepth 100000 in
theorem mc_106 : Cond.code yX11_owed cX11_owed 3 (some .int) ∈ TT := tin4 (i := 58) rfl rfl
set_option maxRecDepth 100000 in
theorem mc_107 : Cond.code yX11_keep cX11_keep 2 (some .int) ∈ TT := tin4 (i := 62) rfl rfl
set_option maxRecDepth 100000 in
theorem mc_108 : Cond.code yX11_again cX11_again 2 (some .int) ∈ TT := tin4 (i := 67) rfl rfl
set_option maxRecDepth 100000 in
theorem mc_109 : Cond.code yX11_isWood cX11_isWood 1 (some .boolean) ∈ TT := tin3 (i := 24) rfl rfl
set_option maxRecDepth 100000 in
theorem mc_110 : Cond.code yX11_isSpan cX11_isSpan 2 (some .boolean) ∈ TT := tin3 (i := 117) rfl rfl
set_option maxRecDepth 100000 in
theorem mc_111 : Cond.code yX11_part cX11_part 7 (some .long) ∈ TT := tin4 (i := 15) rfl rfl
set_option maxRecDepth 100000 in
theorem mc_112 : Cond.code yX11_commonDivisor cX11_commonDivisor 11 (some .long) ∈ TT := tin4 (i := 18) rfl rfl
set_option maxRecDepth 100000 in
theorem mc_113 : Cond.code yX12_init cX12_init 2 none ∈ TT := tin4 (i := 72) rfl rfl
set_option maxRecDepth 100000 in
theorem mc_114 : Cond.code yX12_in cX12_in 6 (some .boolean) ∈ TT := tin4 (i := 211) rfl rfl
set_option maxRecDepth 100000 in
theorem mc_115 : Cond.code yX12_has cX12_has 2 (some .boolean) ∈ TT := tin4 (i := 238) rfl rfl
set_option maxRecDepth 100000 in
theorem mc_116 : Cond.code yX12_noKiln cX12_noKiln 2 (some .boolean) ∈ TT := tin5 (i := 26) rfl rfl
set_option maxRecDepth 100000 in
theorem mc_117 : Cond.code yX12_noPot cX12_noPot 2 (some .boolean) ∈ TT := tin5 (i := 34) rfl rfl
set_option maxRecDepth 100000 in
theorem mc_118 : Cond.code yX12_noFire cX12_noFire 2 (some .boolean) ∈ TT := tin5 (i := 86) rfl rfl
set_option maxRecDepth 100000 in
theorem mc_119 : Cond.code yX12_write cX12_write 5 (some .int) ∈ TT := tin4 (i := 207) rfl rfl
set_option maxRecDepth 100000 in
theorem mc_120 : Cond.code yX12_wipe cX12_wipe 2 (some .int) ∈ TT := tin4 (i := 215) rfl rfl
set_option maxRecDepth 100000 in
theorem mc_121 : Cond.code yX12_figure cX12_figure 3 (some .int) ∈ TT := tin4 (i := 227) rfl rfl
set_option maxRecDepth 100000 in
theorem mc_122 : Cond.code yX12_readShutter cX12_readShutter 4 (some .boolean) ∈ TT := tin4 (i := 235) rfl rfl
set_option maxRecDepth 100000 in
theorem mc_123 : Cond.code yX12_readPot cX12_readPot 8 (some .boolean) ∈ TT := tin5 (i := 2) rfl rfl
set_option maxRecDepth 100000 in
theorem mc_124 : Cond.code yX12_readPart cX12_readPart 2 (some .boolean) ∈ TT := tin4 (i := 231) rfl rfl
set_option maxRecDepth 100000 in
theorem mc_125 : Cond.code yX12_readTower cX12_readTower 2 (some .int) ∈ TT := tin4 (i := 223) rfl rfl
set_option maxRecDepth 100000 in
theorem mc_126 : Cond.code yX12_fault cX12_fault 1 (some .int) ∈ TT := tin4 (i := 219) rfl rfl
set_option maxRecDepth 100000 in
theorem mc_127 : Cond.code yX12_tower cX12_tower 2 (some .int) ∈ TT := tin5 (i := 6) rfl rfl
set_option maxRecDepth 100000 in
theorem mc_128 : Cond.code yX12_allHeat cX12_allHeat 3 (some .int) ∈ TT := tin5 (i := 14) rfl rfl
set_option maxRecDepth 100000 in
theorem mc_129 : Cond.code yX12_countHow cX12_countHow 4 (some .int) ∈ TT := tin5 (i := 18) rfl rfl
set_option maxRecDepth 100000 in
theorem mc_130 : Cond.code yX12_about cX12_about 2 (some .int) ∈ TT := tin5 (i := 10) rfl rfl
set_option maxRecDepth 100000 in
theorem mc_131 : Cond.code yX12_kiln cX12_kiln 5 (some .int) ∈ TT := tin5 (i := 22) rfl rfl
set_option maxRecDepth 100000 in
theorem mc_132 : Cond.code yX12_pot cX12_pot 3 (some .int) ∈ TT := tin5 (i := 30) rfl rfl
set_option maxRecDepth 100000 in
theorem mc_133 : Cond.code yX12_open cX12_open 4 (some .int) ∈ TT := tin5 (i := 38) rfl rfl
set_option maxRecDepth 100000 in
theorem mc_134 : Cond.code yX12_damp cX12_damp 4 (some .int) ∈ TT := tin5 (i := 42) rfl rfl
set_option maxRecDepth 100000 in
theorem mc_135 : Cond.code yX12_put cX12_put 4 (some .int) ∈ TT := tin5 (i := 46) rfl rfl
set_option maxRecDepth 100000 in
theorem mc_136 : Cond.code yX12_begin cX12_begin 2 none ∈ TT := tin5 (i := 59) rfl rfl
set_option maxRecDepth 100000 in
theorem mc_137 : Cond.code yX12_goHeat cX12_goHeat 5 none ∈ TT := tin5 (i := 67) rfl rfl
set_option maxRecDepth 100000 in
theorem mc_138 : Cond.code yX12_isSalted cX12_isSalted 5 (some .boolean) ∈ TT := tin5 (i := 75) rfl rfl
set_option maxRecDepth 100000 in
theorem mc_139 : Cond.code yX12_feel cX12_feel 4 (some .int) ∈ TT := tin5 (i := 71) rfl rfl
set_option maxRecDepth 100000 in
theorem mc_140 : Cond.code yX12_go cX12_go 5 (some .int) ∈ TT := tin5 (i := 63) rfl rfl
set_option maxRecDepth 100000 in
theorem mc_141 : Cond.code yX12_goMany cX12_goMany 4 none ∈ TT := tin5 (i := 90) rfl rfl
set_option maxRecDepth 100000 in
theorem mc_142 : Cond.code yX12_note cX12_note 3 none ∈ TT := tin5 (i := 55) rfl rfl
set_option maxRecDepth 100000 in
theorem mc_143 : Cond.code yX12_quarter cX12_quarter 4 (some .int) ∈ TT := tin5 (i := 50) rfl rfl
set_option maxRecDepth 100000 in
theorem mc_144 : Cond.code yX12_undo cX12_undo 3 (some .int) ∈ TT := tin5 (i := 79) rfl rfl
set_option maxRecDepth 100000 in
theorem mc_145 : Cond.code yX12_warm cX12_warm 4 (some .int) ∈ TT := tin5 (i := 83) rfl rfl
set_option maxRecDepth 100000 in
theorem mc_146 : Cond.code yX12_then cX12_then 4 (some .int) ∈ TT := tin5 (i := 94) rfl rfl
set_option maxRecDepth 100000 in
theorem mc_147 : Cond.code yX12_findLeast cX12_findLeast 10 (some .int) ∈ TT := tin5 (i := 107) rfl rfl
set_option maxRecDepth 100000 in
theorem mc_148 : Cond.code yX12_noLeast cX12_noLeast 3 (some .boolean) ∈ TT := tin5 (i := 102) rfl rfl
set_option maxRecDepth 100000 in
theorem mc_149 : Cond.code yX12_least cX12_least 3 (some .int) ∈ TT := tin5 (i := 98) rfl rfl
set_option maxRecDepth 100000 in
theorem mc_150 : Cond.code yX12_leastAt cX12_leastAt 4 (some .int) ∈ TT := tin5 (i := 111) rfl rfl
set_option maxRecDepth 100000 in
theorem mc_151 : Cond.code yX12_findFloors cX12_findFloors 9 (some .int) ∈ TT := tin5 (i := 119) rfl rfl
set_option maxRecDepth 100000 in
theorem mc_152 : Cond.code yX12_floors cX12_floors 3 (some .int) ∈ TT := tin5 (i := 115) rfl rfl
set_option maxRecDepth 100000 in
theorem mc_153 : Cond.code yX12_floorAt cX12_floorAt 4 (some .int) ∈ TT := tin5 (i := 123) rfl rfl
set_option maxRecDepth 100000 in
theorem mc_154 : Cond.code yX12_openFor cX12_openFor 8 (some .int) ∈ TT := tin5 (i := 127) rfl rfl
set_option maxRecDepth 100000 in
theorem mc_155 : Cond.code yX12_divisor cX12_divisor 10 (some .long) ∈ TT := tin5 (i := 137) rfl rfl
set_option maxRecDepth 100000 in
theorem mc_156 : Cond.code yX12_gales cX12_gales 14 (some .long) ∈ TT := tin5 (i := 131) rfl rfl
set_option maxRecDepth 100000 in
theorem mc_157 : Cond.code yX12_cone cX12_cone 6 (some .int) ∈ TT := tin5 (i := 141) rfl rfl
set_option maxRecDepth 100000 in
theorem mc_158 : Cond.code yX12_uncone cX12_uncone 2 (some .int) ∈ TT := tin5 (i := 146) rfl rfl
set_option maxRecDepth 100000 in
theorem mc_159 : Cond.code yX12_isTrue cX12_isTrue 3 (some .boolean) ∈ TT := tin5 (i := 154) rfl rfl
set_option maxRecDepth 100000 in
theorem mc_160 : Cond.code yX12_blame cX12_blame 7 (some .int) ∈ TT := tin5 (i := 150) rfl rfl
set_option maxRecDepth 100000 in
theorem mc_161 : Cond.code yX12_owed cX12_owed 5 (some .int) ∈ TT := tin5 (i := 158) rfl rfl
set_option maxRecDepth 100000 in
theorem mc_162 : Cond.code yX12_keep cX12_keep 4 (some .int) ∈ TT := tin5 (i := 162) rfl rfl
set_option maxRecDepth 100000 in
theorem mc_163 : Cond.code yX12_again cX12_again 4 (some .int) ∈ TT := tin5 (i := 166) rfl rfl
set_option maxRecDepth 100000 in
theorem mc_164 : Cond.code yJ6_bitCount_0f7a4 cJ6_bitCount_0f7a4 1 (some .int) ∈ TT := tin3 (i := 234) rfl rfl
theorem mcs_0 : ∀ q ∈ mis0, Cond.code q.1 q.2.1 q.2.2.1 q.2.2.2.1 ∈ TT := List.forall_mem_cons.mpr ⟨mc_0, List.forall_mem_cons.mpr ⟨mc_1, List.forall_mem_cons.mpr ⟨mc_2, List.forall_mem_cons.mpr ⟨mc_3, List.forall_mem_cons.mpr ⟨mc_4, List.forall_mem_cons.mpr ⟨mc_5, List.forall_mem_cons.mpr ⟨mc_6, List.forall_mem_cons.mpr ⟨mc_7, List.forall_mem_cons.mpr ⟨mc_8, List.forall_mem_cons.mpr ⟨mc_9, List.forall_mem_cons.mpr ⟨mc_10, List.forall_mem_cons.mpr ⟨mc_11, List.forall_mem_cons.mpr ⟨mc_12, List.forall_mem_cons.mpr ⟨mc_13, List.forall_mem_cons.mpr ⟨mc_14, List.forall_mem_cons.mpr ⟨mc_15, List.forall_mem_cons.mpr ⟨mc_16, List.forall_mem_cons.mpr ⟨mc_17, List.forall_mem_cons.mpr ⟨mc_18, List.forall_mem_cons.mpr ⟨mc_19, List.forall_mem_cons.mpr ⟨mc_20, List.forall_mem_cons.mpr ⟨mc_21, List.forall_mem_cons.mpr ⟨mc_22, List.forall_mem_cons.mpr ⟨mc_23, List.forall_mem_cons.mpr ⟨mc_24, List.forall_mem_cons.mpr ⟨mc_25, List.forall_mem_cons.mpr ⟨mc_26, List.forall_mem_cons.mpr ⟨mc_27, List.forall_mem_cons.mpr ⟨mc_28, List.forall_mem_cons.mpr ⟨mc_29, List.forall_mem_cons.mpr ⟨mc_30, List.forall_mem_cons.mpr ⟨mc_31, List.forall_mem_cons.mpr ⟨mc_32, List.forall_mem_cons.mpr ⟨mc_33, List.forall_mem_cons.mpr ⟨mc_34, List.forall_mem_cons.mpr ⟨mc_35, List.forall_mem_cons.mpr ⟨mc_36, List.forall_mem_cons.mpr ⟨mc_37, List.forall_mem_cons.mpr ⟨mc_38, List.forall_mem_cons.mpr ⟨mc_39, fun _ h => absurd h List.not_mem_nil⟩⟩⟩⟩⟩⟩⟩⟩⟩⟩⟩⟩⟩⟩⟩⟩⟩⟩⟩⟩⟩⟩⟩⟩⟩⟩⟩⟩⟩⟩⟩⟩⟩⟩⟩⟩⟩⟩⟩⟩
theorem mcs_1 : ∀ q ∈ mis1, Cond.code q.1 q.2.1 q.2.2.1 q.2.2.2.1 ∈ TT := List.forall_mem_cons.mpr ⟨mc_40, List.forall_mem_cons.mpr ⟨mc_41, List.forall_mem_cons.mpr ⟨mc_42, List.forall_mem_cons.mpr ⟨mc_43, List.forall_mem_cons.mpr ⟨mc_44, List.forall_mem_cons.mpr ⟨mc_45, List.forall_mem_cons.mpr ⟨mc_46, List.forall_mem_cons.mpr ⟨mc_47, List.forall_mem_cons.mpr ⟨mc_48, List.forall_mem_cons.mpr ⟨mc_49, List.forall_mem_cons.mpr ⟨mc_50, List.forall_mem_cons.mpr ⟨mc_51, List.forall_mem_cons.mpr ⟨mc_52, List.forall_mem_cons.mpr ⟨mc_53, List.forall_mem_cons.mpr ⟨mc_54, List.forall_mem_cons.mpr ⟨mc_55, List.forall_mem_cons.mpr ⟨mc_56, List.forall_mem_cons.mpr ⟨mc_57, List.forall_mem_cons.mpr ⟨mc_58, List.forall_mem_cons.mpr ⟨mc_59, List.forall_mem_cons.mpr ⟨mc_60, List.forall_mem_cons.mpr ⟨mc_61, List.forall_mem_cons.mpr ⟨mc_62, List.forall_mem_cons.mpr ⟨mc_63, List.forall_mem_cons.mpr ⟨mc_64, List.forall_mem_cons.mpr ⟨mc_65, List.forall_mem_cons.mpr ⟨mc_66, List.forall_mem_cons.mpr ⟨mc_67, List.forall_mem_cons.mpr ⟨mc_68, List.forall_mem_cons.mpr ⟨mc_69, List.forall_mem_cons.mpr ⟨mc_70, List.forall_mem_cons.mpr ⟨mc_71, List.forall_mem_cons.mpr ⟨mc_72, List.forall_mem_cons.mpr ⟨mc_73, List.forall_mem_cons.mpr ⟨mc_74, List.forall_mem_cons.mpr ⟨mc_75, List.forall_mem_cons.mpr ⟨mc_76, List.forall_mem_cons.mpr ⟨mc_77, List.forall_mem_cons.mpr ⟨mc_78, List.forall_mem_cons.mpr ⟨mc_79, fun _ h => absurd h List.not_mem_nil⟩⟩⟩⟩⟩⟩⟩⟩⟩⟩⟩⟩⟩⟩⟩⟩⟩⟩⟩⟩⟩⟩⟩⟩⟩⟩⟩⟩⟩⟩⟩⟩⟩⟩⟩⟩⟩⟩⟩⟩
theorem mcs_2 : ∀ q ∈ mis2, Cond.code q.1 q.2.1 q.2.2.1 q.2.2.2.1 ∈ TT := List.forall_mem_cons.mpr ⟨mc_80, List.forall_mem_cons.mpr ⟨mc_81, List.forall_mem_cons.mpr ⟨mc_82, List.forall_mem_cons.mpr ⟨mc_83, List.forall_mem_cons.mpr ⟨mc_84, List.forall_mem_cons.mpr ⟨mc_85, List.forall_mem_cons.mpr ⟨mc_86, List.forall_mem_cons.mpr ⟨mc_87, List.forall_mem_cons.mpr ⟨mc_88, List.forall_mem_cons.mpr ⟨mc_89, List.forall_mem_cons.mpr ⟨mc_90, List.forall_mem_cons.mpr ⟨mc_91, List.forall_mem_cons.mpr ⟨mc_92, List.forall_mem_cons.mpr ⟨mc_93, List.forall_mem_cons.mpr ⟨mc_94, List.forall_mem_cons.mpr ⟨mc_95, List.forall_mem_cons.mpr ⟨mc_96, List.forall_mem_cons.mpr ⟨mc_97, List.forall_mem_cons.mpr ⟨mc_98, List.forall_mem_cons.mpr ⟨mc_99, List.forall_mem_cons.mpr ⟨mc_100, List.forall_mem_cons.mpr ⟨mc_101, List.forall_mem_cons.mpr ⟨mc_102, List.forall_mem_cons.mpr ⟨mc_103, List.forall_mem_cons.mpr ⟨mc_104, List.forall_mem_cons.mpr ⟨mc_105, List.forall_mem_cons.mpr ⟨mc_106, List.forall_mem_cons.mpr ⟨mc_107, List.forall_mem_cons.mpr ⟨mc_108, List.forall_mem_cons.mpr ⟨mc_109, List.forall_mem_cons.mpr ⟨mc_110, List.forall_mem_cons.mpr ⟨mc_111, List.forall_mem_cons.mpr ⟨mc_112, List.forall_mem_cons.mpr ⟨mc_113, List.forall_mem_cons.mpr ⟨mc_114, List.forall_mem_cons.mpr ⟨mc_115, List.forall_mem_cons.mpr ⟨mc_116, List.forall_mem_cons.mpr ⟨mc_117, List.forall_mem_cons.mpr ⟨mc_118, List.forall_mem_cons.mpr ⟨mc_119, fun _ h => absurd h List.not_mem_nil⟩⟩⟩⟩⟩⟩⟩⟩⟩⟩⟩⟩⟩⟩⟩⟩⟩⟩⟩⟩⟩⟩⟩⟩⟩⟩⟩⟩⟩⟩⟩⟩⟩⟩⟩⟩⟩⟩⟩⟩
theorem mcs_3 : ∀ q ∈ mis3, Cond.code q.1 q.2.1 q.2.2.1 q.2.2.2.1 ∈ TT := List.forall_mem_cons.mpr ⟨mc_120, List.forall_mem_cons.mpr ⟨mc_121, List.forall_mem_cons.mpr ⟨mc_122, List.forall_mem_cons.mpr ⟨mc_123, List.forall_mem_cons.mpr ⟨mc_124, List.forall_mem_cons.mpr ⟨mc_125, List.forall_mem_cons.mpr ⟨mc_126, List.forall_mem_cons.mpr ⟨mc_127, List.forall_mem_cons.mpr ⟨mc_128, List.forall_mem_cons.mpr ⟨mc_129, List.forall_mem_cons.mpr ⟨mc_130, List.forall_mem_cons.mpr ⟨mc_131, List.forall_mem_cons.mpr ⟨mc_132, List.forall_mem_cons.mpr ⟨mc_133, List.forall_mem_cons.mpr ⟨mc_134, List.forall_mem_cons.mpr ⟨mc_135, List.forall_mem_cons.mpr ⟨mc_136, List.forall_mem_cons.mpr ⟨mc_137, List.forall_mem_cons.mpr ⟨mc_138, List.forall_mem_cons.mpr ⟨mc_139, List.forall_mem_cons.mpr ⟨mc_140, List.forall_mem_cons.mpr ⟨mc_141, List.forall_mem_cons.mpr ⟨mc_142, List.forall_mem_cons.mpr ⟨mc_143, List.forall_mem_cons.mpr ⟨mc_144, List.forall_mem_cons.mpr ⟨mc_145, List.forall_mem_cons.mpr ⟨mc_146, List.forall_mem_cons.mpr ⟨mc_147, List.forall_mem_cons.mpr ⟨mc_148, List.forall_mem_cons.mpr ⟨mc_149, List.forall_mem_cons.mpr ⟨mc_150, List.forall_mem_cons.mpr ⟨mc_151, List.forall_mem_cons.mpr ⟨mc_152, List.forall_mem_cons.mpr ⟨mc_153, List.forall_mem_cons.mpr ⟨mc_154, List.forall_mem_cons.mpr ⟨mc_155, List.forall_mem_cons.mpr ⟨mc_156, List.forall_mem_cons.mpr ⟨mc_157, List.forall_mem_cons.mpr ⟨mc_158, List.forall_mem_cons.mpr ⟨mc_159, fun _ h => absurd h List.not_mem_nil⟩⟩⟩⟩⟩⟩⟩⟩⟩⟩⟩⟩⟩⟩⟩⟩⟩⟩⟩⟩⟩⟩⟩⟩⟩⟩⟩⟩⟩⟩⟩⟩⟩⟩⟩⟩⟩⟩⟩⟩
theorem mcs_4 : ∀ q ∈ mis4, Cond.code q.1 q.2.1 q.2.2.1 q.2.2.2.1 ∈ TT := List.forall_mem_cons.mpr ⟨mc_160, List.forall_mem_cons.mpr ⟨mc_161, List.forall_mem_cons.mpr ⟨mc_162, List.forall_mem_cons.mpr ⟨mc_163, List.forall_mem_cons.mpr ⟨mc_164, fun _ h => absurd h List.not_mem_nil⟩⟩⟩⟩⟩
theorem mis_code : ∀ q ∈ mis, Cond.code q.1 q.2.1 q.2.2.1 q.2.2.2.1 ∈ TT := List.forall_mem_append.mpr ⟨mcs_0, List.forall_mem_append.mpr ⟨mcs_1, List.forall_mem_append.mpr ⟨mcs_2, List.forall_mem_append.mpr ⟨mcs_3, mcs_4⟩⟩⟩⟩
def misOk (mid : Nat) : Bool := match mis[mid]?, mwi[mid]? with
  | some (y, c, L, ret, cn, _, _, n), some (_, _, _, w4) => wAt (.initialized y.cls) w4 && decide (y.cls = RR cn) && decide (y.cls ≠ "java/lang/invoke/MethodHandle") && decide (y.cls ≠ "java/lang/invoke/VarHandle") && decide ((parseMethodDescriptor y.desc).map (fun d => d.parameters.length) = some n) && plainName y.cls
  | _, _ => false
set_option maxRecDepth 100000 in
theorem mis_all : (List.range mis.length).all misOk = true := by decide +kernel
theorem mis_ok {mid : Nat} {y : MethodName} {c : ByteArray} {L : Nat} {ret : Option FieldType} {cn mc ms n : Nat} (h : mis[mid]? = some (y, c, L, ret, cn, mc, ms, n)) : Cond.code y c L ret ∈ TT ∧ Cond.initialized y.cls ∈ TT ∧ y.cls = RR cn ∧ (y.cls ≠ "java/lang/invoke/MethodHandle" ∧ y.cls ≠ "java/lang/invoke/VarHandle" ∧ (parseMethodDescriptor y.desc).map (fun d => d.parameters.length) = some n) ∧ plainName y.cls = true := by
  have h1 := List.all_eq_true.mp mis_all mid (List.mem_range.mpr (List.getElem?_eq_some_iff.mp h).1)
  unfold misOk at h1
  rw [h] at h1
  split at h1
  · rename_i e1 e2
    cases e1
    simp only [Bool.and_eq_true, decide_eq_true_eq] at h1
    obtain ⟨⟨⟨⟨⟨h2, h3⟩, h4⟩, h5⟩, h6⟩, h7⟩ := h1
    exact ⟨mis_code _ (List.mem_of_getElem? h), wAt_mem h2, h3, ⟨h4, h5, h6⟩, h7⟩
  · cases h1
/-- a call's place: the callee, kind 0 virtual, 1 static, 2 a constructor, 3 a nest mate's private constructor -/
def mOk (cn : Nat) (q : Nat × Nat × Nat × Nat) : Bool := match mis[q.2.1]?, mwi[q.2.1]? with
  | some (y, _, _, ret, _, _, _, _), some (_, w2, w3, _) => match q.2.2.1 with
    | 0 => wAt (.methodLink (RR cn) q.1 y) q.2.2.2 && wAt (.instanceMethod y) w2 && wAt (.selects y.cls y y) w3
    | 1 => wAt (.methodLink (RR cn) q.1 y) q.2.2.2 && wAt (.static y) w2
    | 2 => wAt (.methodLink (RR cn) q.1 y) q.2.2.2 && wAt (.instanceMethod y) w2 && decide (y.name = "<init>") && decide (ret = none)
    | 3 => wAt (.instanceMethod y) w2 && decide (y.name = "<init>") && decide (ret = none) && decide (cn = 11 ∧ ((q.1 = 9 ∧ y = yX7_init) ∨ (q.1 = 18 ∧ y = yX5_init) ∨ (q.1 = 25 ∧ y = yX8_init)))
    | _ => false
  | _, _ => false
set_option maxRecDepth 100000 in
theorem mTab_ok : (List.range 15).all (fun cn => (mTab.getD cn []).all (fun q => mOk cn q)) = true := by decide +kernel
theorem mT_ok {cn idx mid kd : Nat} (h : mT cn idx = some (mid, kd)) : ∃ (y : MethodName) (c : ByteArray) (L : Nat) (ret : Option FieldType) (cn' mc ms n : Nat), mis[mid]? = some (y, c, L, ret, cn', mc, ms, n) ∧
    ((kd = 0 ∧ Cond.methodLink (RR cn) idx y ∈ TT ∧ Cond.instanceMethod y ∈ TT ∧ Cond.selects y.cls y y ∈ TT) ∨ (kd = 1 ∧ Cond.methodLink (RR cn) idx y ∈ TT ∧ Cond.static y ∈ TT) ∨ (kd = 2 ∧ Cond.methodLink (RR cn) idx y ∈ TT ∧ Cond.instanceMethod y ∈ TT ∧ y.name = "<init>" ∧ ret = none) ∨ (kd = 3 ∧ (cn = 11 ∧ ((idx = 9 ∧ y = yX7_init) ∨ (idx = 18 ∧ y = yX5_init) ∨ (idx = 25 ∧ y = yX8_init))) ∧ Cond.instanceMethod y ∈ TT ∧ y.name = "<init>" ∧ ret = none)) := by
  unfold mT at h
  cases hq : (mTab.getD cn []).find? (fun q => q.1 == idx) with
  | none => rw [hq] at h; cases h
  | some q =>
    rw [hq] at h
    cases h
    obtain ⟨h1, h2⟩ := tab_get mTab_ok rfl hq
    rw [← eq_of_beq h2]
    unfold mOk at h1
    split at h1
    · rename_i y c L ret cn' mc ms n w1 w2 w3 w4 e1 e2
      refine ⟨y, c, L, ret, cn', mc, ms, n, e1, ?_⟩
      split at h1 <;> rename_i hk
      · simp only [Bool.and_eq_true, decide_eq_true_eq] at h1
        exact Or.inl ⟨hk, wAt_mem h1.1.1, wAt_mem h1.1.2, wAt_mem h1.2⟩
      · simp only [Bool.and_eq_true, decide_eq_true_eq] at h1
        exact Or.inr (Or.inl ⟨hk, wAt_mem h1.1, wAt_mem h1.2⟩)
      · simp only [Bool.and_eq_true, decide_eq_true_eq] at h1
        exact Or.inr (Or.inr (Or.inl ⟨hk, wAt_mem h1.1.1.1, wAt_mem h1.1.1.2, h1.1.2, h1.2⟩))
      · simp only [Bool.and_eq_true, decide_eq_true_eq] at h1
        exact Or.inr (Or.inr (Or.inr ⟨hk, h1.2, wAt_mem h1.1.1.1, h1.1.1.2, h1.1.2⟩))
      · cases h1
    · cases h1
set_option maxRecDepth 100000 in
theorem cTab_ok : (List.range 15).all (fun cn => (cTab.getD cn []).all (fun q => match vwCl[q.2.1]? with | some (C, _, _) => wAt (.classLink (RR cn) q.1 C) q.2.2 | none => false)) = true := by decide +kernel
set_option maxRecDepth 100000 in
theorem cT_ok {cn idx ci : Nat} (h : cT cn idx = some ci) : ∃ (C : String) (T : u_T) (N : Nat), vwCl[ci]? = some (C, T, N) ∧ Cond.classLink (RR cn) idx C ∈ TT := by
  unfold cT at h
  cases hq : (cTab.getD cn []).find? (fun q => q.1 == idx) with
  | none => rw [hq] at h; cases h
  | some q =>
    rw [hq] at h
    cases h
    obtain ⟨h1, h2⟩ := tab_get (P := fun cn q => match vwCl[q.2.1]? with | some (C, _, _) => wAt (.classLink (RR cn) q.1 C) q.2.2 | none => false) cTab_ok rfl hq
    rw [← eq_of_beq h2]
    split at h1
    · rename_i C T N hc
      exact ⟨C, T, N, hc, wAt_mem h1⟩
    · cases h1
theorem one_ok {tab : List (List (Nat × Nat))} {f : Nat → Nat → Cond} (hall : (List.range 15).all (fun cn => (tab.getD cn []).all (fun q => wAt (f cn q.1) q.2)) = true) (hl : tab.length = 15) {cn idx : Nat} (h : ((tab.getD cn []).find? (fun q => q.1 == idx)).isSome = true) : f cn idx ∈ TT := by
  obtain ⟨q, hq⟩ := Option.isSome_iff_exists.mp h
  obtain ⟨h1, h2⟩ := tab_get (P := fun cn q => wAt (f cn q.1) q.2) hall hl hq
  rw [← eq_of_beq h2]
  exact wAt_mem h1
theorem aT_ok {cn idx : Nat} (h : aT cn idx = true) : Cond.classLink (RR cn) idx "OvensAbove$Tower" ∈ TT := one_ok (f := fun cn i => Cond.classLink (RR cn) i "OvensAbove$Tower") (by decide +kernel) rfl h
theorem oT_ok {cn idx : Nat} (h : oT cn idx = true) : Cond.methodLink (RR cn) idx objectInit ∈ TT := one_ok (f := fun cn i => Cond.methodLink (RR cn) i objectInit) (by decide +kernel) rfl h
theorem pT_ok {cn idx : Nat} (h : pT cn idx = true) : Cond.methodLink (RR cn) idx arraycopyName ∈ TT := one_ok (f := fun cn i => Cond.methodLink (RR cn) i arraycopyName) (by decide +kernel) rfl h
theorem bT_ok {cn idx : Nat} (h : bT cn idx = true) : Cond.methodLink (RR cn) idx Lib.Math.abs.name ∈ TT := one_ok (f := fun cn i => Cond.methodLink (RR cn) i Lib.Math.abs.name) (by decide +kernel) rfl h
theorem lTab_ok : (List.range 15).all (fun cn => (lTab.getD cn []).all (fun q => wAt (.constantLong (RR cn) q.1 q.2.1) q.2.2)) = true := by decide +kernel
set_option maxRecDepth 100000 in
theorem lT_ok {cn idx : Nat} {v : Int64} (h : lT cn idx = some v) : Cond.constantLong (RR cn) idx v ∈ TT := by
  unfold lT at h
  cases hq : (lTab.getD cn []).find? (fun q => q.1 == idx) with
  | none => rw [hq] at h; cases h
  | some q =>
    rw [hq] at h
    cases h
    obtain ⟨h1, h2⟩ := tab_get (P := fun cn q => wAt (.constantLong (RR cn) q.1 q.2.1) q.2.2) lTab_ok rfl hq
    rw [← eq_of_beq h2]
    exact wAt_mem h1
theorem iTab_ok : (List.range 15).all (fun cn => (iTab.getD cn []).all (fun q => wAt (.constant (RR cn) q.1 q.2.1) q.2.2)) = true := by decide +kernel
set_option maxRecDepth 100000 in
theorem iT_ok {cn idx : Nat} {v : Int32} (h : iT cn idx = some v) : Cond.constant (RR cn) idx v ∈ TT := by
  unfold iT at h
  cases hq : (iTab.getD cn []).find? (fun q => q.1 == idx) with
  | none => rw [hq] at h; cases h
  | some q =>
    rw [hq] at h
    cases h
    obtain ⟨h1, h2⟩ := tab_get (P := fun cn q => wAt (.constant (RR cn) q.1 q.2.1) q.2.2) iTab_ok rfl hq
    rw [← eq_of_beq h2]
    exact wAt_mem h1
theorem w_objInstance : Cond.instanceMethod objectInit ∈ TT := wAt_mem (i := 61) (by decide +kernel)
set_option maxRecDepth 100000 in
theorem w_objCode : Cond.code objectInit ⟨#[0xb1]⟩ 1 none ∈ TT := tin1 (i := 24) rfl rfl
theorem w_acNat : Cond.native arraycopyName ∈ TT := wAt_mem (i := 474) (by decide +kernel)
theorem w_acStat : Cond.static arraycopyName ∈ TT := wAt_mem (i := 473) (by decide +kernel)
theorem w_acIni : Cond.initialized "java/lang/System" ∈ TT := wAt_mem (i := 52) (by decide +kernel)
theorem w_abStat : Cond.static Lib.Math.abs.name ∈ TT := wAt_mem (i := 601) (by decide +kernel)
theorem w_abIni : Cond.initialized "java/lang/Math" ∈ TT := wAt_mem (i := 53) (by decide +kernel)
set_option maxRecDepth 100000 in
theorem w_abCode : Cond.code Lib.Math.abs.name Lib.Math.abs.code 1 (some .int) ∈ TT := tin3 (i := 84) rfl rfl
theorem w_arI : Cond.arrayClass .int ∈ TT := wAt_mem (i := 76) (by decide +kernel)
theorem w_arZ : Cond.arrayClass .boolean ∈ TT := wAt_mem (i := 114) (by decide +kernel)
theorem w_mmLink : Cond.classLink (RR 5) 18 ("[" ++ (FieldType.array .int).toString) ∈ TT := wAt_mem (i := 83) (by decide +kernel)
theorem w_aoT : Cond.arrayOver (.object "OvensAbove$Tower") ∈ lw_tbl := List.mem_of_getElem? (i := 246) (by decide +kernel)
theorem w_aoI : Cond.arrayOver (.array .int) ∈ lw_tbl := List.mem_of_getElem? (i := 84) (by decide +kernel)
theorem w_n9 : Cond.methodLinkNest RX11 9 yX7_init "OvensAbove" ∈ lw_tbl := List.mem_of_getElem? (i := 65) (by decide +kernel)
theorem w_n18 : Cond.methodLinkNest RX11 18 yX5_init "OvensAbove" ∈ lw_tbl := List.mem_of_getElem? (i := 79) (by decide +kernel)
theorem w_n25 : Cond.methodLinkNest RX11 25 yX8_init "OvensAbove" ∈ lw_tbl := List.mem_of_getElem? (i := 117) (by decide +kernel)
end
section
/-! The ghost machine: its stack instructions, and that the machine does them -/
def iI (a : Int) : Int32 := Int32.ofInt a
/-- a ghost value as the machine has it: cells stand at base + their number; the script at b -/
def reV (base b : Nat) (v : Value) : Value := match v with
  | .ref a => .ref (base + a)
  | .retAddr _ => .ref b
  | v => v
theorem reV_cat (base b : Nat) (v : Value) : (reV base b v).category = v.category := by cases v <;> rfl
def gAlu (ins : Instr) (stk : List Value) : Option (List Value) := match ins, stk with
  | .iconst n, st => some (.int (iI n) :: st)
  | .bipush n, st => if -128 ≤ n ∧ n < 128 then some (.int (iI n) :: st) else none
  | .sipush n, st => if -32768 ≤ n ∧ n < 32768 then some (.int (iI n) :: st) else none
  | .lconst n, st => some (.long (Int64.ofNat n) :: st)
  | .iadd, .int y :: .int x :: st => some (.int (x + y) :: st)
  | .isub, .int y :: .int x :: st => some (.int (x - y) :: st)
  | .imul, .int y :: .int x :: st => some (.int (x * y) :: st)
  | .iand, .int y :: .int x :: st => some (.int (x &&& y) :: st)
  | .ior, .int y :: .int x :: st => some (.int (x ||| y) :: st)
  | .idiv, .int y :: .int x :: st => if y = 0 then none else some (.int (x / y) :: st)
  | .irem, .int y :: .int x :: st => if y = 0 then none else some (.int (x - x / y * y) :: st)
  | .ineg, .int x :: st => some (.int (-x) :: st)
  | .ladd, .long y :: .long x :: st => some (.long (x + y) :: st)
  | .lmul, .long y :: .long x :: st => some (.long (x * y) :: st)
  | .land, .long y :: .long x :: st => some (.long (x &&& y) :: st)
  | .lor, .long y :: .long x :: st => some (.long (x ||| y) :: st)
  | .ldiv, .long y :: .long x :: st => if y = 0 then none else some (.long (x / y) :: st)
  | .lrem, .long y :: .long x :: st => if y = 0 then none else some (.long (x - x / y * y) :: st)
  | .ishl, .int y :: .int x :: st => some (.int (x <<< (y &&& 31)) :: st)
  | .ishr, .int y :: .int x :: st => some (.int (x >>> (y &&& 31)) :: st)
  | .i2l, .int x :: st => some (.long x.toInt64 :: st)
  | .l2i, .long x :: st => some (.int x.toInt32 :: st)
  | .iushr, .int y :: .int x :: st => some (.int (x.toUInt32 >>> (y.toUInt32 &&& Int32.toUInt32 31)).toInt32 :: st)
  | .lushr, .int y :: .long x :: st => some (.long (x.toUInt64 >>> (y.toInt64.toUInt64 &&& Int64.toUInt64 63)).toInt64 :: st)
  | .lshl, .int y :: .long x :: st => some (.long (x <<< (y.toInt64 &&& 63)) :: st)
  | .lshr, .int y :: .long x :: st => some (.long (x >>> (y.toInt64 &&& 63)) :: st)
  | .lcmp, .long y :: .long x :: st => some (.int (lg_cmp x y) :: st)
  | .dup, v :: st => if v.category = 1 then some (v :: v :: st) else none
  | .pop, v :: st => if v.category = 1 then some st else none
  | .dup2, v :: u :: st => if v.category = 1 ∧ u.category = 1 then some (v :: u :: v :: u :: st) else none
  | _, _ => none
/-- how long it is -/
def gLen (ins : Instr) : Nat := match ins with
  | .bipush _ => 2
  | .sipush _ => 3
  | _ => 1
theorem iI_byte (n : Int) (h : -128 ≤ n ∧ n < 128) : (Int8.ofInt n).toInt32 = iI n := by
  apply Int32.toInt_inj.mp
  rw [Int8.toInt_toInt32, iI, Int8.toInt_ofInt_of_le (by omega) (by omega), Int32.toInt_ofInt_of_le (by omega) (by omega)]
theorem iI_short (n : Int) (h : -32768 ≤ n ∧ n < 32768) : (Int16.ofInt n).toInt32 = iI n := by
  apply Int32.toInt_inj.mp
  rw [Int16.toInt_toInt32, iI, Int16.toInt_ofInt_of_le (by omega) (by omega), Int32.toInt_ofInt_of_le (by omega) (by omega)]
section GA
variable {p : Program} {l : Launch} {e : Env} {R : Room} {s : State} {m : MethodId} {args : Array Value} {below : List Frame} {meth : Method} {c : Code} {H : Heap} {locs : List Loc} {cells slots : Nat} {Q : State → Prop}
variable {cc : ByteArray} {pc : Nat} {ls : Array Slot}
set_option maxHeartbeats 4000000 in
theorem gAlu_W (hexec : p.tables.exec = Jvm.exec) (hb : c.code = cc) {ins : Instr} {stk stk' : List Value} {len base b : Nat} (ha : gAlu ins stk = some stk') (hlen : len = gLen ins) (hdg : decode cc pc = .ok (ins, len))
    (k : W p l e R s m args below meth c H locs cells slots Q (F0 m (pc + len) ls (stk'.map (reV base b)))) : W p l e R s m args below meth c H locs cells slots Q (F0 m pc ls (stk.map (reV base b))) := by
  subst hlen
  unfold gAlu at ha
  split at ha
  · cases ha; exact lv_iconst hexec hb hdg rfl k
  · split at ha
    · rename_i hc; cases ha; exact lv_bipush hexec hb hdg (iI_byte _ hc) k
    · cases ha
  · split at ha
    · rename_i hc; cases ha; exact lv_sipush hexec hb hdg (iI_short _ hc) k
    · cases ha
  · cases ha; exact lv_lconst hexec hb hdg rfl k
  · cases ha; exact lv_iadd hexec hb hdg k
  · cases ha; exact lv_isub hexec hb hdg k
  · cases ha; exact lv_imul hexec hb hdg k
  · cases ha; exact lv_iand hexec hb hdg k
  · cases ha; exact lv_ior hexec hb hdg k
  · split at ha
    · cases ha
    · rename_i hc; cases ha; exact lv_idiv hexec hb hdg hc k
  · split at ha
    · cases ha
    · rename_i hc; cases ha; exact lv_irem hexec hb hdg hc k
  · cases ha; exact lv_ineg hexec hb hdg k
  · cases ha; exact lv_ladd hexec hb hdg k
  · cases ha; exact lv_lmul hexec hb hdg k
  · cases ha; exact lv_land hexec hb hdg k
  · cases ha; exact lv_lor hexec hb hdg k
  · split at ha
    · cases ha
    · rename_i hc; cases ha; exact lv_ldiv hexec hb hdg hc k
  · split at ha
    · cases ha
    · rename_i hc; cases ha; exact lv_lrem hexec hb hdg hc k
  · cases ha; exact lv_ishl hexec hb hdg k
  · cases ha; exact lv_ishr hexec hb hdg k
  · cases ha; exact lv_i2l hexec hb hdg rfl k
  · cases ha; exact lv_l2i hexec hb hdg rfl k
  · cases ha; exact lv_iushr hexec hb hdg rfl k
  · cases ha; exact lv_lushr hexec hb hdg rfl k
  · cases ha; exact lv_lshl hexec hb hdg rfl k
  · cases ha; exact lv_lshr hexec hb hdg rfl k
  · cases ha; exact W.lcmp hexec hb hdg k
  · split at ha
    · rename_i hc; cases ha; exact lv_dup hexec hb hdg ((reV_cat base b _).trans hc) k
    · cases ha
  · split at ha
    · rename_i hc; cases ha; exact lv_pop hexec hb hdg ((reV_cat base b _).trans hc) k
    · cases ha
  · split at ha
    · rename_i hc; cases ha; exact lv_dup2_11 hexec hb hdg ((reV_cat base b _).trans hc.1) ((reV_cat base b _).trans hc.2) k
    · cases ha
  · cases ha
end GA
end
section
/-! The ghost machine: its locals -/
abbrev GL : Type := List (Option Value)
def is2 (o : Option Value) : Bool := match o with
  | some v => v.category == 2
  | none => false
def gset1 : GL → Nat → Value → GL
  | [], _, _ => []
  | _ :: l, 0, v => some v :: l
  | o :: l, 1, v => (if is2 o then none else o) :: gset1 l 0 v
  | o :: l, i + 2, v => o :: gset1 l (i + 1) v
def gset2 : GL → Nat → Value → GL
  | [], _, _ => []
  | [_], 0, v => [some v]
  | _ :: _ :: l, 0, v => some v :: none :: l
  | o :: l, 1, v => (if is2 o then none else o) :: gset2 l 0 v
  | o :: l, i + 2, v => o :: gset2 l (i + 1) v
theorem gset1_len : ∀ (l : GL) (i : Nat) (v : Value), (gset1 l i v).length = l.length
  | [], _, _ => by simp [gset1]
  | _ :: l, 0, v => by simp [gset1]
  | o :: l, 1, v => by simp [gset1, gset1_len l 0 v]
  | o :: l, i + 2, v => by simp [gset1, gset1_len l (i + 1) v]
theorem gset2_len : ∀ (l : GL) (i : Nat) (v : Value), (gset2 l i v).length = l.length
  | [], _, _ => by simp [gset2]
  | [_], 0, v => by simp [gset2]
  | _ :: _ :: l, 0, v => by simp [gset2]
  | o :: l, 1, v => by simp [gset2, gset2_len l 0 v]
  | o :: l, i + 2, v => by simp [gset2, gset2_len l (i + 1) v]
theorem gset1_get : ∀ (l : GL) (i : Nat) (v : Value) (j : Nat) (w : Value), (gset1 l i v)[j]? = some (some w) → (j = i ∧ w = v) ∨ (j ≠ i ∧ l[j]? = some (some w) ∧ (j + 1 = i → w.category ≠ 2))
  | [], _, _, j, w, h => by simp [gset1] at h
  | o :: l, 0, v, j, w, h => by
    cases j with
    | zero => simp [gset1] at h; exact Or.inl ⟨rfl, h.symm⟩
    | succ j => simp [gset1] at h; exact Or.inr ⟨by omega, by simpa using h, fun q => by omega⟩
  | o :: l, 1, v, j, w, h => by
    cases j with
    | zero =>
      simp only [gset1, List.getElem?_cons_zero, Option.some.injEq] at h
      split at h
      · cases h
      · rename_i h2
        subst h
        refine Or.inr ⟨by omega, by simp, fun _ q => ?_⟩
        apply h2
        simp [is2, q]
    | succ j =>
      simp only [gset1, List.getElem?_cons_succ] at h
      rcases gset1_get l 0 v j w h with ⟨h1, h2⟩ | ⟨h1, h2, h3⟩
      · exact Or.inl ⟨by omega, h2⟩
      · exact Or.inr ⟨by omega, by simpa using h2, fun q => h3 (by omega)⟩
  | o :: l, i + 2, v, j, w, h => by
    cases j with
    | zero => simp only [gset1, List.getElem?_cons_zero, Option.some.injEq] at h; exact Or.inr ⟨by omega, by simp [h], fun q => by omega⟩
    | succ j =>
      simp only [gset1, List.getElem?_cons_succ] at h
      rcases gset1_get l (i + 1) v j w h with ⟨h1, h2⟩ | ⟨h1, h2, h3⟩
      · exact Or.inl ⟨by omega, h2⟩
      · exact Or.inr ⟨by omega, by simpa using h2, fun q => h3 (by omega)⟩
theorem gset2_get : ∀ (l : GL) (i : Nat) (v : Value) (j : Nat) (w : Value), (gset2 l i v)[j]? = some (some w) → (j = i ∧ w = v) ∨ (j ≠ i ∧ j ≠ i + 1 ∧ l[j]? = some (some w) ∧ (j + 1 = i → w.category ≠ 2))
  | [], _, _, j, w, h => by simp [gset2] at h
  | [o], 0, v, j, w, h => by
    cases j with
    | zero => simp [gset2] at h; exact Or.inl ⟨rfl, h.symm⟩
    | succ j => simp [gset2] at h
  | o :: o2 :: l, 0, v, j, w, h => by
    cases j with
    | zero => simp [gset2] at h; exact Or.inl ⟨rfl, h.symm⟩
    | succ j =>
      cases j with
      | zero => simp [gset2] at h
      | succ j => simp [gset2] at h; exact Or.inr ⟨by omega, by omega, by simpa using h, fun q => by omega⟩
  | o :: l, 1, v, j, w, h => by
    cases j with
    | zero =>
      simp only [gset2, List.getElem?_cons_zero, Option.some.injEq] at h
      split at h
      · cases h
      · rename_i h2
        subst h
        refine Or.inr ⟨by omega, by omega, by simp, fun _ q => ?_⟩
        apply h2
        simp [is2, q]
    | succ j =>
      simp only [gset2, List.getElem?_cons_succ] at h
      rcases gset2_get l 0 v j w h with ⟨h1, h2⟩ | ⟨h1, h0, h2, h3⟩
      · exact Or.inl ⟨by omega, h2⟩
      · exact Or.inr ⟨by omega, by omega, by simpa using h2, fun q => h3 (by omega)⟩
  | o :: l, i + 2, v, j, w, h => by
    cases j with
    | zero => simp only [gset2, List.getElem?_cons_zero, Option.some.injEq] at h; exact Or.inr ⟨by omega, by omega, by simp [h], fun q => by omega⟩
    | succ j =>
      simp only [gset2, List.getElem?_cons_succ] at h
      rcases gset2_get l (i + 1) v j w h with ⟨h1, h2⟩ | ⟨h1, h0, h2, h3⟩
      · exact Or.inl ⟨by omega, h2⟩
      · exact Or.inr ⟨by omega, by omega, by simpa using h2, fun q => h3 (by omega)⟩
/-- the machine's locals hold the ghost's -/
def LH (ls : Array Slot) (nL base b : Nat) (loc : GL) : Prop := loc.length = nL ∧ ls.size = nL ∧ lv_wf ls ∧ ∀ (i : Nat) (v : Value), loc[i]? = some (some v) → ls[i]? = some (.val (reV base b v))
def prs (base b : Nat) (loc : GL) : List (Nat × Value) := (List.range loc.length).filterMap (fun i => match loc[i]? with
  | some (some v) => some (i, reV base b v)
  | _ => none)
theorem prs_in {base b : Nat} {loc : GL} {i : Nat} {v : Value} (h : loc[i]? = some (some v)) : (i, reV base b v) ∈ prs base b loc := by
  refine List.mem_filterMap.mpr ⟨i, List.mem_range.mpr (List.getElem?_eq_some_iff.mp h).1, ?_⟩
  simp [h]
theorem prs_of {base b : Nat} {loc : GL} {q : Nat × Value} (h : q ∈ prs base b loc) : ∃ v, loc[q.1]? = some (some v) ∧ q.2 = reV base b v := by
  obtain ⟨i, -, hi⟩ := List.mem_filterMap.mp h
  split at hi
  · rename_i v hv
    cases hi
    exact ⟨v, hv, rfl⟩
  · cases hi
theorem LH.has {ls : Array Slot} {nL base b : Nat} {loc : GL} (h : LH ls nL base b loc) : lv_has ls nL (prs base b loc) := by
  refine ⟨h.2.1, h.2.2.1, fun q hq => ?_⟩
  obtain ⟨v, h1, h2⟩ := prs_of hq
  rw [h2]
  exact h.2.2.2 _ _ h1
theorem LH.of1 {ls : Array Slot} {nL base b i : Nat} {loc : GL} {v : Value} (hl : loc.length = nL) (h : lv_has ls nL ((i, reV base b v) :: (prs base b loc).filter (fun q => !(q.1 == i) && !(q.1 + 1 == i && q.2.category == 2)))) : LH ls nL base b (gset1 loc i v) := by
  refine ⟨(gset1_len _ _ _).trans hl, h.1, h.2.1, fun j w hw => ?_⟩
  rcases gset1_get loc i v j w hw with ⟨h1, h2⟩ | ⟨h1, h2, h3⟩
  · subst h1; subst h2
    exact h.2.2 _ List.mem_cons_self
  · refine h.2.2 (j, reV base b w) (List.mem_cons_of_mem _ (List.mem_filter.mpr ⟨prs_in h2, ?_⟩))
    simp only [reV_cat, Bool.and_eq_true, Bool.not_eq_true', beq_eq_false_iff_ne, ne_eq, Bool.and_eq_false_iff]
    refine ⟨h1, ?_⟩
    by_cases hj : j + 1 = i
    · exact Or.inr (h3 hj)
    · exact Or.inl hj
theorem LH.of2 {ls : Array Slot} {nL base b i : Nat} {loc : GL} {v : Value} (hl : loc.length = nL) (h : lv_has ls nL ((i, reV base b v) :: (prs base b loc).filter (fun q => !(q.1 == i) && (!(q.1 == i + 1) && !(q.1 + 1 == i && q.2.category == 2))))) : LH ls nL base b (gset2 loc i v) := by
  refine ⟨(gset2_len _ _ _).trans hl, h.1, h.2.1, fun j w hw => ?_⟩
  rcases gset2_get loc i v j w hw with ⟨h1, h2⟩ | ⟨h1, h0, h2, h3⟩
  · subst h1; subst h2
    exact h.2.2 _ List.mem_cons_self
  · refine h.2.2 (j, reV base b w) (List.mem_cons_of_mem _ (List.mem_filter.mpr ⟨prs_in h2, ?_⟩))
    simp only [reV_cat, Bool.and_eq_true, Bool.not_eq_true', beq_eq_false_iff_ne, ne_eq, Bool.and_eq_false_iff]
    refine ⟨h1, h0, ?_⟩
    by_cases hj : j + 1 = i
    · exact Or.inr (h3 hj)
    · exact Or.inl hj
/-- the locals at the entry -/
def gargs : List Value → GL
  | [] => []
  | v :: vs => some v :: (if v.category = 2 then none :: gargs vs else gargs vs)
def gent (nL : Nat) (vs : List Value) : GL := gargs vs ++ List.replicate (nL - (gargs vs).length) none
theorem gargs_len (base b : Nat) : ∀ vs : List Value, (lg_sl (vs.map (reV base b))).length = (gargs vs).length
  | [] => rfl
  | v :: vs => by
    have ih := gargs_len base b vs
    simp only [List.map_cons, lg_sl, List.flatMap_cons, List.length_append, gargs, List.length_cons, reV_cat] at ih ⊢
    split <;> simp only [List.length_cons, List.length_nil] <;> omega
theorem gargs_in (base b : Nat) : ∀ (vs : List Value) (k j : Nat) (w : Value), (gargs vs)[j]? = some (some w) → (k + j, reV base b w) ∈ lv_args k (vs.map (reV base b))
  | [], k, j, w, h => by simp [gargs] at h
  | v :: vs, k, j, w, h => by
    simp only [List.map_cons, lv_args, reV_cat]
    cases j with
    | zero =>
      simp only [gargs, List.getElem?_cons_zero, Option.some.injEq] at h
      subst h
      exact List.mem_cons_self
    | succ j =>
      simp only [gargs, List.getElem?_cons_succ] at h
      refine List.mem_cons_of_mem _ ?_
      split at h
      · rename_i hc
        rw [if_pos hc]
        cases j with
        | zero => simp at h
        | succ j =>
          rw [List.getElem?_cons_succ] at h
          have := gargs_in base b vs (k + 2) j w h
          rwa [show k + 2 + j = k + (j + 1 + 1) by omega] at this
      · rename_i hc
        rw [if_neg hc]
        have := gargs_in base b vs (k + 1) j w h
        rwa [show k + 1 + j = k + (j + 1) by omega] at this
theorem LH.entry (base b : Nat) {nL : Nat} {vs : List Value} (h : (gargs vs).length ≤ nL) : LH ((lg_sl (vs.map (reV base b)) ++ List.replicate (nL - (lg_sl (vs.map (reV base b))).length) Slot.unset).toArray) nL base b (gent nL vs) := by
  have hh := lv_entry (vs.map (reV base b)) (n := nL) (by rw [gargs_len]; exact h)
  refine ⟨by simp [gent]; omega, hh.1, hh.2.1, fun i v hv => ?_⟩
  refine hh.2.2 (i, reV base b v) ?_
  unfold gent at hv
  by_cases hi : i < (gargs vs).length
  · rw [List.getElem?_append_left hi] at hv
    have := gargs_in base b vs 0 i v hv
    rwa [Nat.zero_add] at this
  · rw [List.getElem?_append_right (by omega), List.getElem?_replicate] at hv
    split at hv <;> cases hv
/-- instructions that move values between locals and stack, and goto's like: the new locals, the new stack, how long -/
def gLoc (ins : Instr) (loc : GL) (stk : List Value) : Option (GL × List Value × Nat) := match ins with
  | .iload_n k => match loc[(k : Nat)]? with
    | some (some (.int x)) => some (loc, .int x :: stk, 1)
    | _ => none
  | .iload i => match loc[i]? with
    | some (some (.int x)) => some (loc, .int x :: stk, 2)
    | _ => none
  | .lload_n k => match loc[(k : Nat)]? with
    | some (some (.long x)) => some (loc, .long x :: stk, 1)
    | _ => none
  | .lload i => match loc[i]? with
    | some (some (.long x)) => some (loc, .long x :: stk, 2)
    | _ => none
  | .aload_n k => match loc[(k : Nat)]? with
    | some (some (.ref x)) => some (loc, .ref x :: stk, 1)
    | some (some (.retAddr x)) => some (loc, .retAddr x :: stk, 1)
    | _ => none
  | .aload i => match loc[i]? with
    | some (some (.ref x)) => some (loc, .ref x :: stk, 2)
    | _ => none
  | .istore_n k => match stk with
    | .int x :: st => if (k : Nat) < loc.length then some (gset1 loc k (.int x), st, 1) else none
    | _ => none
  | .istore i => match stk with
    | .int x :: st => if i < loc.length then some (gset1 loc i (.int x), st, 2) else none
    | _ => none
  | .lstore_n k => match stk with
    | .long x :: st => if (k : Nat) + 1 < loc.length then some (gset2 loc k (.long x), st, 1) else none
    | _ => none
  | .lstore i => match stk with
    | .long x :: st => if i + 1 < loc.length then some (gset2 loc i (.long x), st, 2) else none
    | _ => none
  | .astore_n k => match stk with
    | .ref x :: st => if (k : Nat) < loc.length then some (gset1 loc k (.ref x), st, 1) else none
    | _ => none
  | .astore i => match stk with
    | .ref x :: st => if i < loc.length then some (gset1 loc i (.ref x), st, 2) else none
    | _ => none
  | .iinc i n => match loc[i]? with
    | some (some (.int x)) => some (gset1 loc i (.int (x + iI n)), stk, 3)
    | _ => none
  | _ => none
section GLW
variable {p : Program} {l : Launch} {e : Env} {R : Room} {s : State} {m : MethodId} {args : Array Value} {below : List Frame} {meth : Method} {c : Code} {H : Heap} {locs : List Loc} {cells slots : Nat} {Q : State → Prop}
variable {cc : ByteArray} {pc : Nat} {ls : Array Slot}
set_option maxHeartbeats 4000000 in
theorem gLoc_W (hexec : p.tables.exec = Jvm.exec) (hb : c.code = cc) {ins : Instr} {loc loc' : GL} {stk stk' : List Value} {len nL base b : Nat} (hl : LH ls nL base b loc) (ha : gLoc ins loc stk = some (loc', stk', len)) (hdg : decode cc pc = .ok (ins, len))
    (k : ∀ ls', LH ls' nL base b loc' → W p l e R s m args below meth c H locs cells slots Q (F0 m (pc + len) ls' (stk'.map (reV base b)))) : W p l e R s m args below meth c H locs cells slots Q (F0 m pc ls (stk.map (reV base b))) := by
  have hlen := hl.1
  unfold gLoc at ha
  split at ha
  · split at ha
    · rename_i hx; cases ha; exact lv_iload_n hexec hb hdg rfl (hl.2.2.2 _ _ hx) (k _ hl)
    · cases ha
  · split at ha
    · rename_i hx; cases ha; exact lv_iload hexec hb hdg (hl.2.2.2 _ _ hx) (k _ hl)
    · cases ha
  · split at ha
    · rename_i hx; cases ha; exact lv_lload_n hexec hb hdg rfl (hl.2.2.2 _ _ hx) (k _ hl)
    · cases ha
  · split at ha
    · rename_i hx; cases ha; exact lv_lload hexec hb hdg (hl.2.2.2 _ _ hx) (k _ hl)
    · cases ha
  · split at ha
    · rename_i hx; cases ha; exact lv_aload_n hexec hb hdg rfl (hl.2.2.2 _ _ hx) (k _ hl)
    · rename_i hx; cases ha; exact lv_aload_n hexec hb hdg rfl (hl.2.2.2 _ _ hx) (k _ hl)
    · cases ha
  · split at ha
    · rename_i hx; cases ha; exact lv_aload hexec hb hdg (hl.2.2.2 _ _ hx) (k _ hl)
    · cases ha
  · split at ha
    · split at ha
      · rename_i hc; cases ha; exact lv_istore_n hexec hb hdg rfl hl.has (hlen ▸ hc) rfl (fun ls' h => k ls' (LH.of1 hl.1 (v := .int _) h))
      · cases ha
    · cases ha
  · split at ha
    · split at ha
      · rename_i hc; cases ha; exact lv_istore hexec hb hdg hl.has (hlen ▸ hc) rfl (fun ls' h => k ls' (LH.of1 hl.1 (v := .int _) h))
      · cases ha
    · cases ha
  · split at ha
    · split at ha
      · rename_i hc; cases ha; exact lv_lstore_n hexec hb hdg rfl hl.has (hlen ▸ hc) rfl (fun ls' h => k ls' (LH.of2 hl.1 (v := .long _) h))
      · cases ha
    · cases ha
  · split at ha
    · split at ha
      · rename_i hc; cases ha; exact lv_lstore hexec hb hdg hl.has (hlen ▸ hc) rfl (fun ls' h => k ls' (LH.of2 hl.1 (v := .long _) h))
      · cases ha
    · cases ha
  · split at ha
    · split at ha
      · rename_i hc; cases ha; exact lv_astore_n hexec hb hdg rfl hl.has (hlen ▸ hc) rfl (fun ls' h => k ls' (LH.of1 hl.1 (v := .ref _) h))
      · cases ha
    · cases ha
  · split at ha
    · split at ha
      · rename_i hc; cases ha; exact lv_astore hexec hb hdg hl.has (hlen ▸ hc) rfl (fun ls' h => k ls' (LH.of1 hl.1 (v := .ref _) h))
      · cases ha
    · cases ha
  · split at ha
    · rename_i x hx
      cases ha
      have hm := prs_in (base := base) (b := b) hx
      obtain ⟨kk, hkk⟩ := List.getElem?_of_mem hm
      exact lv_iinc hexec hb hdg hl.has hkk rfl (hlen ▸ (List.getElem?_eq_some_iff.mp hx).1) rfl (fun ls' h => k ls' (LH.of1 hl.1 (v := .int _) h))
    · cases ha
  · cases ha
end GLW
end
section
/-! The ghost machine: branches and switches: where to -/
def gCmp (cd : ClassFile.Cond) (x y : Int32) : Bool := match cd with
  | .eq => decide (x = y)
  | .ne => decide (¬ x = y)
  | .lt => decide (x < y)
  | .ge => decide (y ≤ x)
  | .gt => decide (y < x)
  | .le => decide (x ≤ y)
def gSw (ins : Instr) (x : Int32) : Option Int := match ins with
  | .tableswitch d lo hi offs => if x.toInt < lo ∨ hi < x.toInt then some d else offs[(x.toInt - lo).toNat]?
  | .lookupswitch d ps => if (ps.toList.zip (ps.toList.drop 1)).all (fun (a, next) => a.1 < next.1) = true then some (Op.lookupswitch.offset ps.toList d x.toInt) else none
  | _ => none
def gTo (pc : Nat) (off : Int) : Option Nat := if 0 ≤ (pc : Int) + off then some ((pc : Int) + off).toNat else none
/-- of a branch: the target, whether it is taken, the new stack -/
def gBr (ins : Instr) (pc : Nat) (stk : List Value) : Option (Nat × Bool × List Value) := match ins with
  | .ifCond cd off => match stk with
    | .int x :: st => (gTo pc off).map (fun t => (t, gCmp cd x 0, st))
    | _ => none
  | .if_icmp cd off => match stk with
    | .int y :: .int x :: st => (gTo pc off).map (fun t => (t, gCmp cd x y, st))
    | _ => none
  | .goto off => (gTo pc off).map (fun t => (t, true, stk))
  | ins => match stk with
    | .int x :: st => match gSw ins x with
      | some off => (gTo pc off).map (fun t => (t, true, st))
      | none => none
    | _ => none
theorem gTo_eq {pc t : Nat} {off : Int} (h : gTo pc off = some t) : (pc : Int) + off = (t : Int) := by
  unfold gTo at h
  split at h
  · cases h; omega
  · cases h
theorem gTo_map {pc t : Nat} {off : Int} {b b' : Bool} {st st' : List Value} (h : (gTo pc off).map (fun t => (t, b, st)) = some (t, b', st')) : (pc : Int) + off = (t : Int) ∧ b = b' ∧ st = st' := by
  cases ht : gTo pc off with
  | none => rw [ht] at h; cases h
  | some t' => rw [ht] at h; cases h; exact ⟨gTo_eq ht, rfl, rfl⟩
section GBW
variable {p : Program} {l : Launch} {e : Env} {R : Room} {s : State} {m : MethodId} {args : Array Value} {below : List Frame} {meth : Method} {c : Code} {H : Heap} {locs : List Loc} {cells slots : Nat} {Q : State → Prop}
variable {cc : ByteArray} {pc : Nat} {ls : Array Slot}
/-- switches and goto leave no way behind themselves -/
def gThree (ins : Instr) (len : Nat) : Bool := match ins with
  | .tableswitch .. => true
  | .lookupswitch .. => true
  | _ => len == 3
set_option maxHeartbeats 4000000 in
theorem gBr_W (hexec : p.tables.exec = Jvm.exec) (hb : c.code = cc) {ins : Instr} {stk stk' : List Value} {len t base b : Nat} {tk : Bool} (ha : gBr ins pc stk = some (t, tk, stk')) (hlen : gThree ins len = true) (hdg : decode cc pc = .ok (ins, len))
    (k : W p l e R s m args below meth c H locs cells slots Q (F0 m (if tk = true then t else pc + 3) ls (stk'.map (reV base b)))) : W p l e R s m args below meth c H locs cells slots Q (F0 m pc ls (stk.map (reV base b))) := by
  unfold gBr at ha
  split at ha
  · rename_i cd off
    simp only [gThree, beq_iff_eq] at hlen
    subst hlen
    split at ha
    · obtain ⟨h1, h2, rfl⟩ := gTo_map ha
      subst h2
      cases cd <;> simp only [gCmp, decide_eq_true_eq] at k
      · exact lv_if_eq hexec hb hdg h1 (fun q => by rwa [if_pos q] at k) (fun q => by rwa [if_neg q] at k)
      · exact lv_if_ne hexec hb hdg h1 (fun q => by rwa [if_pos q] at k) (fun q => by rwa [if_neg (fun z => z q)] at k)
      · exact lv_if_lt hexec hb hdg h1 (fun q => by rwa [if_pos q] at k) (fun q => by rwa [if_neg q] at k)
      · exact lv_if_ge hexec hb hdg h1 (fun q => by rwa [if_pos q] at k) (fun q => by rwa [if_neg q] at k)
      · exact lv_if_gt hexec hb hdg h1 (fun q => by rwa [if_pos q] at k) (fun q => by rwa [if_neg q] at k)
      · exact lv_if_le hexec hb hdg h1 (fun q => by rwa [if_pos q] at k) (fun q => by rwa [if_neg q] at k)
    · cases ha
  · rename_i cd off
    simp only [gThree, beq_iff_eq] at hlen
    subst hlen
    split at ha
    · obtain ⟨h1, h2, rfl⟩ := gTo_map ha
      subst h2
      cases cd <;> simp only [gCmp, decide_eq_true_eq] at k
      · exact lv_icmp_eq hexec hb hdg h1 (fun q => by rwa [if_pos q] at k) (fun q => by rwa [if_neg q] at k)
      · exact lv_icmp_ne hexec hb hdg h1 (fun q => by rwa [if_pos q] at k) (fun q => by rwa [if_neg (fun z => z q)] at k)
      · exact lv_icmp_lt hexec hb hdg h1 (fun q => by rwa [if_pos q] at k) (fun q => by rwa [if_neg q] at k)
      · exact lv_icmp_ge hexec hb hdg h1 (fun q => by rwa [if_pos q] at k) (fun q => by rwa [if_neg q] at k)
      · exact lv_icmp_gt hexec hb hdg h1 (fun q => by rwa [if_pos q] at k) (fun q => by rwa [if_neg q] at k)
      · exact lv_icmp_le hexec hb hdg h1 (fun q => by rwa [if_pos q] at k) (fun q => by rwa [if_neg q] at k)
    · cases ha
  · simp only [gThree, beq_iff_eq] at hlen
    subst hlen
    obtain ⟨h1, rfl, rfl⟩ := gTo_map ha
    exact lv_goto hexec hb hdg h1 k
  · split at ha
    · rename_i x st
      split at ha
      · rename_i off ho
        obtain ⟨h1, rfl, rfl⟩ := gTo_map ha
        simp only [if_true] at k
        unfold gSw at ho
        split at ho
        · split at ho
          · rename_i hc; cases ho; exact lv_tableOut hexec hb hdg hc h1 k
          · rename_i hc; exact lv_tableIn hexec hb hdg (fun q => hc (Or.inl q)) (fun q => hc (Or.inr q)) ho h1 k
        · split at ho
          · rename_i hc; cases ho; exact lv_lookup hexec hb hdg hc rfl h1 k
          · cases ho
        · cases ho
      · cases ha
    · cases ha
end GBW
end
section
/-! The ghost machine: its heap -/
abbrev GC : Type := (Nat × List Value) ⊕ (Nat × List Value)
abbrev GH : Type := List GC
def ival (v : Value) : Int32 := match v with
  | .int x => x
  | _ => 0
def orf (base : Nat) (v : Value) : Option Nat := match v with
  | .ref a => some (base + a)
  | _ => none
/-- an array of kind kd: 0 ints, 1 booleans, 2 towers, 3 rows of ints -/
def reA (base kd : Nat) (vs : List Value) : vp_A := (vs.length, if kd ≤ 1 then .inl (fun j => ival (vs.getD j .null)) else .inr (.inr (.inr (.inr (fun j => orf base (vs.getD j .null))))))
def reC (base b : Nat) (dA : Nat → ClassId) (c : GC) : va_E := match c with
  | .inl (kd, vs) => .inl (dA kd, reA base kd vs)
  | .inr (ci, fs) => .inr (ci, fs.map (reV base b))
def wsO (base b : Nat) (dA : Nat → ClassId) (hp : GH) : va_W := hp.mapIdx (fun i c => (base + i, reC base b dA c))
theorem wsO_get {base b : Nat} {dA : Nat → ClassId} {hp : GH} {i : Nat} {c : GC} (h : hp[i]? = some c) : (wsO base b dA hp)[i]? = some (base + i, reC base b dA c) := by
  simp [wsO, List.getElem?_mapIdx, h]
theorem wsO_inv {base b : Nat} {dA : Nat → ClassId} {hp : GH} {i : Nat} {q : Nat × va_E} (h : (wsO base b dA hp)[i]? = some q) : i < hp.length ∧ q.1 = base + i := by
  rw [wsO, List.getElem?_mapIdx] at h
  cases hc : hp[i]? with
  | none => rw [hc] at h; cases h
  | some c => rw [hc] at h; cases h; exact ⟨(List.getElem?_eq_some_iff.mp hc).1, rfl⟩
theorem wsO_set {base b : Nat} {dA : Nat → ClassId} {hp : GH} {i : Nat} {c : GC} : (wsO base b dA hp).set i (base + i, reC base b dA c) = wsO base b dA (hp.set i c) := by
  apply List.ext_getElem?
  intro j
  simp only [wsO, List.getElem?_set, List.getElem?_mapIdx, List.length_mapIdx]
  by_cases hj : i = j
  · subst hj
    by_cases hl : i < hp.length
    · simp [hl]
    · simp [hl]
  · simp [hj]
theorem wsO_app {base b : Nat} {dA : Nat → ClassId} {hp : GH} {c : GC} : wsO base b dA hp ++ [(base + hp.length, reC base b dA c)] = wsO base b dA (hp ++ [c]) := by
  simp [wsO, List.mapIdx_append]
theorem wsO_D {base b : Nat} {dA : Nat → ClassId} {hp : GH} : va_D (fun q => base ≤ q) (wsO base b dA hp) := by
  refine ⟨fun i j p q hi hj hpq => ?_, fun k q hk => ?_⟩
  · have h1 := (wsO_inv hi).2
    have h2 := (wsO_inv hj).2
    omega
  · have h1 := (wsO_inv hk).2
    show base ≤ q.1
    omega
def tysO (dA : Nat → ClassId) : List (ClassId × FieldType) := [(dA 0, .int), (dA 1, .boolean), (dA 2, .object "OvensAbove$Tower"), (dA 3, .array .int)]
/-- the heap holds the ghost's cells, and nothing behind them -/
def Sm (base b : Nat) (D : va_G) (dA : Nat → ClassId) (hp : GH) (H : Heap) : Prop := H.size = base + hp.length ∧ va_P D vwCl (wsO base b dA hp) H
def ix (i : Int32) (n : Nat) : Option Nat := if 0 ≤ i.toInt ∧ i.toInt < (n : Int) then some i.toInt.toNat else none
theorem ix_in {i : Int32} {n j : Nat} (h : ix i n = some j) : vp_in i n ∧ i.toNatClampNeg = j ∧ j < n := by
  unfold ix at h
  split at h
  · rename_i hc
    cases h
    exact ⟨vp_in_iff.mpr hc, rfl, by omega⟩
  · cases h
/-- may a field of this type hold this value -/
def fty (ty : FieldType) (v : Value) : Bool := match ty, v with
  | .int, .int _ => true
  | .object _, .ref _ => true
  | .array _, .ref _ => true
  | _, _ => false
theorem fty_ok {ty : FieldType} {v : Value} (base b : Nat) (h : fty ty v = true) : narrow ty (reV base b v) = reV base b v ∧ fits ty (reV base b v) = true := by
  unfold fty at h
  split at h
  · exact ⟨rfl, rfl⟩
  · exact ⟨rfl, rfl⟩
  · exact ⟨rfl, rfl⟩
  · cases h
def fin (ci k : Nat) : Bool := match vwCl[ci]? with
  | some (_, T, _) => (T k).2.2.2
  | none => false
def dfl (ci : Nat) : List Value := match vwCl[ci]? with
  | some (_, _, N) => (List.range N).map (fun k => defaultValue (tyC ci k))
  | none => []
def cpyL (vs ws : List Value) (sp dp n : Nat) : List Value := (List.range ws.length).map (fun k => if dp ≤ k ∧ k < dp + n then vs.getD (sp + (k - dp)) .null else ws.getD k .null)
/-- instructions over the heap: the new heap, the new stack, how long, cells and slots made -/
def gHp (xs : Option (List Int32)) (cn : Nat) (ini : Bool) (ins : Instr) (hp : GH) (stk : List Value) : Option (GH × List Value × Nat × Nat × Nat) := match ins with
  | .getfield idx => match stk with
    | .ref a :: st => match hp[a]?, fT cn idx with
      | some (.inr (ci, fs)), some (ci', k) => if ci = ci' then (match fs[k]? with
        | some v => some (hp, v :: st, 3, 0, 0)
        | none => none) else none
      | _, _ => none
    | _ => none
  | .putfield idx => match stk with
    | v :: .ref a :: st => match hp[a]?, fT cn idx with
      | some (.inr (ci, fs)), some (ci', k) => if ci = ci' ∧ k < fs.length ∧ fty (tyC ci k) v = true ∧ (fin ci k = true → ini = true ∧ cn = ci) then some (hp.set a (.inr (ci, fs.set k v)), st, 3, 0, 0) else none
      | _, _ => none
    | _ => none
  | .iaload => match stk with
    | .int i :: .ref a :: st => match hp[a]? with
      | some (.inl (0, vs)) => match ix i vs.length with
        | some j => match vs[j]? with
          | some (.int x) => some (hp, .int x :: st, 1, 0, 0)
          | _ => none
        | none => none
      | _ => none
    | .int i :: .retAddr _ :: st => match xs with
      | some l => match ix i l.length with
        | some j => some (hp, .int (l.getD j 0) :: st, 1, 0, 0)
        | none => none
      | none => none
    | _ => none
  | .baload => match stk with
    | .int i :: .ref a :: st => match hp[a]? with
      | some (.inl (1, vs)) => match ix i vs.length with
        | some j => match vs[j]? with
          | some (.int x) => some (hp, .int x :: st, 1, 0, 0)
          | _ => none
        | none => none
      | _ => none
    | _ => none
  | .aaload => match stk with
    | .int i :: .ref a :: st => match hp[a]? with
      | some (.inl (kd, vs)) => if kd = 2 ∨ kd = 3 then (match ix i vs.length with
        | some j => match vs[j]? with
          | some (.ref x) => some (hp, .ref x :: st, 1, 0, 0)
          | _ => none
        | none => none) else none
      | _ => none
    | _ => none
  | .iastore => match stk with
    | .int x :: .int i :: .ref a :: st => match hp[a]? with
      | some (.inl (0, vs)) => match ix i vs.length with
        | some j => some (hp.set a (.inl (0, vs.set j (.int x))), st, 1, 0, 0)
        | none => none
      | _ => none
    | _ => none
  | .bastore => match stk with
    | .int x :: .int i :: .ref a :: st => match hp[a]? with
      | some (.inl (1, vs)) => match ix i vs.length with
        | some j => if x = 0 ∨ x = 1 then some (hp.set a (.inl (1, vs.set j (.int x))), st, 1, 0, 0) else none
        | none => none
      | _ => none
    | _ => none
  | .aastore => match stk with
    | .ref r :: .int i :: .ref a :: st => match hp[a]?, hp[r]? with
      | some (.inl (2, vs)), some (.inr (9, _)) => match ix i vs.length with
        | some j => some (hp.set a (.inl (2, vs.set j (.ref r))), st, 1, 0, 0)
        | none => none
      | _, _ => none
    | _ => none
  | .arraylength => match stk with
    | .retAddr _ :: st => match xs with
      | some l => some (hp, .int (Int32.ofNat l.length) :: st, 1, 0, 0)
      | none => none
    | _ => none
  | .new idx => match cT cn idx with
    | some ci => some (hp ++ [.inr (ci, dfl ci)], .ref hp.length :: stk, 3, 1, (dfl ci).length)
    | none => none
  | .newarray ty => match stk with
    | .int n :: st => match ix n 100000, ty with
      | some k, .int => some (hp ++ [.inl (0, List.replicate k (.int 0))], .ref hp.length :: st, 2, 1, k)
      | some k, .boolean => some (hp ++ [.inl (1, List.replicate k (.int 0))], .ref hp.length :: st, 2, 1, k)
      | _, _ => none
    | _ => none
  | .anewarray idx => match stk with
    | .int n :: st => match ix n 100000 with
      | some k => if aT cn idx = true then some (hp ++ [.inl (2, List.replicate k .null)], .ref hp.length :: st, 3, 1, k) else none
      | none => none
    | _ => none
  | .multianewarray idx 2 => match stk with
    | .int k :: .int n :: st => if cn = 5 ∧ idx = 18 ∧ n = 5 ∧ k = 6 then some (hp ++ [.inl (3, (List.range 5).map (fun i => .ref (hp.length + 1 + i)))] ++ List.replicate 5 (.inl (0, List.replicate 6 (.int 0))), .ref hp.length :: st, 4, 6, 35) else none
    | _ => none
  | .ldc2_w idx => match lT cn idx with
    | some v => some (hp, .long v :: stk, 3, 0, 0)
    | none => none
  | .ldc_w idx => match iT cn idx with
    | some v => some (hp, .int v :: stk, 3, 0, 0)
    | none => none
  | .invokestatic idx => if bT cn idx = true then (match stk with
      | .int x :: st => if (st.map fun v => v.category).sum ≤ 8 then some (hp, .int (if 0 ≤ x then x else 0 - x) :: st, 3, 0, 0) else none
      | _ => none)
    else if pT cn idx = true then (match stk with
      | .int n :: .int dp :: .ref a :: .int sp :: .ref a0 :: st => match hp[a0]?, hp[a]? with
        | some (.inl (0, vs)), some (.inl (0, ws)) => if 0 ≤ sp.toInt ∧ 0 ≤ dp.toInt ∧ 0 ≤ n.toInt ∧ sp.toInt + n.toInt ≤ (vs.length : Int) ∧ dp.toInt + n.toInt ≤ (ws.length : Int) ∧ (st.map fun v => v.category).sum ≤ 8 then some (hp.set a (.inl (0, cpyL vs ws sp.toInt.toNat dp.toInt.toNat n.toInt.toNat)), st, 3, 0, 0) else none
        | _, _ => none
      | _ => none)
    else none
  | .invokespecial idx => if oT cn idx = true then (match stk with
      | .ref a :: st => if (st.map fun v => v.category).sum ≤ 8 then some (hp, st, 3, 0, 0) else none
      | _ => none) else none
  | _ => none
end
section
/-! new int[5][6] and its like, over the model itself: the outer array first, then each row, stored at once -/
def mmO (cA : ClassId) (N h i : Nat) : Cell := arrV cA N (fun j => if j < i then .ref (h + 1 + j) else .null)
def mmI (cI : ClassId) (M : Nat) : Cell := arrV cI M (fun _ => .int 0)
/-- the state with i rows made -/
def mmS (T : State) (cA cI : ClassId) (N M : Nat) : Nat → State
  | 0 => T.pushCell (mmO cA N T.heap.size 0)
  | i + 1 => ((mmS T cA cI N M i).pushCell (mmI cI M)).setCell T.heap.size (mmO cA N T.heap.size (i + 1))
theorem mmO_set (cA : ClassId) (N h i : Nat) : (mmO cA N h i).setSlot i (.ref (h + 1 + i)) = mmO cA N h (i + 1) := by
  unfold mmO
  rw [arrV_store]
  refine congrArg (arrV cA N) (funext fun j => ?_)
  unfold updV
  by_cases hj : j = i
  · subst hj; simp
  · by_cases h2 : j < i
    · simp [hj, h2, show j < i + 1 by omega]
    · simp [hj, h2, show ¬ j < i + 1 by omega]
theorem mmS_facts (T : State) (cA cI : ClassId) (N M : Nat) : ∀ i, (mmS T cA cI N M i).heap.size = T.heap.size + 1 + i ∧ (mmS T cA cI N M i).heap[T.heap.size]? = some (mmO cA N T.heap.size i) ∧ (mmS T cA cI N M i).vm = T.vm ∧ (mmS T cA cI N M i).slotsUsed = T.slotsUsed + N + i * M ∧
    (∀ a : Nat, a < T.heap.size → (mmS T cA cI N M i).heap[a]? = T.heap[a]?) ∧ ∀ j, j < i → (mmS T cA cI N M i).heap[T.heap.size + 1 + j]? = some (mmI cI M)
  | 0 => ⟨by simp [mmS], by simp [mmS], rfl, by simp [mmS, mmO, arrV_size], fun a ha => State.heap_pushCell_of_lt _ _ ha, fun j hj => by omega⟩
  | i + 1 => by
    obtain ⟨h1, h2, h3, h4, h5, h6⟩ := mmS_facts T cA cI N M i
    have hlt : T.heap.size < (mmS T cA cI N M i).heap.size := by omega
    have hb : ((mmS T cA cI N M i).pushCell (mmI cI M)).heap[T.heap.size]? = some (mmO cA N T.heap.size i) := by rw [State.heap_pushCell_of_lt (h := hlt)]; exact h2
    refine ⟨?_, State.heap_setCell_self hb, by simp [mmS, h3], ?_, fun a ha => ?_, fun j hj => ?_⟩
    · simp [mmS, State.setCell, h1]; omega
    · simp [mmS, h4, mmI, arrV_size, Nat.succ_mul]; omega
    · show (((mmS T cA cI N M i).pushCell (mmI cI M)).setCell T.heap.size _).heap[a]? = _
      rw [State.heap_setCell_other (Nat.ne_of_gt ha), State.heap_pushCell_of_lt (h := Nat.lt_trans ha hlt)]
      exact h5 a ha
    · show (((mmS T cA cI N M i).pushCell (mmI cI M)).setCell T.heap.size _).heap[T.heap.size + 1 + j]? = _
      rw [State.heap_setCell_other (show T.heap.size ≠ T.heap.size + 1 + j by omega)]
      by_cases hj2 : j < i
      · rw [State.heap_pushCell_of_lt (h := (show T.heap.size + 1 + j < (mmS T cA cI N M i).heap.size by omega))]
        exact h6 j hj2
      · rw [show T.heap.size + 1 + j = (mmS T cA cI N M i).heap.size by omega]
        exact State.heap_pushCell_size _ _
theorem mmS_top (T : State) (f : JFrame) (cA cI : ClassId) (N M : Nat) : ∀ i, mmS (T.setTop f) cA cI N M i = (mmS T cA cI N M i).setTop f
  | 0 => rfl
  | i + 1 => by simp only [mmS, mmS_top T f cA cI N M i, State.heap_setTop, State.pushCell_setTop, State.setCell_setTop]
section MMW
variable {E : CtlPost} {e : Env} {d : Bool} {acts : List Action} {s : State}
theorem mm_new {c comp : ClassId} {k : Class} {type : FieldType} {len : Nat} {init : Value} (hk : s.vm.classes[c]? = some k) (hkind : k.kind = .array comp type)
    (h1 : ¬ len > e.platform.arrayLengthLimit) (h2 : ¬ len * componentBytes type > e.platform.maxHeapBytes) (hfit : fits type init = true) (hdef : init.isDefault = true) {Q : Addr → Pre}
    (h3 : s.heap.size < e.platform.maxCells) (h4 : s.slotsUsed + len ≤ e.platform.maxSlots) (hq : Q s.heap.size d acts (s.pushCell (arrV c len (fun _ => init)))) : wp (Jvm.newArray c len init) Q E e d acts s := by
  rw [← arrV_new] at hq
  have hfits : ∀ i v, (Array.replicate len init)[i]? = some v → s.fitsSlot c .none i v = true := by
    intro i v hv
    rw [Array.getElem?_replicate] at hv
    split at hv
    · cases hv; simp [State.fitsSlot, State.slotType?, hk, hkind, hfit]
    · cases hv
  have hda : allocActs (Array.replicate len init) s.heap.size acts = acts := by
    unfold allocActs
    rw [if_pos (by rw [Array.all_replicate]; split <;> simp [hdef])]
  simp only [Jvm.newArray, Jvm.arrayFits, wp_bind', W.ask, W.ite, h1, if_false, wp_pure', W.theClass, hk, hkind, h2, W.alloc, W.stop, Option.some.injEq, exists_eq_left', Array.size_replicate, hda]
  rw [if_neg (by omega)]
  exact ⟨h3, h4, hfits, hq⟩
theorem mm_row {c comp : ClassId} {k : Class} {n : Int32} (hk : s.vm.classes[c]? = some k) (hkind : k.kind = .array comp .int) (hn : ¬ n < 0) (h1 : ¬ n.toNatClampNeg > e.platform.arrayLengthLimit) (h2 : ¬ n.toNatClampNeg * componentBytes .int > e.platform.maxHeapBytes)
    (h3 : s.heap.size < e.platform.maxCells) (h4 : s.slotsUsed + n.toNatClampNeg ≤ e.platform.maxSlots) {Q : Addr → Pre} (hq : Q s.heap.size d acts (s.pushCell (mmI c n.toNatClampNeg))) : wp (multianewarray.make c [n]) Q E e d acts s := by
  rw [multianewarray.make]
  simp only [wp_bind', W.ite, hn, if_false, wp_pure', W.theClass, hk, hkind, Option.some.injEq, exists_eq_left']
  exact mm_new hk hkind h1 h2 rfl rfl h3 h4 hq
theorem mm_all {c cI cc : ClassId} {k kI : Class} {n j : Int32} {N M : Nat} (hk : s.vm.classes[c]? = some k) (hkind : k.kind = .array cI (.array .int)) (hkI : s.vm.classes[cI]? = some kI) (hkindI : kI.kind = .array cc .int) (hn : ¬ n < 0) (hj : ¬ j < 0) (hN : n.toNatClampNeg = N) (hM : j.toNatClampNeg = M)
    (h1 : ¬ N > e.platform.arrayLengthLimit) (h2 : ¬ N * componentBytes (.array .int) > e.platform.maxHeapBytes) (h3 : ¬ M > e.platform.arrayLengthLimit) (h4 : ¬ M * componentBytes .int > e.platform.maxHeapBytes)
    (h5 : s.heap.size + 1 + N ≤ e.platform.maxCells) (h6 : s.slotsUsed + N + N * M ≤ e.platform.maxSlots) {Q : Addr → Pre} (hq : ∀ d' acts', Q s.heap.size d' acts' (mmS s c cI N M N)) : wp (multianewarray.make c [n, j]) Q E e d acts s := by
  subst hN hM
  rw [multianewarray.make]
  simp only [wp_bind', W.ite, hn, if_false, wp_pure', W.theClass, hk, hkind, Option.some.injEq, exists_eq_left']
  refine mm_new hk hkind h1 h2 rfl rfl (by omega) (by omega) ?_
  simp only [show ([j].find? (· < 0)) = none by simp [hj]]
  rw [ite_self, wp_bind', Std.Legacy.Range.forIn_eq_forIn_range', show ([:n.toNatClampNeg] : Std.Legacy.Range).size = n.toNatClampNeg by simp [Std.Legacy.Range.size]]
  show wp (forIn (List.range' 0 n.toNatClampNeg 1) PUnit.unit _) _ E e d acts _
  have hstart : s.pushCell (arrV c n.toNatClampNeg (fun _ => .null)) = mmS s c cI n.toNatClampNeg j.toNatClampNeg 0 := by
    show _ = s.pushCell (mmO c n.toNatClampNeg s.heap.size 0)
    unfold mmO
    simp
  rw [hstart]
  refine wp_forIn_inv (fun rest s' => ∃ i, i ≤ n.toNatClampNeg ∧ rest = List.range' i (n.toNatClampNeg - i) ∧ s' = mmS s c cI n.toNatClampNeg j.toNatClampNeg i) _ _ ⟨0, Nat.zero_le _, rfl, rfl⟩ ?_ ?_
  · rintro x rest s' d' acts' Q' ⟨i, hi, hl, rfl⟩ hnext
    have hlt : i < n.toNatClampNeg := by
      refine Nat.lt_of_not_le fun h => ?_
      rw [show n.toNatClampNeg - i = 0 by omega] at hl
      simp at hl
    rw [show n.toNatClampNeg - i = (n.toNatClampNeg - (i + 1)) + 1 by omega, List.range'_succ] at hl
    obtain ⟨rfl, rfl⟩ := List.cons.inj hl
    obtain ⟨f1, f2, f3, f4, -, -⟩ := mmS_facts s c cI n.toNatClampNeg j.toNatClampNeg x
    have hmul : x * j.toNatClampNeg + j.toNatClampNeg ≤ n.toNatClampNeg * j.toNatClampNeg := by
      have := Nat.mul_le_mul_right j.toNatClampNeg (show x + 1 ≤ n.toNatClampNeg from hlt)
      rwa [Nat.succ_mul] at this
    simp only [wp_bind']
    refine mm_row (by rw [f3]; exact hkI) hkindI hj h3 h4 (by rw [f1]; omega) (by rw [f4]; omega) ?_
    have hlt0 : s.heap.size < (mmS s c cI n.toNatClampNeg j.toNatClampNeg x).heap.size := by rw [f1]; omega
    simp only [wp_bind', W.writeLoc, wp_pure']
    refine ⟨mmO c n.toNatClampNeg s.heap.size x, by rw [State.heap_pushCell_of_lt (h := hlt0)]; exact f2, by unfold mmO arrV; simp, by unfold mmO; rw [arrV_size]; exact hlt, ?_, hnext _ _ _ ⟨x + 1, hlt, rfl, ?_⟩⟩
    · unfold mmO arrV
      simp [State.fitsSlot, State.slotType?, f3, hk, hkind, fits]
    · rw [f1, mmO_set]; rfl
  · rintro s' d' acts' ⟨i, hi, hl, rfl⟩
    have hiN : i = n.toNatClampNeg := by
      refine Nat.le_antisymm hi (Nat.le_of_not_lt fun h => ?_)
      rw [show n.toNatClampNeg - i = (n.toNatClampNeg - (i + 1)) + 1 by omega, List.range'_succ] at hl
      cases hl
    subst hiN
    simp only [wp_pure']
    exact hq _ _
end MMW
section MMR
variable {p : Program} {l : Launch} {e : Env} {R : Room} {s : State} {m : MethodId} {args : Array Value} {below : List Frame} {meth : Method} {c : Code} {H : Heap} {locs : List Loc} {cells slots : Nat} {Q : State → Prop}
theorem mm_stand {T : State} (X : Stand p l e R s m args below meth c T locs cells slots) (cA cI : ClassId) (N M : Nat) : ∀ i, Stand p l e R s m args below meth c (mmS T cA cI N M i) (locs ++ (List.range i).map fun j => ⟨T.heap.size, j⟩) (cells + 1 + i) (slots + N + i * M)
  | 0 => by
    have h := X.pushed (mmO cA N T.heap.size 0)
    rw [show (mmO cA N T.heap.size 0).slots.size = N by unfold mmO; rw [arrV_size]] at h
    simpa [mmS] using h
  | i + 1 => by
    have Xi := mm_stand X cA cI N M i
    obtain ⟨f1, f2, -⟩ := mmS_facts T cA cI N M i
    have hlt0 : T.heap.size < (mmS T cA cI N M i).heap.size := by rw [f1]; omega
    have hcell : ((mmS T cA cI N M i).pushCell (mmI cI M)).heap[T.heap.size]? = some (mmO cA N T.heap.size i) := by rw [State.heap_pushCell_of_lt (h := hlt0)]; exact f2
    have h := (Xi.pushed (mmI cI M)).stored hcell i (.ref (T.heap.size + 1 + i))
    rw [show (mmI cI M).slots.size = M by unfold mmI; rw [arrV_size], mmO_set] at h
    rw [show (locs ++ (List.range (i + 1)).map fun j => (⟨T.heap.size, j⟩ : Loc)) = (locs ++ (List.range i).map fun j => (⟨T.heap.size, j⟩ : Loc)) ++ [⟨T.heap.size, i⟩] by simp [List.range_succ, List.append_assoc], show slots + N + (i + 1) * M = slots + N + i * M + M by rw [Nat.succ_mul]; omega]
    exact h
/-- the row: five rows of six ints -/
theorem W.mm {cc : ByteArray} {pc : Nat} {ls : Array Slot} {rest : List Value} (hexec : p.tables.exec = Jvm.exec) (hb : c.code = cc) {own : String} {index : Nat} (hown : s.vm.findClass own = some m.cls) (hclink : (Cond.classLink own index ("[" ++ (FieldType.array .int).toString)).before args s = true)
    {cA cI cc0 : ClassId} {kA kI : Class} (hfA : s.vm.findClass ("[" ++ (FieldType.array .int).toString) = some cA) (hkA : s.vm.classes[cA]? = some kA) (hkindA : kA.kind = .array cI (.array .int)) (hkI : s.vm.classes[cI]? = some kI) (hkindI : kI.kind = .array cc0 .int)
    (hdg : decode cc pc = .ok (.multianewarray index 2, 4)) (hcells : cells + 6 ≤ R.cells) (hslots : slots + 35 ≤ R.slots)
    (kk : ∀ H' : Heap, H'.size = H.size + 6 → H'[H.size]? = some (mmO cA 5 H.size 5) → (∀ a : Nat, a < H.size → H'[a]? = H[a]?) → (∀ j, j < 5 → H'[H.size + 1 + j]? = some (mmI cI 6)) →
      W p l e R s m args below meth c H' (locs ++ (List.range 5).map fun j => ⟨H.size, j⟩) (cells + 6) (slots + 35) Q (F0 m (pc + 4) ls (.ref H.size :: rest))) : W p l e R s m args below meth c H locs cells slots Q (F0 m pc ls (.int 6 :: .int 5 :: rest)) := by
  intro T hT X
  subst hb
  have hpl : e.platform.magicAccessors = ({} : Platform).magicAccessors := by rw [X.admits.platform]
  obtain ⟨c0, hfc0, hcl⟩ := Cond.classLink_spec hown hclink e.platform hpl
  cases hfA.symm.trans hfc0
  obtain ⟨hg₁, hwarm₁, -⟩ := State.classEntry (e := e) X.warmed hcl
  generalize T.vm.noted m.cls index (.cls cA) = vm₁ at hg₁ hwarm₁
  obtain ⟨kA₁, hkA₁, heA⟩ := hwarm₁.alike.2.2 _ _ hkA
  obtain ⟨kI₁, hkI₁, heI⟩ := hwarm₁.alike.2.2 _ _ hkI
  have X₁ := X.noted hwarm₁
  obtain ⟨hr1, hr2⟩ := X.roomAbove hcells hslots
  have XF := mm_stand X₁ cA cI 5 6 5
  have hTh : (T.setVm vm₁).heap = H := hT
  obtain ⟨f1, f2, -, -, f5, f6⟩ := mmS_facts (T.setVm vm₁) cA cI 5 6 5
  rw [hTh] at f1 f2 f5 f6 XF
  obtain ⟨t, a1, b1⟩ := kk (mmS (T.setVm vm₁) cA cI 5 6 5).heap (by rw [f1]) f2 f5 f6 _ rfl XF
  refine ⟨t, ?_, b1⟩
  have hl : e.platform.arrayLengthLimit = _ := Launch.admits_arrayLengthLimit X.admits
  have hh : e.platform.maxHeapBytes = _ := Launch.admits_maxHeapBytes X.admits
  jvm_step X.here [hdg, hexec]
  simp only [multianewarray.sem, wp_bind', W.resolveClassAt_links (State.method?_setTop (F0 m pc ls (.int 6 :: .int 5 :: rest)) X.here.top) hg₁]
  rw [W.popN, if_neg (by decide)]
  refine ⟨F0 m pc ls (.int 6 :: .int 5 :: rest), State.topJava?_setTop' (s := T.setVm vm₁) _ X.here.top, [.int 5, .int 6], rest, rfl, rfl, ?_⟩
  simp only [List.mapM_cons, List.mapM_nil, wp_bind', wp_pure']
  refine mm_all (k := kA₁) (kI := kI₁) (cI := cI) (cc := cc0) (N := 5) (M := 6) hkA₁ (by rw [heA]; exact hkindA) hkI₁ (by rw [heI]; exact hkindI) (by decide) (by decide) rfl rfl (by rw [hl]; decide) (by rw [hh]; decide) (by rw [hl]; decide) (by rw [hh]; decide) (by show T.heap.size + 1 + 5 ≤ _; omega) (by show T.slotsUsed + 5 + 5 * 6 ≤ _; omega) (fun d' acts' => ?_)
  have eS : ((T.setTop (F0 m pc ls (.int 6 :: .int 5 :: rest))).setVm vm₁).setTop { F0 m pc ls (.int 6 :: .int 5 :: rest) with stack := rest } = (T.setVm vm₁).setTop { F0 m pc ls (.int 6 :: .int 5 :: rest) with stack := rest } := by
    show ((T.setVm vm₁).setTop _).setTop _ = _
    rw [State.setTop_setTop]
  rw [eS, mmS_top]
  simp only [wp_bind', W.mark, W.pushRef, State.topJava?_setTop' _ XF.here.top, Option.some.injEq, exists_eq_left', State.setTop_setTop, State.heap_setTop]
  intro acts
  simp [jvm, XF.here.top]
  rw [show T.heap.size = H.size by rw [hT]]
  exact a1
end MMR
end
section
/-! The machine does what the ghost machine does over its heap -/
def kMM (dA : Nat → ClassId) (U : State) : Prop := ∃ k : Class, U.vm.classes[dA 3]? = some k ∧ k.kind = .array (dA 0) (.array .int)
theorem kMM.moved {dA : Nat → ClassId} {u U : State} (hvm : u.vm.Alike U.vm) (h : kMM dA u) : kMM dA U := by
  obtain ⟨k, h1, h2⟩ := h
  obtain ⟨k', hk', he⟩ := hvm.2.2 _ _ h1
  exact ⟨k', hk', by rw [he]; exact h2⟩
def KK (D : va_G) (dA : Nat → ClassId) (U : State) : Prop := va_K D vwCl (tysO dA) U ∧ va_AO "OvensAbove$Tower" U ∧ kMM dA U ∧ va_Nw (.methodLinkNest RX11 9 yX7_init "OvensAbove") U ∧ va_Nw (.methodLinkNest RX11 18 yX5_init "OvensAbove") U ∧ va_Nw (.methodLinkNest RX11 25 yX8_init "OvensAbove") U
section GHW
variable {p : Program} {l : Launch} {e : Env} {R : Room} {s : State} {m : MethodId} {args : Array Value} {below : List Frame} {meth : Method} {c : Code} {H : Heap} {locs : List Loc} {cells slots : Nat} {Q : State → Prop}
variable {cc : ByteArray} {pc : Nat} {ls : Array Slot}
theorem W.bnd {g : JFrame} (k : H.size ≤ s.heap.size + cells → W p l e R s m args below meth c H locs cells slots Q g) : W p l e R s m args below meth c H locs cells slots Q g := fun T hT X => k (hT ▸ X.heapSize) T hT X
theorem new_at {base b : Nat} {D : va_G} {dA : Nat → ClassId} {hp : GH} {H H1 : Heap} {q : Nat} {z : va_E} (hP1 : va_P D vwCl (wsO base b dA hp ++ [(q, z)]) H1) (hD1 : va_D (fun q => base ≤ q) (wsO base b dA hp ++ [(q, z)])) (hle : H1.size ≤ base + hp.length + 1) : q = base + hp.length ∧ H1.size = base + hp.length + 1 := by
  have hl : (wsO base b dA hp).length = hp.length := by simp [wsO]
  have hq : (wsO base b dA hp ++ [(q, z)])[hp.length]? = some (q, z) := by rw [List.getElem?_append_right (by omega), hl, Nat.sub_self]; rfl
  have h1 := (hP1 _ _ hq).lt
  have h2 : base ≤ q := hD1.2 _ _ hq
  have h3 : q = base + hp.length := by
    refine Nat.le_antisymm (by simp only at h1; omega) (Nat.le_of_not_lt fun h => ?_)
    have hi : q - base < hp.length := by omega
    have h4 : (wsO base b dA hp ++ [(q, z)])[q - base]? = some (base + (q - base), reC base b dA hp[q - base]) := by
      rw [List.getElem?_append_left (by omega)]
      exact wsO_get (List.getElem?_eq_getElem hi)
    have := hD1.1 _ _ _ _ h4 hq (show base + (q - base) = q by omega)
    omega
  exact ⟨h3, by simp only at h1; omega⟩
theorem reA_set {base kd j : Nat} {vs : List Value} {v : Value} (hj : j < vs.length) (hk : kd ≤ 1) : reA base kd (vs.set j v) = (vs.length, .inl (upd (fun j => ival (vs.getD j .null)) j (ival v))) := by
  unfold reA
  rw [if_pos hk, List.length_set]
  refine congrArg (fun f => (vs.length, Sum.inl f)) (funext fun i => ?_)
  unfold upd
  by_cases hi : i = j
  · subst hi
    simp [hj]
  · simp [hi, List.getElem?_set_ne (Ne.symm hi)]
theorem reA_setq {base kd j r : Nat} {vs : List Value} (hj : j < vs.length) (hk : ¬ kd ≤ 1) : reA base kd (vs.set j (.ref r)) = (vs.length, .inr (.inr (.inr (.inr (va_up (fun j => orf base (vs.getD j .null)) j (some (base + r))))))) := by
  unfold reA
  rw [if_neg hk, List.length_set]
  refine congrArg (fun f => (vs.length, Sum.inr (Sum.inr (Sum.inr (Sum.inr f))))) (funext fun i => ?_)
  unfold va_up
  by_cases hi : i = j
  · subst hi
    simp [hj, orf]
  · simp [hi, List.getElem?_set_ne (Ne.symm hi)]
theorem reA_new {base kd k : Nat} {cA : ClassId} (hk : kd ≤ 1) : vp_cell cA (reA base kd (List.replicate k (.int 0))) = arrV cA k (fun _ => .int 0) := by
  unfold reA
  rw [if_pos hk, List.length_replicate, vp_cell_i]
  refine congrArg (arrV cA k) (funext fun j => ?_)
  by_cases hj : j < k
  · simp [hj, ival]
  · simp [hj, ival]
theorem va_S_chain {base : Nat} {H0 H H1 : Heap} {locs locs1 : List Loc} (h : va_S (fun q => base ≤ q) H0 H locs) (h1 : va_S (fun q => base ≤ q) H H1 locs1) : va_S (fun q => base ≤ q) H0 H1 locs1 :=
  ⟨Nat.le_trans h.1 h1.1, fun q g1 g2 => (h1.2.1 q (Nat.lt_of_lt_of_le g1 h.1) g2).trans (h.2.1 q g1 g2), h1.2.2⟩
theorem va_S_here {base : Nat} {H0 H : Heap} {locs : List Loc} (h : va_S (fun q => base ≤ q) H0 H locs) : va_S (fun q => base ≤ q) H H locs := ⟨Nat.le_refl _, fun _ _ _ => rfl, h.2.2⟩
theorem Sm.of_set {base b : Nat} {D : va_G} {dA : Nat → ClassId} {hp : GH} {H H1 : Heap} {a : Nat} {x : GC} (h : Sm base b D dA hp H) (hP : va_P D vwCl ((wsO base b dA hp).set a (base + a, reC base b dA x)) H1) (h1 : H.size ≤ H1.size) (h2 : H1.size ≤ H.size) : Sm base b D dA (hp.set a x) H1 := by
  rw [wsO_set] at hP
  exact ⟨by rw [List.length_set, ← h.1]; omega, hP⟩
theorem Sm.of_new {base b : Nat} {D : va_G} {dA : Nat → ClassId} {hp : GH} {H1 : Heap} {q : Nat} {x : GC} (hP : va_P D vwCl (wsO base b dA hp ++ [(q, reC base b dA x)]) H1) (hD : va_D (fun q => base ≤ q) (wsO base b dA hp ++ [(q, reC base b dA x)])) (hle : H1.size ≤ base + hp.length + 1) : q = base + hp.length ∧ Sm base b D dA (hp ++ [x]) H1 := by
  obtain ⟨h1, h2⟩ := new_at (H := H1) hP hD hle
  subst h1
  rw [wsO_app] at hP
  exact ⟨rfl, by rw [List.length_append, h2]; rfl, hP⟩
set_option maxHeartbeats 8000000 in
theorem gHp_W (hexec : p.tables.exec = Jvm.exec) (hb : c.code = cc) {base b cn nL : Nat} {D : va_G} {dA : Nat → ClassId} {xs : Option (List Int32)} {ini : Bool} (hml : c.maxLocals = nL) (hls : ls.size = nL)
    (hown : s.vm.findClass (RR cn) = some m.cls) (hts : ∀ w ∈ TT, w.before args s = true) (hK : KK D dA s) (hini : ini = true → meth.name = "<init>")
    (hX : ∀ l, xs = some l → va_X b l.length (fun j => l.getD j 0) s s.heap ∧ b < s.heap.size ∧ b < base) (hR : 1 ≤ R.frames ∧ 100 ≤ R.locals) (hb0 : base ≤ s.heap.size)
    {ins : Instr} {hp hp' : GH} {stk stk' : List Value} {len dc ds : Nat} (ha : gHp xs cn ini ins hp stk = some (hp', stk', len, dc, ds)) (hdg : decode cc pc = .ok (ins, len))
    (hsm : Sm base b D dA hp H) (hS : va_S (fun q => base ≤ q) s.heap H locs) (hn : base + hp.length = s.heap.size + cells) (hc1 : cells + dc ≤ R.cells) (hc2 : slots + ds ≤ R.slots)
    (k : ∀ H' locs', Sm base b D dA hp' H' → va_S (fun q => base ≤ q) s.heap H' locs' → base + hp'.length = s.heap.size + (cells + dc) → W p l e R s m args below meth c H' locs' (cells + dc) (slots + ds) Q (F0 m (pc + len) ls (stk'.map (reV base b)))) :
    W p l e R s m args below meth c H locs cells slots Q (F0 m pc ls (stk.map (reV base b))) := by
  have hD := wsO_D (base := base) (b := b) (dA := dA) (hp := hp)
  have hP := hsm.2
  have hA : ∀ q : Nat, s.heap.size ≤ q → base ≤ q := fun q h => Nat.le_trans hb0 h
  have hS0 := va_S_here hS
  have hsz : H.size = s.heap.size + cells := hsm.1.trans hn
  have put : ∀ (a : Nat) (x : GC), hp' = hp.set a x → dc = 0 → ds = 0 → ∀ (H1 : Heap) (locs1 : List Loc) (pc1 : Nat), pc1 = pc + len → va_P D vwCl ((wsO base b dA hp).set a (base + a, reC base b dA x)) H1 → va_S (fun q => base ≤ q) H H1 locs1 → W p l e R s m args below meth c H1 locs1 cells slots Q (F0 m pc1 ls (stk'.map (reV base b))) := by
    intro a x hh h0 h1 H1 locs1 pc1 hpc hP1 hS1
    subst hh h0 h1 hpc
    refine W.bnd fun hbd => ?_
    exact k H1 locs1 (hsm.of_set hP1 hS1.1 (by omega)) (va_S_chain hS hS1) (by rw [List.length_set]; exact hn)
  unfold gHp at ha
  split at ha
  · -- getfield
    split at ha
    · split at ha
      · rename_i e1 e2
        split at ha
        · rename_i hci
          subst hci
          split at ha
          · rename_i v hv
            cases ha
            obtain ⟨C, T, N, g1, g2, g3⟩ := fT_ok e2
            obtain ⟨i1, -⟩ := cls_ok g1
            exact va_get hexec hb hts i1 hown hK.1 hP _ (wsO_get e1) g1 _ g2 (hts _ g3) (fun _ h => h) (by rw [List.getElem?_map, hv]; rfl) hdg (k _ _ hsm hS hn)
          · cases ha
        · cases ha
      · cases ha
    · cases ha
  · -- putfield
    split at ha
    · split at ha
      · rename_i v a st _ _ ci fs ci' kf e1 e2
        split at ha
        · rename_i hc
          obtain ⟨rfl, hkl, hty, hfi⟩ := hc
          cases ha
          obtain ⟨C, T, N, g1, g2, g3⟩ := fT_ok e2
          obtain ⟨i1, -, -, i2, i3, i4, i5⟩ := cls_ok g1
          obtain ⟨f1, f2⟩ := fty_ok base b hty
          have hfin : fin ci kf = (T kf).2.2.2 := by unfold fin; rw [g1]
          have hset : reC base b dA (.inr (ci, fs.set kf v)) = .inr (ci, (fs.map (reV base b)).set kf (reV base b v)) := by simp [reC, List.map_set]
          cases hf : (T kf).2.2.2 with
          | false =>
            exact va_put hexec hb hts i1 (tyC ci) i2 i3 hown hK.1 hP hD hS0 _ (wsO_get e1) g1 _ g2 (hts _ g3) (fun _ h => h) hf (i2 _ g2) f1 f2 (by rw [List.length_map]; exact hkl) hdg (fun H1 locs1 hP1 _ hS1 => put a _ rfl rfl rfl H1 locs1 _ rfl (by rw [hset]; exact hP1) hS1)
          | true =>
            obtain ⟨j1, j2⟩ := hfi (by rw [hfin, hf])
            subst j2
            exact va_putF hexec hb hts i1 (tyC cn) i2 i3 hown hK.1 hP hD hS0 _ (wsO_get e1) g1 _ g2 (hts _ g3) (fun _ h => h) hf (hini j1) (by rw [i4 _ g2, i5]) (i2 _ g2) f1 f2 (by rw [List.length_map]; exact hkl) hdg (fun H1 locs1 hP1 _ hS1 => put a _ rfl rfl rfl H1 locs1 _ rfl (by rw [hset]; exact hP1) hS1)
        · cases ha
      · cases ha
    · cases ha
  · -- iaload
    split at ha
    · split at ha
      · rename_i i a st _ vs e1
        split at ha
        · rename_i j hj
          split at ha
          · rename_i x hx
            cases ha
            obtain ⟨g1, g2, g3⟩ := ix_in hj
            refine va_iald hexec hb hK.1 hP a 0 (wsO_get e1) rfl g1 hdg ?_
            have e : ival (vs.getD i.toNatClampNeg .null) = x := by rw [g2, List.getD_eq_getElem?_getD, hx]; rfl
            rw [e]
            exact k _ _ hsm hS hn
          · cases ha
        · cases ha
      · cases ha
    · split at ha
      · rename_i l1 _
        split at ha
        · rename_i j hj
          cases ha
          obtain ⟨g1, g2, g3⟩ := ix_in hj
          obtain ⟨h1, h2, h3⟩ := hX _ rfl
          refine va_sld hexec hb h1 h2 (Nat.not_le.mpr h3) hS g1 hdg ?_
          rw [g2]
          exact k _ _ hsm hS hn
        · cases ha
      · cases ha
    · cases ha
  · -- baload
    split at ha
    · split at ha
      · rename_i i a st _ vs e1
        split at ha
        · rename_i j hj
          split at ha
          · rename_i x hx
            cases ha
            obtain ⟨g1, g2, g3⟩ := ix_in hj
            refine va_zald hexec hb hK.1 hP a 1 (wsO_get e1) rfl g1 hdg ?_
            have e : ival (vs.getD i.toNatClampNeg .null) = x := by rw [g2, List.getD_eq_getElem?_getD, hx]; rfl
            rw [e]
            exact k _ _ hsm hS hn
          · cases ha
        · cases ha
      · cases ha
    · cases ha
  · -- aaload
    split at ha
    · split at ha
      · rename_i i a st _ kd vs e1
        split at ha
        · rename_i hkd
          split at ha
          · rename_i j hj
            split at ha
            · rename_i x hx
              cases ha
              obtain ⟨g1, g2, g3⟩ := ix_in hj
              have e : va_rf (orf base (vs.getD i.toNatClampNeg .null)) = .ref (base + x) := by rw [g2, List.getD_eq_getElem?_getD, hx]; rfl
              have hlt : i.toNatClampNeg < vs.length := by omega
              have hw := hP a _ (wsO_get (base := base) (b := b) (dA := dA) e1)
              have hkn : ¬ kd ≤ 1 := by omega
              have hre : reC base b dA (.inl (kd, vs)) = .inl (dA kd, vs.length, .inr (.inr (.inr (.inr (fun j => orf base (vs.getD j .null)))))) := by dsimp only [reC, reA]; rw [if_neg hkn]
              rw [hre] at hw
              rcases hkd with rfl | rfl
              · exact va_aldq hexec hb hK.1 hP a 2 (hre ▸ wsO_get e1) rfl g1 hdg (by rw [e]; exact k _ _ hsm hS hn)
              · exact W.aald (v := va_rf (orf base (vs.getD i.toNatClampNeg .null))) (ty := .array .int) hexec hb hw ((hK.1.2 3 _ rfl).1 vs.length (fun j => va_rf (orf base (vs.getD j .null)))) rfl (fun q => by cases q) (by show ¬ (i < 0 ∨ (arrV _ _ _).slots.size ≤ _); rw [arrV_size]; exact g1) (by show (arrV _ _ _).slots[_]? = _; rw [arrV_read _ _ hlt]) rfl rfl hdg (by rw [e]; exact k _ _ hsm hS hn)
            · cases ha
          · cases ha
        · cases ha
      · cases ha
    · cases ha
  · -- iastore
    split at ha
    · split at ha
      · rename_i x i a st _ vs e1
        split at ha
        · rename_i j hj
          cases ha
          obtain ⟨g1, g2, g3⟩ := ix_in hj
          refine va_iast hexec hb hK.1 hP hD hS0 a 0 (wsO_get e1) rfl g1 hdg (fun H1 locs1 hP1 _ hS1 => put a _ rfl rfl rfl H1 locs1 _ rfl (?_ : va_P D vwCl ((wsO base b dA hp).set a (base + a, reC base b dA (.inl (0, vs.set j (.int x))))) H1) hS1)
          rw [show reC base b dA (.inl (0, vs.set j (.int x))) = .inl (dA 0, reA base 0 (vs.set j (.int x))) from rfl, reA_set g3 (by omega), ← g2]
          exact hP1
        · cases ha
      · cases ha
    · cases ha
  · -- bastore
    split at ha
    · split at ha
      · rename_i x i a st _ vs e1
        split at ha
        · rename_i j hj
          split at ha
          · rename_i hx
            cases ha
            obtain ⟨g1, g2, g3⟩ := ix_in hj
            have hnar : vp_nar .boolean x = x := by rcases hx with rfl | rfl <;> decide
            refine va_zast hexec hb hK.1 hP hD hS0 a 1 (wsO_get e1) rfl g1 hdg (fun H1 locs1 hP1 _ hS1 => put a _ rfl rfl rfl H1 locs1 _ rfl (?_ : va_P D vwCl ((wsO base b dA hp).set a (base + a, reC base b dA (.inl (1, vs.set j (.int x))))) H1) hS1)
            rw [show reC base b dA (.inl (1, vs.set j (.int x))) = .inl (dA 1, reA base 1 (vs.set j (.int x))) from rfl, reA_set g3 (by omega), ← g2]
            rw [hnar] at hP1
            exact hP1
          · cases ha
        · cases ha
      · cases ha
    · cases ha
  · -- aastore
    split at ha
    · split at ha
      · rename_i r i a st _ _ vs fs e1 e2
        split at ha
        · rename_i j hj
          cases ha
          obtain ⟨g1, g2, g3⟩ := ix_in hj
          refine va_astq hexec hb hK.1 hP hD hS0 a 2 r 9 (wsO_get e1) (r := (RX9, TX9, 2)) rfl (wsO_get e2) rfl g1 hdg (fun H1 locs1 hP1 _ hS1 => put a _ rfl rfl rfl H1 locs1 _ rfl (?_ : va_P D vwCl ((wsO base b dA hp).set a (base + a, reC base b dA (.inl (2, vs.set j (.ref r))))) H1) hS1)
          rw [show reC base b dA (.inl (2, vs.set j (.ref r))) = .inl (dA 2, reA base 2 (vs.set j (.ref r))) from rfl, reA_setq g3 (by omega), ← g2]
          exact hP1
        · cases ha
      · cases ha
    · cases ha
  · -- arraylength
    split at ha
    · split at ha
      · cases ha
        obtain ⟨h1, h2, h3⟩ := hX _ rfl
        exact va_slen hexec hb h1 h2 (Nat.not_le.mpr h3) hS hdg (k _ _ hsm hS hn)
      · cases ha
    · cases ha
  · -- new
    split at ha
    · rename_i ci e1
      cases ha
      obtain ⟨C, T, N, g1, g2⟩ := cT_ok e1
      obtain ⟨i1, i0, i00, i2, i3, i4, i5⟩ := cls_ok g1
      have hdfl : dfl ci = (List.range N).map (fun k => defaultValue (tyC ci k)) := by unfold dfl; rw [g1]
      have hlen : (dfl ci).length = N := by rw [hdfl]; simp
      have hdv : ∀ ty : FieldType, reV base b (defaultValue ty) = defaultValue ty := fun ty => by cases ty <;> rfl
      rw [hlen] at hc2 k
      refine va_new (fs := (dfl ci).map (reV base b)) hexec hb hts i1 (tyC ci) i2 hown (hts _ g2) (hts _ i0) (hts _ i00) hK.1 hP hD hS0 (fun q h => Nat.le_trans (by omega) h) g1 (fun j hj => ?_) hc1 hc2 hdg (fun q H1 hP1 hD1 hS1 => ?_)
      · rw [hdfl]
        simp [vp_V, hj, hdv]
      · refine W.bnd fun hbd => ?_
        obtain ⟨rfl, hsm1⟩ := Sm.of_new (b := b) (dA := dA) (x := .inr (ci, dfl ci)) hP1 hD1 (by omega)
        exact k H1 locs hsm1 (va_S_chain hS hS1) (by rw [List.length_append]; show base + (hp.length + 1) = _; omega)
    · cases ha
  · -- newarray
    split at ha
    · rename_i n st
      split at ha
      · rename_i kk hkk
        cases ha
        obtain ⟨g1, g2, g3⟩ := ix_in hkk
        have hneg : ¬ n < 0 := fun q => g1 (Or.inl q)
        refine va_newa (atype := .int) (ty := .int) (a0 := reA base 0 (List.replicate ds (.int 0))) hexec hb (hts _ w_arI) rfl hK.1 hP hD hS0 (fun q h => Nat.le_trans (by omega) h) (fun cA => reA_new (by omega)) hneg g2 (by show ds * 4 ≤ _; omega) hc1 hc2 hdg (fun q cA H1 hK1 hP1 hD1 hS1 => ?_)
        have hcA : cA = dA 0 := by
          have z1 : s.vm.findClass ("[" ++ FieldType.int.toString) = some cA := (hK1.2 4 (cA, .int) rfl).2
          have z2 : s.vm.findClass ("[" ++ FieldType.int.toString) = some (dA 0) := (hK.1.2 0 _ rfl).2
          exact Option.some.inj (z1.symm.trans z2)
        subst hcA
        refine W.bnd fun hbd => ?_
        obtain ⟨rfl, hsm1⟩ := Sm.of_new (b := b) (dA := dA) (x := .inl (0, List.replicate ds (.int 0))) hP1 hD1 (by omega)
        exact k H1 locs hsm1 (va_S_chain hS hS1) (by rw [List.length_append]; show base + (hp.length + 1) = _; omega)
      · rename_i kk hkk
        cases ha
        obtain ⟨g1, g2, g3⟩ := ix_in hkk
        have hneg : ¬ n < 0 := fun q => g1 (Or.inl q)
        refine va_newa (atype := .boolean) (ty := .boolean) (a0 := reA base 1 (List.replicate ds (.int 0))) hexec hb (hts _ w_arZ) rfl hK.1 hP hD hS0 (fun q h => Nat.le_trans (by omega) h) (fun cA => reA_new (by omega)) hneg g2 (by show ds * 1 ≤ _; omega) hc1 hc2 hdg (fun q cA H1 hK1 hP1 hD1 hS1 => ?_)
        have hcA : cA = dA 1 := by
          have z1 : s.vm.findClass ("[" ++ FieldType.boolean.toString) = some cA := (hK1.2 4 (cA, .boolean) rfl).2
          have z2 : s.vm.findClass ("[" ++ FieldType.boolean.toString) = some (dA 1) := (hK.1.2 1 _ rfl).2
          exact Option.some.inj (z1.symm.trans z2)
        subst hcA
        refine W.bnd fun hbd => ?_
        obtain ⟨rfl, hsm1⟩ := Sm.of_new (b := b) (dA := dA) (x := .inl (1, List.replicate ds (.int 0))) hP1 hD1 (by omega)
        exact k H1 locs hsm1 (va_S_chain hS hS1) (by rw [List.length_append]; show base + (hp.length + 1) = _; omega)
      · cases ha
    · cases ha
  · -- anewarray
    split at ha
    · rename_i n st
      split at ha
      · rename_i kk hkk
        split at ha
        · rename_i hat
          cases ha
          obtain ⟨g1, g2, g3⟩ := ix_in hkk
          have hneg : ¬ n < 0 := fun q => g1 (Or.inl q)
          have hre : ∀ cA : ClassId, (cA, (ds, (Sum.inr (Sum.inr (Sum.inr (Sum.inr (fun _ => none)))) : (Nat → Int32) ⊕ (Nat → Int64) ⊕ (Nat → UInt32) ⊕ (Nat → UInt64) ⊕ (Nat → Option Nat)))) = (cA, reA base 2 (List.replicate ds .null)) := fun cA => by
            dsimp only [reA]
            rw [if_neg (by omega), List.length_replicate]
            congr 7
            funext j
            by_cases hj : j < ds
            · simp [hj, orf]
            · simp [hj, orf]
          refine va_newq hexec hb hown (hts _ (aT_ok hat)) hK.2.1 hK.1 hP hD hS0 (fun q h => Nat.le_trans (by omega) h) hneg g2 (by omega) hc1 hc2 hdg (fun q cA H1 hK1 hP1 hD1 hS1 => ?_)
          have hcA : cA = dA 2 := by
            obtain ⟨_, _, _, _, _, z1⟩ := (hK1.2 4 (cA, .object "OvensAbove$Tower") rfl).2
            obtain ⟨_, _, _, _, _, z2⟩ := (hK.1.2 2 _ rfl).2
            exact Option.some.inj (z1.symm.trans z2)
          subst hcA
          refine W.bnd fun hbd => ?_
          rw [hre] at hP1 hD1
          obtain ⟨rfl, hsm1⟩ := Sm.of_new (b := b) (dA := dA) (x := .inl (2, List.replicate ds .null)) hP1 hD1 (by omega)
          exact k H1 locs hsm1 (va_S_chain hS hS1) (by rw [List.length_append]; show base + (hp.length + 1) = _; omega)
        · cases ha
      · cases ha
    · cases ha
  · -- multianewarray
    split at ha
    · rename_i kk n st
      split at ha
      · rename_i hc
        obtain ⟨rfl, rfl, rfl, rfl⟩ := hc
        cases ha
        obtain ⟨oA, nA⟩ := hK.1.2 3 (dA 3, .array .int) rfl
        obtain ⟨oI, nI⟩ := hK.1.2 0 (dA 0, .int) rfl
        obtain ⟨kA, hkA, hkindA⟩ := hK.2.2.1
        obtain ⟨-, kI, hkI, cc0, hkindI⟩ := oI 0 (fun _ => .null)
        have nA' : s.vm.findClass ("[" ++ (FieldType.array .int).toString) = some (dA 3) := nA
        refine W.mm hexec hb hown (hts _ w_mmLink) nA' hkA hkindA hkI hkindI hdg hc1 hc2 (fun H' g1 g2 g3 g4 => ?_)
        have hlen : (hp ++ [(.inl (3, (List.range 5).map (fun i => Value.ref (hp.length + 1 + i))) : GC)] ++ List.replicate 5 (.inl (0, List.replicate 6 (.int 0)) : GC)).length = hp.length + 6 := by simp
        rw [hsm.1] at g1 g2 g3 g4
        have hP' : va_P D vwCl (wsO base b dA (hp ++ [.inl (3, (List.range 5).map (fun i => .ref (hp.length + 1 + i)))] ++ List.replicate 5 (.inl (0, List.replicate 6 (.int 0))))) H' := by
          intro i q hq
          rw [wsO, List.getElem?_mapIdx] at hq
          by_cases h1 : i < hp.length
          · rw [List.append_assoc, List.getElem?_append_left h1, List.getElem?_eq_getElem h1] at hq
            cases hq
            exact (hP i _ (wsO_get (List.getElem?_eq_getElem h1))).kept (g3 _ (by omega))
          · by_cases h2 : i = hp.length
            · subst h2
              rw [List.append_assoc, List.getElem?_append_right (Nat.le_refl _), Nat.sub_self] at hq
              cases hq
              show H'[base + hp.length]? = some (vp_cell (dA 3) (reA base 3 _))
              rw [g2]
              refine congrArg some ?_
              dsimp only [reA]
              rw [if_neg (by omega), vp_cell_q]
              unfold mmO
              refine congrArg (arrV (dA 3) 5) (funext fun j => ?_)
              by_cases hj : j < 5
              · rw [if_pos hj, List.getD_eq_getElem?_getD, List.getElem?_map, List.getElem?_range hj]
                show Value.ref (base + hp.length + 1 + j) = Value.ref (base + (hp.length + 1 + j))
                rw [show base + hp.length + 1 + j = base + (hp.length + 1 + j) by omega]
              · rw [if_neg hj, List.getD_eq_getElem?_getD, List.getElem?_eq_none (by simp; omega)]
                rfl
            · rw [List.getElem?_append_right (by simp; omega)] at hq
              have h3 : i - (hp ++ [(.inl (3, (List.range 5).map (fun i => Value.ref (hp.length + 1 + i))) : GC)]).length < 5 := by
                refine Nat.lt_of_not_le fun h => ?_
                rw [List.getElem?_eq_none (by simpa using h)] at hq
                cases hq
              rw [List.getElem?_replicate, if_pos h3] at hq
              cases hq
              show H'[base + i]? = some (vp_cell (dA 0) (reA base 0 (List.replicate 6 (.int 0))))
              rw [reA_new (by omega)]
              have h4 : (hp ++ [(.inl (3, (List.range 5).map (fun i => Value.ref (hp.length + 1 + i))) : GC)]).length = hp.length + 1 := by simp
              rw [h4] at h3
              have := g4 (i - (hp.length + 1)) h3
              rwa [show base + hp.length + 1 + (i - (hp.length + 1)) = base + i by omega] at this
        have hkk := k H' (locs ++ (List.range 5).map fun j => ⟨H.size, j⟩) ⟨by rw [hlen]; omega, hP'⟩ ⟨by have := hS.1; omega, fun q h1 h2 => (g3 q (Nat.lt_of_lt_of_le h1 (by have := hS.1; omega))).trans (hS.2.1 q h1 h2), fun q hq => by
          rcases List.mem_append.mp hq with h | h
          · exact hS.2.2 q h
          · obtain ⟨z, -, hz⟩ := List.mem_map.mp h
            rw [← hz]
            show base ≤ H.size
            omega⟩ (by rw [hlen]; omega)
        rw [hsm.1]
        rw [hsm.1] at hkk
        exact hkk
      · cases ha
    · cases ha
  · -- ldc2_w
    split at ha
    · rename_i v e1
      cases ha
      exact lv_ldc2 hexec hb hown (hts _ (lT_ok e1)) hdg (k _ _ hsm hS hn)
    · cases ha
  · -- ldc_w
    split at ha
    · rename_i v e1
      cases ha
      exact lv_ldcw hexec hb hown (hts _ (iT_ok e1)) hdg (k _ _ hsm hS hn)
    · cases ha
  · -- invokestatic: abs, arraycopy
    have hcat : ∀ st : List Value, ((st.map (reV base b)).map fun v => v.category).sum = (st.map fun v => v.category).sum := fun st => by
      rw [List.map_map]
      congr 1
      exact List.map_congr_left fun v _ => reV_cat base b v
    split at ha
    · rename_i hbT
      split at ha
      · rename_i x st
        split at ha
        · rename_i hst
          cases ha
          exact va_mabs hexec hb (hml.trans hls.symm) hown (hts _ (bT_ok hbT)) (hts _ w_abStat) (hts _ w_abIni) (hts _ w_abCode) hR.1 (by rw [hcat]; omega) (by omega) (by omega) hdg (k _ _ hsm hS hn)
        · cases ha
      · cases ha
    · split at ha
      · rename_i hpT
        split at ha
        · rename_i n dp a sp a0 st
          split at ha
          · rename_i vs ws e1 e2
            split at ha
            · rename_i hc
              obtain ⟨c1, c2, c3, c4, c5, hst⟩ := hc
              cases ha
              have nn : ∀ z : Int32, 0 ≤ z.toInt → ¬ z < 0 := fun z h q => by
                have := Int32.lt_iff_toInt_lt.mp q
                rw [Int32.toInt_zero] at this
                omega
              have hcp : reC base b dA (.inl (0, cpyL vs ws sp.toInt.toNat dp.toInt.toNat n.toInt.toNat)) = .inl (dA 0, ws.length, .inl (va_cpy (fun j => ival (vs.getD j .null)) (fun j => ival (ws.getD j .null)) sp.toNatClampNeg dp.toNatClampNeg n.toNatClampNeg)) := by
                dsimp only [reC, reA]
                rw [if_pos (by omega)]
                have hl : (cpyL vs ws sp.toInt.toNat dp.toInt.toNat n.toInt.toNat).length = ws.length := by simp [cpyL]
                rw [hl]
                congr 4
                funext j
                show _ = (if dp.toInt.toNat ≤ j ∧ j < dp.toInt.toNat + n.toInt.toNat then _ else _)
                unfold cpyL
                by_cases hj : j < ws.length
                · rw [List.getD_eq_getElem?_getD, List.getElem?_map, List.getElem?_range hj]
                  simp only [Option.map_some, Option.getD_some]
                  split <;> rfl
                · rw [List.getD_eq_getElem?_getD, List.getElem?_eq_none (by simp; omega), if_neg (by omega)]
                  show ival _ = ival (ws.getD j .null)
                  rw [List.getD_eq_getElem?_getD, List.getElem?_eq_none (by omega)]
              refine va_copyi (ty := .int) hexec hb (hml.trans hls.symm) hown (hts _ (pT_ok hpT)) (hts _ w_acNat) (hts _ w_acStat) (hts _ w_acIni) hK.1 hP hD hS0 a0 a 0 0 (wsO_get e1) (wsO_get e2) rfl rfl rfl (nn _ c1) (nn _ c2) (nn _ c3) (by show sp.toInt.toNat + n.toInt.toNat ≤ _; omega) (by show dp.toInt.toNat + n.toInt.toNat ≤ _; omega) (fun _ _ => rfl) hR.1 (by rw [hcat]; exact Nat.le_trans (Nat.add_le_add hst (Nat.le_of_ble_eq_true rfl : nativeFrameWords "java/lang/System" "arraycopy" 5 + 11 ≤ 90)) (by omega)) hdg (fun H1 locs1 hP1 _ hS1 => put a _ rfl rfl rfl H1 locs1 _ rfl (?_ : va_P D vwCl ((wsO base b dA hp).set a (base + a, reC base b dA (.inl (0, cpyL vs ws sp.toInt.toNat dp.toInt.toNat n.toInt.toNat)))) H1) hS1)
              rw [hcp]
              exact hP1
            · cases ha
          · cases ha
        · cases ha
      · cases ha
  · -- invokespecial of Object's constructor
    have hcat : ∀ st : List Value, ((st.map (reV base b)).map fun v => v.category).sum = (st.map fun v => v.category).sum := fun st => by
      rw [List.map_map]
      congr 1
      exact List.map_congr_left fun v _ => reV_cat base b v
    split at ha
    · rename_i hoT
      split at ha
      · rename_i a st
        split at ha
        · rename_i hst
          cases ha
          refine W.objInit hexec hb hown (hts _ (oT_ok hoT)) (hts _ w_objInstance) (hts _ w_objCode) rfl (by rw [hml]; exact hls) rfl hdg hR.1 ?_ (k _ _ hsm hS hn)
          show 2 * 0 + ((stk'.map (reV base b)).map fun v => v.category).sum + 12 ≤ _
          rw [hcat]
          omega
        · cases ha
      · cases ha
    · cases ha
  · cases ha
end GHW
end
section
/-! The ghost machine's runs, and that the machine follows them -/
def gRet (ret : Option FieldType) (ins : Instr) (stk : List Value) : Option (Option Value) := match ins with
  | .ireturn => match stk, ret with
    | [.int x], some .int => some (some (.int x))
    | [.int x], some .boolean => if x = 0 ∨ x = 1 then some (some (.int x)) else none
    | _, _ => none
  | .lreturn => match stk, ret with
    | [.long x], some .long => some (some (.long x))
    | _, _ => none
  | .return_ => match stk, ret with
    | [], none => some none
    | _, _ => none
  | _ => none
def wgt (st : List Value) : Nat := (st.map fun v => v.category).sum
def nM (mid : Nat) : Nat := match mis[mid]? with
  | some (_, _, _, _, _, _, _, n) => n
  | none => 0
def clM (mid : Nat) : Nat := match mis[mid]? with
  | some (_, _, _, _, cn, _, _, _) => cn
  | none => 99
def cM (mid : Nat) : Nat := match mis[mid]? with
  | some (_, _, _, _, _, mc, _, _) => mc
  | none => 0
def sM (mid : Nat) : Nat := match mis[mid]? with
  | some (_, _, _, _, _, _, ms, _) => ms
  | none => 0
/-- a call: the callee, its arguments, the stack that stays -/
def gCall (cn : Nat) (ins : Instr) (hp : GH) (stk : List Value) : Option (Nat × List Value × List Value) := match ins with
  | .invokevirtual idx => match mT cn idx with
    | some (mid, 0) => match stk.drop (nM mid) with
      | .ref o :: rest => match hp[o]? with
        | some (.inr (ci, _)) => if ci = clM mid ∧ nM mid ≤ stk.length ∧ wgt rest ≤ 8 then some (mid, .ref o :: (stk.take (nM mid)).reverse, rest) else none
        | _ => none
      | _ => none
    | _ => none
  | .invokestatic idx => match mT cn idx with
    | some (mid, 1) => if nM mid ≤ stk.length ∧ wgt (stk.drop (nM mid)) ≤ 8 then some (mid, (stk.take (nM mid)).reverse, stk.drop (nM mid)) else none
    | _ => none
  | .invokespecial idx => match mT cn idx with
    | some (mid, kd) => if kd = 2 ∨ kd = 3 then (match stk.drop (nM mid) with
      | .ref o :: rest => if nM mid ≤ stk.length ∧ wgt rest ≤ 8 then some (mid, .ref o :: (stk.take (nM mid)).reverse, rest) else none
      | _ => none) else none
    | _ => none
  | _ => none
/-- within k steps from here the method returns, with Q of its answer and its heap -/
def GoF (call : Nat → List Value → GH → (Option Value → GH → Prop) → Prop) (xs : Option (List Int32)) (cn : Nat) (ini : Bool) (ret : Option FieldType) (mc ms n0 : Nat) (cc : ByteArray) (Q : Option Value → GH → Prop) : Nat → Nat → GL → List Value → GH → Nat → Prop
  | 0, _, _, _, _, _ => False
  | k + 1, pc, loc, stk, hp, ns => ∃ (ins : Instr) (len : Nat), decode cc pc = .ok (ins, len) ∧
    ((∃ stk', gAlu ins stk = some stk' ∧ len = gLen ins ∧ GoF call xs cn ini ret mc ms n0 cc Q k (pc + len) loc stk' hp ns) ∨
     (∃ loc' stk', gLoc ins loc stk = some (loc', stk', len) ∧ GoF call xs cn ini ret mc ms n0 cc Q k (pc + len) loc' stk' hp ns) ∨
     (∃ t tk stk', gBr ins pc stk = some (t, tk, stk') ∧ gThree ins len = true ∧ GoF call xs cn ini ret mc ms n0 cc Q k (if tk = true then t else pc + 3) loc stk' hp ns) ∨
     (∃ hp' stk' dc ds, gHp xs cn ini ins hp stk = some (hp', stk', len, dc, ds) ∧ ((dc = 0 ∧ ds = 0) ∨ (hp.length + dc ≤ n0 + mc ∧ ns + ds ≤ ms)) ∧ GoF call xs cn ini ret mc ms n0 cc Q k (pc + len) loc stk' hp' (ns + ds)) ∨
     (∃ mid as rest, gCall cn ins hp stk = some (mid, as, rest) ∧ len = 3 ∧ ((cM mid = 0 ∧ sM mid = 0) ∨ (hp.length + cM mid ≤ n0 + mc ∧ ns + sM mid ≤ ms)) ∧ call mid as hp (fun v hp' => GoF call xs cn ini ret mc ms n0 cc Q k (pc + 3) loc (v.toList ++ rest) hp' (ns + sM mid))) ∨
     (∃ v, gRet ret ins stk = some v ∧ len = 1 ∧ (mc = 0 ∨ hp.length = n0 + mc) ∧ Q v hp))
/-- method mid, at most d calls deep -/
def CallD : Nat → Nat → List Value → GH → (Option Value → GH → Prop) → Prop
  | 0, _, _, _, _ => False
  | d + 1, mid, as, hp, Q => ∃ (y : MethodName) (cc : ByteArray) (nL : Nat) (ret : Option FieldType) (cn mc ms n : Nat), mis[mid]? = some (y, cc, nL, ret, cn, mc, ms, n) ∧ (gargs as).length ≤ nL ∧
    ∃ k, GoF (CallD d) none cn (y.name == "<init>") ret mc ms hp.length cc Q k 0 (gent nL as) [] hp 0
def rmD (d mc ms : Nat) : Room := { frames := d, cells := mc, slots := ms, locals := 100 * d }
def PcG (D : va_G) (dA : Nat → ClassId) (base b : Nat) (as : List Value) (hp : GH) : Array Value → State → Prop := va_Pc (as.map (reV base b)) (fun U => Sm base b D dA hp U.heap ∧ KK D dA U)
def QcG (D : va_G) (dA : Nat → ClassId) (base b : Nat) (hp : GH) (mc : Nat) (Q : Option Value → GH → Prop) : Array Value → State → Outcome → State → Prop := fun _ st oc t => (∃ (v : Option Value) (hp' : GH), oc = .returned (v.map (reV base b)) ∧ Q v hp' ∧ Sm base b D dA hp' t.heap ∧ hp'.length = hp.length + mc) ∧ va_F (fun q => base ≤ q) st t
def MetG (l : Launch) (D : va_G) (dA : Nat → ClassId) (base b d mid : Nat) (as : List Value) (hp : GH) (Q : Option Value → GH → Prop) : Prop :=
  ∀ (y : MethodName) (cc : ByteArray) (nL : Nat) (ret : Option FieldType) (cn mc ms n : Nat), mis[mid]? = some (y, cc, nL, ret, cn, mc, ms, n) →
    Met l y (.code y cc nL ret :: TT) (rmD d mc ms) (PcG D dA base b as hp) (QcG D dA base b hp mc Q) mc ms (fun q => base ≤ q)
theorem KK.warm {D : va_G} {dA : Nat → ClassId} {s U : State} (hW : s.WarmedH U.vm) (h : KK D dA s) : KK D dA U :=
  ⟨va_K.moved hW.alike h.1, va_AO.moved hW.alike h.2.1, h.2.2.1.moved hW.alike, h.2.2.2.1.warmM hW, h.2.2.2.2.1.warmM hW, h.2.2.2.2.2.warmM hW⟩
theorem PcG.blind {D : va_G} {dA : Nat → ClassId} {base b : Nat} {as : List Value} {hp : GH} : FrameBlind (PcG D dA base b as hp) := by
  intro a U g mk h
  obtain ⟨h1, h2, h3, h4, h8, h5, h6, h7⟩ := h
  exact ⟨h1, h2, va_K.moved (u := U) (U := U.calling g mk a) (Vm.Alike.refl U.vm) h3, va_AO.moved (u := U) (U := U.calling g mk a) (Vm.Alike.refl U.vm) h4, kMM.moved (u := U) (U := U.calling g mk a) (Vm.Alike.refl U.vm) h8, h5.same rfl rfl, h6.same rfl rfl, h7.same rfl rfl⟩
theorem mis_small : ∀ q ∈ mis, q.2.2.1 ≤ 60 := by decide +kernel
theorem TT_ws {y : MethodName} {cc : ByteArray} {nL : Nat} {ret : Option FieldType} (h : Cond.code y cc nL ret ∈ TT) : GoodIn TT (.code y cc nL ret :: TT) := by
  intro w hw
  rcases List.mem_cons.mp hw with rfl | hw
  · exact TT_good _ h
  · exact TT_good w hw
end
section
section GSW
variable {p : Program} {l : Launch} {e : Env} {R : Room} {s : State} {m : MethodId} {args : Array Value} {below : List Frame} {meth : Method} {c : Code} {H : Heap} {locs : List Loc} {cells slots : Nat} {Qf : State → Prop}
variable {cc : ByteArray} {pc : Nat} {ls : Array Slot}
theorem run_end {base b mc ms : Nat} {D : va_G} {dA : Nat → ClassId} {hp : GH} {K : Option Value → GH → Prop} {a : Array Value} {st0 rest : List Value} (hr : va_Run p l e R s m args below meth c H locs cells slots mc ms (F0 m pc ls st0) rest (QcG D dA base b hp mc K a) (fun q => base ≤ q)) (hS : va_S (fun q => base ≤ q) s.heap H locs)
    (kk : ∀ (v : Option Value) (hp' : GH) (H' : Heap) (locs' : List Loc), K v hp' → Sm base b D dA hp' H' → va_S (fun q => base ≤ q) s.heap H' locs' → hp'.length = hp.length + mc → W p l e R s m args below meth c H' locs' (cells + mc) (slots + ms) Qf (F0 m (pc + 3) ls ((v.map (reV base b)).toList ++ rest))) : W p l e R s m args below meth c H locs cells slots Qf (F0 m pc ls st0) := by
  intro T hT X
  obtain ⟨v, st₀, t, T', L, h0, X', hL, e1, -, ⟨⟨v', hp', hv, hq, hsm, hlen⟩, hF⟩, go⟩ := hr T hT X
  cases hv
  have hS' : va_S (fun q => base ≤ q) s.heap T'.heap (locs ++ L) := by
    rw [e1]
    refine ⟨Nat.le_trans hS.1 (h0 ▸ hF.1), fun q g1 g2 => ?_, fun q hq => ?_⟩
    · rw [hF.2 q (by rw [h0]; exact Nat.lt_of_lt_of_le g1 hS.1) g2, h0]
      exact hS.2.1 q g1 g2
    · rcases List.mem_append.mp hq with h | h
      · exact hS.2.2 q h
      · exact hL q h
  obtain ⟨t2, a1, b1⟩ := kk v' hp' T'.heap (locs ++ L) hq (by rw [e1]; exact hsm) hS' hlen T' rfl X'
  exact ⟨t2, go t2 a1, b1⟩
theorem reV_app (base b : Nat) (v : Option Value) (rest : List Value) : (v.map (reV base b)).toList ++ rest.map (reV base b) = (v.toList ++ rest).map (reV base b) := by cases v <;> simp
theorem wgt_re (base b : Nat) (st : List Value) : ((st.map (reV base b)).map fun v => v.category).sum = wgt st := by
  rw [List.map_map]
  unfold wgt
  congr 1
  exact List.map_congr_left fun v _ => reV_cat base b v
set_option maxHeartbeats 8000000 in
theorem GoF_W (hexec : p.tables.exec = Jvm.exec) (hb : c.code = cc) {base b cn nL : Nat} {D : va_G} {dA : Nat → ClassId} {xs : Option (List Int32)} {ini : Bool} {ret : Option FieldType} {mc ms n0 dd : Nat} {call : Nat → List Value → GH → (Option Value → GH → Prop) → Prop} {Q : Option Value → GH → Prop} (hml : c.maxLocals = nL)
    (hown : s.vm.findClass (RR cn) = some m.cls) (hts : ∀ w ∈ TT, w.before args s = true) (hK : KK D dA s) (hini : ini = true → meth.name = "<init>")
    (hX : ∀ l, xs = some l → va_X b l.length (fun j => l.getD j 0) s s.heap ∧ b < s.heap.size ∧ b < base) (hR : dd + 1 ≤ R.frames ∧ 100 * (dd + 1) ≤ R.locals) (hcl : mc ≤ R.cells) (hsl : ms ≤ R.slots) (hbase : s.heap.size = base + n0)
    (hcall : ∀ mid as hp K, call mid as hp K → MetG l D dA base b dd mid as hp K)
    (hret : ∀ (pc : Nat) (ls : Array Slot) (stk : List Value) (hp : GH) (ns : Nat) (v : Option Value) (H : Heap) (locs : List Loc) (ins : Instr), gRet ret ins stk = some v → decode cc pc = .ok (ins, 1) → Q v hp → (mc = 0 ∨ hp.length = n0 + mc) → n0 ≤ hp.length → hp.length ≤ n0 + mc → ns ≤ ms → Sm base b D dA hp H → va_S (fun q => base ≤ q) s.heap H locs →
      W p l e R s m args below meth c H locs (hp.length - n0) ns Qf (F0 m pc ls (stk.map (reV base b)))) :
    ∀ (k pc : Nat) (loc : GL) (stk : List Value) (hp : GH) (ns : Nat) (H : Heap) (locs : List Loc) (ls : Array Slot), GoF call xs cn ini ret mc ms n0 cc Q k pc loc stk hp ns → Sm base b D dA hp H → va_S (fun q => base ≤ q) s.heap H locs → LH ls nL base b loc → n0 ≤ hp.length → hp.length ≤ n0 + mc → ns ≤ ms →
      W p l e R s m args below meth c H locs (hp.length - n0) ns Qf (F0 m pc ls (stk.map (reV base b))) := by
  intro k
  induction k with
  | zero => intro pc loc stk hp ns H locs ls h; exact h.elim
  | succ k ih =>
    intro pc loc stk hp ns H locs ls h hsm hS hl hn1 hn2 hns
    obtain ⟨ins, len, hdg, h⟩ := h
    rcases h with ⟨stk', ha, hlen, h⟩ | ⟨loc', stk', ha, h⟩ | ⟨t, tk, stk', ha, hlen, h⟩ | ⟨hp', stk', dc, ds, ha, hbud, h⟩ | ⟨mid, as, rest, ha, hlen, hbud, h⟩ | ⟨v, ha, hlen, hmc, h⟩
    · exact gAlu_W hexec hb ha hlen hdg (ih _ _ _ _ _ _ _ _ h hsm hS hl hn1 hn2 hns)
    · exact gLoc_W hexec hb hl ha hdg (fun ls' hl' => ih _ _ _ _ _ _ _ _ h hsm hS hl' hn1 hn2 hns)
    · exact gBr_W hexec hb ha hlen hdg (ih _ _ _ _ _ _ _ _ h hsm hS hl hn1 hn2 hns)
    · refine gHp_W hexec hb hml hl.2.1 hown hts hK hini hX ⟨by omega, by omega⟩ (by omega) ha hdg hsm hS (by omega) (by omega) (by omega) (fun H' locs' hsm' hS' hlen' => ?_)
      have e1 : hp.length - n0 + dc = hp'.length - n0 := by omega
      rw [e1]
      exact ih _ _ _ _ _ _ _ _ h hsm' hS' hl (by omega) (by omega) (by omega)
    · subst hlen
      have hmet := hcall _ _ _ _ h
      -- what follows the call
      have fin : ∀ {y : MethodName} {c' : ByteArray} {nL' : Nat} {ret' : Option FieldType} {cn' mc' ms' n' : Nat} (a : Array Value), mis[mid]? = some (y, c', nL', ret', cn', mc', ms', n') →
          va_Run p l e R s m args below meth c H locs (hp.length - n0) ns mc' ms' (F0 m pc ls (stk.map (reV base b))) (rest.map (reV base b)) (QcG D dA base b hp mc' (fun v hp' => GoF call xs cn ini ret mc ms n0 cc Q k (pc + 3) loc (v.toList ++ rest) hp' (ns + sM mid)) a) (fun q => base ≤ q) → W p l e R s m args below meth c H locs (hp.length - n0) ns Qf (F0 m pc ls (stk.map (reV base b))) := by
        intro y c' nL' ret' cn' mc' ms' n' a hm hr
        have e1 : cM mid = mc' := by unfold cM; rw [hm]
        have e2 : sM mid = ms' := by unfold sM; rw [hm]
        refine run_end hr hS (fun v hp' H' locs' hq hsm' hS' hlen' => ?_)
        rw [reV_app, show hp.length - n0 + mc' = hp'.length - n0 by omega, ← e2]
        exact ih _ _ _ _ _ _ _ _ hq hsm' hS' hl (by omega) (by omega) (by omega)
      have rm : ∀ {y : MethodName} {c' : ByteArray} {nL' : Nat} {ret' : Option FieldType} {cn' mc' ms' n' : Nat}, mis[mid]? = some (y, c', nL', ret', cn', mc', ms', n') → (rmD dd mc' ms').frames + 1 ≤ R.frames ∧ 8 + (nL' + 11) + (rmD dd mc' ms').locals ≤ R.locals := by
        intro y c' nL' ret' cn' mc' ms' n' hm
        have h1 : nL' ≤ 60 := mis_small _ (List.mem_of_getElem? hm)
        exact ⟨hR.1, by show 8 + (nL' + 11) + 100 * dd ≤ _; omega⟩
      have bud : ∀ {y : MethodName} {c' : ByteArray} {nL' : Nat} {ret' : Option FieldType} {cn' mc' ms' n' : Nat}, mis[mid]? = some (y, c', nL', ret', cn', mc', ms', n') → hp.length - n0 + mc' ≤ R.cells ∧ ns + ms' ≤ R.slots := by
        intro y c' nL' ret' cn' mc' ms' n' hm
        have e1 : cM mid = mc' := by unfold cM; rw [hm]
        have e2 : sM mid = ms' := by unfold sM; rw [hm]
        constructor <;> omega
      have hsplit : ∀ n : Nat, stk.map (reV base b) = (((stk.take n).reverse).map (reV base b)).reverse ++ (stk.drop n).map (reV base b) := fun n => by
        rw [← List.map_reverse, List.reverse_reverse, ← List.map_append, List.take_append_drop]
      have hcat : ∀ st : List Value, wgt st ≤ 8 → 2 * (F0 m pc ls (stk.map (reV base b))).monitorRoom + ((st.map (reV base b)).map fun v => v.category).sum ≤ 8 := fun st h => by
        rw [wgt_re]
        show 2 * 0 + _ ≤ 8
        omega
      unfold gCall at ha
      split at ha
      · -- virtual
        split at ha
        · rename_i idx mid' e1
          split at ha
          · rename_i o rest' e2
            split at ha
            · rename_i ci fs e3
              split at ha
              · rename_i hc
                cases ha
                obtain ⟨y, c', nL', ret', cn', mc', ms', n', hm, hkd⟩ := mT_ok e1
                rcases hkd with ⟨-, w1, w2, w3⟩ | ⟨h0, -⟩ | ⟨h0, -⟩ | ⟨h0, -⟩
                · obtain ⟨k1, k2, k3, k4, k5⟩ := mis_ok hm
                  have hn : nM mid = n' := by unfold nM; rw [hm]
                  have hcl' : clM mid = cn' := by unfold clM; rw [hm]
                  obtain ⟨r, hr, -⟩ := hsm.2 o _ (wsO_get e3)
                  have hr' : vwCl[ci]? = some (r.1, r.2.1, r.2.2) := hr
                  have hrn : r.1 = y.cls := by rw [k3, ← (cls_ok hr').2.2.2.2.2.2, hc.1, hcl']
                  refine fin _ hm (va_runV (As := ((stk.take (nM mid)).reverse).map (reV base b)) ⟨hexec, hb, hml, hown, hts⟩ (hmet _ _ _ _ _ _ _ _ hm) ⟨callB_of n' hts (TT_ws k1) rfl rfl rfl (hts _ k2) (hts _ w1) k4 (rm hm), hts _ w2, hts _ w3⟩
                    ⟨PcG.blind, ?_, fun U hU hW => ⟨rfl, by rw [hU]; exact hsm, hK.warm hW⟩⟩ rfl (by rw [List.length_map, List.length_reverse, List.length_take]; omega) hl.2.1 (by rw [show (F0 m pc ls (stk.map (reV base b))).stack = stk.map (reV base b) from rfl, hsplit (nM mid), e2]; rfl) (hcat _ hc.2.2) hdg (bud hm))
                  rw [← hrn]
                  exact va_recv hK.1 hsm.2 hr (wsO_get e3)
                · cases h0
                · cases h0
                · cases h0
              · cases ha
            · cases ha
          · cases ha
        · cases ha
      · -- static
        split at ha
        · rename_i idx mid' e1
          split at ha
          · rename_i hc
            cases ha
            obtain ⟨y, c', nL', ret', cn', mc', ms', n', hm, hkd⟩ := mT_ok e1
            rcases hkd with ⟨h0, -⟩ | ⟨-, w1, w2⟩ | ⟨h0, -⟩ | ⟨h0, -⟩
            · cases h0
            · obtain ⟨k1, k2, k3, k4, k5⟩ := mis_ok hm
              have hn : nM mid = n' := by unfold nM; rw [hm]
              exact fin _ hm (va_runS (As := ((stk.take (nM mid)).reverse).map (reV base b)) ⟨hexec, hb, hml, hown, hts⟩ (hmet _ _ _ _ _ _ _ _ hm) ⟨callB_of n' hts (TT_ws k1) rfl rfl rfl (hts _ k2) (hts _ w1) k4 (rm hm), hts _ w2⟩
                ⟨PcG.blind, fun U hU hW => ⟨rfl, by rw [hU]; exact hsm, hK.warm hW⟩⟩ rfl (by rw [List.length_map, List.length_reverse, List.length_take]; omega) hl.2.1 (hsplit (nM mid)) (hcat _ hc.2) hdg (bud hm))
            · cases h0
            · cases h0
          · cases ha
        · cases ha
      · -- special
        split at ha
        · rename_i idx _ mid' kd e1
          split at ha
          · rename_i hk23
            split at ha
            · rename_i o rest' e2
              split at ha
              · rename_i hc
                cases ha
                obtain ⟨y, c', nL', ret', cn', mc', ms', n', hm, hkd⟩ := mT_ok e1
                obtain ⟨k1, k2, k3, k4, k5⟩ := mis_ok hm
                have hn : nM mid = n' := by unfold nM; rw [hm]
                have hstk : (F0 m pc ls (stk.map (reV base b))).stack = (((stk.take (nM mid)).reverse).map (reV base b)).reverse ++ .ref (base + o) :: rest.map (reV base b) := by
                  rw [show (F0 m pc ls (stk.map (reV base b))).stack = stk.map (reV base b) from rfl, hsplit (nM mid), e2]; rfl
                rcases hkd with ⟨h0, -⟩ | ⟨h0, -⟩ | ⟨h0, w1, w2, w3, w4⟩ | ⟨h0, w1, w2, w3, w4⟩
                · omega
                · omega
                · subst w4
                  exact fin _ hm (va_runI (As := ((stk.take (nM mid)).reverse).map (reV base b)) ⟨hexec, hb, hml, hown, hts⟩ (hmet _ _ _ _ _ _ _ _ hm) ⟨callB_of n' hts (TT_ws k1) rfl rfl rfl (hts _ k2) (hts _ w1) k4 (rm hm), w3, hts _ w2⟩
                    ⟨PcG.blind, fun U hU hW => ⟨rfl, by rw [hU]; exact hsm, hK.warm hW⟩⟩ rfl (by rw [List.length_map, List.length_reverse, List.length_take]; omega) hl.2.1 hstk (hcat _ hc.2) hdg (bud hm))
                · subst w4
                  have hlk : va_Nw (.methodLinkNest (RR cn) idx y "OvensAbove") s := by
                    obtain ⟨rfl, ⟨rfl, rfl⟩ | ⟨rfl, rfl⟩ | ⟨rfl, rfl⟩⟩ := w1
                    · exact hK.2.2.2.1
                    · exact hK.2.2.2.2.1
                    · exact hK.2.2.2.2.2
                  exact fin _ hm (va_runIN (As := ((stk.take (nM mid)).reverse).map (reV base b)) ⟨hexec, hb, hml, hown, hts⟩ (hmet _ _ _ _ _ _ _ _ hm) ⟨va_cnB n' hts (TT_ws k1) rfl rfl rfl hlk (hts _ k2) k4 (rm hm), w3, hts _ w2⟩
                    ⟨PcG.blind, fun U hU hW => ⟨rfl, by rw [hU]; exact hsm, hK.warm hW⟩⟩ rfl (by rw [List.length_map, List.length_reverse, List.length_take]; omega) hl.2.1 hstk (hcat _ hc.2) hdg (bud hm))
              · cases ha
            · cases ha
          · cases ha
        · cases ha
      · cases ha
    · subst hlen
      exact hret _ _ _ _ _ _ _ _ _ ha hdg h hmc hn1 hn2 hns hsm hS
end GSW
set_option maxHeartbeats 4000000 in
/-- THE GHOST MACHINE IS SOUND: a method's run there is a contract over the machine -/
theorem CallD_Met (l : Launch) (D : va_G) (dA : Nat → ClassId) (base b : Nat) : ∀ (d mid : Nat) (as : List Value) (hp : GH) (Q : Option Value → GH → Prop), CallD d mid as hp Q → MetG l D dA base b d mid as hp Q := by
  intro d
  induction d with
  | zero => intro mid as hp Q h; exact h.elim
  | succ d ih =>
    intro mid as hp Q h y cc nL ret cn mc ms n hm
    obtain ⟨y', cc', nL', ret', cn', mc', ms', n', hm', hal, k, hgo⟩ := h
    cases hm.symm.trans hm'
    obtain ⟨k1, k2, k3, k4, k5⟩ := mis_ok hm
    refine Met.ofW (cc := cc) (maxL := nL) (ret := ret) k5 rfl ?_
    intro p e s m args below meth c s₁ B hml hv
    obtain ⟨rfl, hsm, hK⟩ := hv
    have hx := B.exec
    have hb := B.bytes
    have hr := B.returns
    have hts := atoms_spec (ws := .code y cc nL ret :: TT) B.pre
    have hown : s.vm.findClass (RR cn) = some m.cls := k3 ▸ findClass_of_methodNamed B.named
    have hlocks := B.notSynchronized
    have hin : meth.name = y.name := (name_of_methodNamed B.named B.method).1
    have hl := LH.entry base b (nL := nL) (vs := as) hal
    rw [lg_entry_eq]
    generalize (lg_sl (as.map (reV base b)) ++ List.replicate (nL - (lg_sl (as.map (reV base b))).length) Slot.unset).toArray = ls at hl ⊢
    have hS : va_S (fun q => base ≤ q) s.heap s.heap [] := va_S.rf
    have W0 := GoF_W (Qf := MQ below (QcG D dA base b hp mc Q) (as.map (reV base b)).toArray s mc ms (fun q => base ≤ q)) (R := rmD (d + 1) mc ms) (l := l) (e := e) (p := p) (below := below) (args := (as.map (reV base b)).toArray) hx hb hml (base := base) (b := b) (D := D) (dA := dA) (xs := none) (ini := y.name == "<init>") (n0 := hp.length) (dd := d) hown (fun w hw => hts w (List.mem_cons_of_mem _ hw)) hK (fun h => by rw [hin]; exact eq_of_beq h) (fun l h => by cases h) ⟨Nat.le_refl _, Nat.le_refl _⟩ (Nat.le_refl mc) (Nat.le_refl ms) hsm.1 (fun mid as hp K => ih mid as hp K) ?_ k 0 (gent nL as) [] hp 0 s.heap [] ls hgo hsm hS hl (Nat.le_refl _) (by omega) (by omega)
    · rw [Nat.sub_self] at W0
      exact W0
    · intro pc ls stk hp' ns v H locs ins hg hdg hq hmc hn1 hn2 hns hsm' hS'
      have hlen : hp'.length = hp.length + mc := by rcases hmc with h | h <;> omega
      refine W.widen (k := mc) (n := ms) (by omega) hns ?_
      have post : ∀ t : State, t.heap = H → s.WarmedH t.vm → QcG D dA base b hp mc Q (as.map (reV base b)).toArray s (.returned (v.map (reV base b))) t := fun t ht _ => ⟨⟨v, hp', rfl, hq, by rw [ht]; exact hsm', hlen⟩, hS'.F ht⟩
      unfold gRet at hg
      split at hg
      · split at hg
        · cases hg
          exact W.iret hx hb hr post hS'.2.2 hdg
        · split at hg
          · rename_i h01
            cases hg
            exact W.zret hx hb hr (by rcases h01 with rfl | rfl <;> rfl) post hS'.2.2 hdg
          · cases hg
        · cases hg
      · split at hg
        · cases hg
          exact W.lret hx hb hr post hS'.2.2 hdg
        · cases hg
      · split at hg
        · cases hg
          exact W.vret hx hb hr post hS'.2.2 hdg
        · cases hg
      · cases hg
end
section
/-! THE GHOST HEAP as it is behind the constructors: 280 cells; towers (11 cells each) by their number, others by their place; references stand fast but for the row of towers (P). Printed by wip/whole/gen20.py -/
abbrev SK : Type := (Nat ⊕ Nat) × List (Option Nat)
def skB0 : List SK := [(.inr 11, [some 1, some 3, some 13, some 19, some 30, some 164, some 187, some 199, some 205, some 206, some 243]), (.inr 7, [some 2, none]), (.inl 0, List.replicate 64 none), (.inr 5, [some 4, some 5, some 6, none, none, some 12, none]), (.inl 0, List.replicate 5 none), (.inl 0, List.replicate 5 none), (.inl 3, [some 7, some 8, some 9, some 10, some 11]), (.inl 0, List.replicate 6 none), (.inl 0, List.replicate 6 none), (.inl 0, List.replicate 6 none), (.inl 0, List.replicate 6 none), (.inl 0, List.replicate 6 none), (.inl 1, List.replicate 5 none), (.inr 8, [some 14, some 15, some 16, some 17, some 18, none]), (.inl 0, List.replicate 5 none), (.inl 0, List.replicate 5 none), (.inl 0, List.replicate 5 none), (.inl 0, List.replicate 5 none), (.inl 0, List.replicate 5 none), (.inr 9, [some 20, some 26]), (.inr 2, [some 21, some 22, some 23, some 24, some 25, none, none]), (.inl 0, List.replicate 5 none), (.inl 0, List.replicate 5 none), (.inl 0, List.replicate 5 none), (.inl 0, List.replicate 5 none), (.inl 0, List.replicate 5 none), (.inr 4, [some 27, some 28, some 29, some 13]), (.inl 0, List.replicate 5 none), (.inl 0, List.replicate 5 none), (.inl 0, List.replicate 5 none), (.inr 6, [some 31, none]), (.inl 2, [some 32, some 43, some 54, some 65, some 76, some 87, some 98, some 109, some 120, some 131, some 142, some 153]), (.inr 9, [some 33, some 39]), (.inr 2, [some 34, some 35, some 36, some 37, some 38, none, none]), (.inl 0, List.replicate 5 none), (.inl 0, List.replicate 5 none), (.inl 0, List.replicate 5 none), (.inl 0, List.replicate 5 none), (.inl 0, List.replicate 5 none), (.inr 4, [some 40, some 41, some 42, some 13])]
def skB1 : List SK := [(.inl 0, List.replicate 5 none), (.inl 0, List.replicate 5 none), (.inl 0, List.replicate 5 none), (.inr 9, [some 44, some 50]), (.inr 2, [some 45, some 46, some 47, some 48, some 49, none, none]), (.inl 0, List.replicate 5 none), (.inl 0, List.replicate 5 none), (.inl 0, List.replicate 5 none), (.inl 0, List.replicate 5 none), (.inl 0, List.replicate 5 none), (.inr 4, [some 51, some 52, some 53, some 13]), (.inl 0, List.replicate 5 none), (.inl 0, List.replicate 5 none), (.inl 0, List.replicate 5 none), (.inr 9, [some 55, some 61]), (.inr 2, [some 56, some 57, some 58, some 59, some 60, none, none]), (.inl 0, List.replicate 5 none), (.inl 0, List.replicate 5 none), (.inl 0, List.replicate 5 none), (.inl 0, List.replicate 5 none), (.inl 0, List.replicate 5 none), (.inr 4, [some 62, some 63, some 64, some 13]), (.inl 0, List.replicate 5 none), (.inl 0, List.replicate 5 none), (.inl 0, List.replicate 5 none), (.inr 9, [some 66, some 72]), (.inr 2, [some 67, some 68, some 69, some 70, some 71, none, none]), (.inl 0, List.replicate 5 none), (.inl 0, List.replicate 5 none), (.inl 0, List.replicate 5 none), (.inl 0, List.replicate 5 none), (.inl 0, List.replicate 5 none), (.inr 4, [some 73, some 74, some 75, some 13]), (.inl 0, List.replicate 5 none), (.inl 0, List.replicate 5 none), (.inl 0, List.replicate 5 none), (.inr 9, [some 77, some 83]), (.inr 2, [some 78, some 79, some 80, some 81, some 82, none, none]), (.inl 0, List.replicate 5 none), (.inl 0, List.replicate 5 none)]
def skB2 : List SK := [(.inl 0, List.replicate 5 none), (.inl 0, List.replicate 5 none), (.inl 0, List.replicate 5 none), (.inr 4, [some 84, some 85, some 86, some 13]), (.inl 0, List.replicate 5 none), (.inl 0, List.replicate 5 none), (.inl 0, List.replicate 5 none), (.inr 9, [some 88, some 94]), (.inr 2, [some 89, some 90, some 91, some 92, some 93, none, none]), (.inl 0, List.replicate 5 none), (.inl 0, List.replicate 5 none), (.inl 0, List.replicate 5 none), (.inl 0, List.replicate 5 none), (.inl 0, List.replicate 5 none), (.inr 4, [some 95, some 96, some 97, some 13]), (.inl 0, List.replicate 5 none), (.inl 0, List.replicate 5 none), (.inl 0, List.replicate 5 none), (.inr 9, [some 99, some 105]), (.inr 2, [some 100, some 101, some 102, some 103, some 104, none, none]), (.inl 0, List.replicate 5 none), (.inl 0, List.replicate 5 none), (.inl 0, List.replicate 5 none), (.inl 0, List.replicate 5 none), (.inl 0, List.replicate 5 none), (.inr 4, [some 106, some 107, some 108, some 13]), (.inl 0, List.replicate 5 none), (.inl 0, List.replicate 5 none), (.inl 0, List.replicate 5 none), (.inr 9, [some 110, some 116]), (.inr 2, [some 111, some 112, some 113, some 114, some 115, none, none]), (.inl 0, List.replicate 5 none), (.inl 0, List.replicate 5 none), (.inl 0, List.replicate 5 none), (.inl 0, List.replicate 5 none), (.inl 0, List.replicate 5 none), (.inr 4, [some 117, some 118, some 119, some 13]), (.inl 0, List.replicate 5 none), (.inl 0, List.replicate 5 none), (.inl 0, List.replicate 5 none)]
def skB3 : List SK := [(.inr 9, [some 121, some 127]), (.inr 2, [some 122, some 123, some 124, some 125, some 126, none, none]), (.inl 0, List.replicate 5 none), (.inl 0, List.replicate 5 none), (.inl 0, List.replicate 5 none), (.inl 0, List.replicate 5 none), (.inl 0, List.replicate 5 none), (.inr 4, [some 128, some 129, some 130, some 13]), (.inl 0, List.replicate 5 none), (.inl 0, List.replicate 5 none), (.inl 0, List.replicate 5 none), (.inr 9, [some 132, some 138]), (.inr 2, [some 133, some 134, some 135, some 136, some 137, none, none]), (.inl 0, List.replicate 5 none), (.inl 0, List.replicate 5 none), (.inl 0, List.replicate 5 none), (.inl 0, List.replicate 5 none), (.inl 0, List.replicate 5 none), (.inr 4, [some 139, some 140, some 141, some 13]), (.inl 0, List.replicate 5 none), (.inl 0, List.replicate 5 none), (.inl 0, List.replicate 5 none), (.inr 9, [some 143, some 149]), (.inr 2, [some 144, some 145, some 146, some 147, some 148, none, none]), (.inl 0, List.replicate 5 none), (.inl 0, List.replicate 5 none), (.inl 0, List.replicate 5 none), (.inl 0, List.replicate 5 none), (.inl 0, List.replicate 5 none), (.inr 4, [some 150, some 151, some 152, some 13]), (.inl 0, List.replicate 5 none), (.inl 0, List.replicate 5 none), (.inl 0, List.replicate 5 none), (.inr 9, [some 154, some 160]), (.inr 2, [some 155, some 156, some 157, some 158, some 159, none, none]), (.inl 0, List.replicate 5 none), (.inl 0, List.replicate 5 none), (.inl 0, List.replicate 5 none), (.inl 0, List.replicate 5 none), (.inl 0, List.replicate 5 none)]
def skB4 : List SK := [(.inr 4, [some 161, some 162, some 163, some 13]), (.inl 0, List.replicate 5 none), (.inl 0, List.replicate 5 none), (.inl 0, List.replicate 5 none), (.inl 2, [some 165, some 176]), (.inr 9, [some 166, some 172]), (.inr 2, [some 167, some 168, some 169, some 170, some 171, none, none]), (.inl 0, List.replicate 5 none), (.inl 0, List.replicate 5 none), (.inl 0, List.replicate 5 none), (.inl 0, List.replicate 5 none), (.inl 0, List.replicate 5 none), (.inr 4, [some 173, some 174, some 175, some 13]), (.inl 0, List.replicate 5 none), (.inl 0, List.replicate 5 none), (.inl 0, List.replicate 5 none), (.inr 9, [some 177, some 183]), (.inr 2, [some 178, some 179, some 180, some 181, some 182, none, none]), (.inl 0, List.replicate 5 none), (.inl 0, List.replicate 5 none), (.inl 0, List.replicate 5 none), (.inl 0, List.replicate 5 none), (.inl 0, List.replicate 5 none), (.inr 4, [some 184, some 185, some 186, some 13]), (.inl 0, List.replicate 5 none), (.inl 0, List.replicate 5 none), (.inl 0, List.replicate 5 none), (.inl 1, List.replicate 2 none), (.inr 9, [some 189, some 195]), (.inr 2, [some 190, some 191, some 192, some 193, some 194, none, none]), (.inl 0, List.replicate 5 none), (.inl 0, List.replicate 5 none), (.inl 0, List.replicate 5 none), (.inl 0, List.replicate 5 none), (.inl 0, List.replicate 5 none), (.inr 4, [some 196, some 197, some 198, some 13]), (.inl 0, List.replicate 5 none), (.inl 0, List.replicate 5 none), (.inl 0, List.replicate 5 none), (.inr 0, [some 200, some 201, some 202, some 203, some 204, some 20, some 189, none])]
def skB5 : List SK := [(.inl 0, List.replicate 8 none), (.inl 0, List.replicate 8 none), (.inl 0, List.replicate 8 none), (.inl 0, List.replicate 8 none), (.inl 1, List.replicate 8 none), (.inr 3, [some 19, some 188]), (.inr 10, [some 207, some 19, some 208, some 209, none]), (.inl 0, List.replicate 3 none), (.inl 2, [some 210, some 221, some 232]), (.inl 0, List.replicate 3 none), (.inr 9, [some 211, some 217]), (.inr 2, [some 212, some 213, some 214, some 215, some 216, none, none]), (.inl 0, List.replicate 5 none), (.inl 0, List.replicate 5 none), (.inl 0, List.replicate 5 none), (.inl 0, List.replicate 5 none), (.inl 0, List.replicate 5 none), (.inr 4, [some 218, some 219, some 220, some 13]), (.inl 0, List.replicate 5 none), (.inl 0, List.replicate 5 none), (.inl 0, List.replicate 5 none), (.inr 9, [some 222, some 228]), (.inr 2, [some 223, some 224, some 225, some 226, some 227, none, none]), (.inl 0, List.replicate 5 none), (.inl 0, List.replicate 5 none), (.inl 0, List.replicate 5 none), (.inl 0, List.replicate 5 none), (.inl 0, List.replicate 5 none), (.inr 4, [some 229, some 230, some 231, some 13]), (.inl 0, List.replicate 5 none), (.inl 0, List.replicate 5 none), (.inl 0, List.replicate 5 none), (.inr 9, [some 233, some 239]), (.inr 2, [some 234, some 235, some 236, some 237, some 238, none, none]), (.inl 0, List.replicate 5 none), (.inl 0, List.replicate 5 none), (.inl 0, List.replicate 5 none), (.inl 0, List.replicate 5 none), (.inl 0, List.replicate 5 none), (.inr 4, [some 240, some 241, some 242, some 13])]
def skB6 : List SK := [(.inl 0, List.replicate 5 none), (.inl 0, List.replicate 5 none), (.inl 0, List.replicate 5 none), (.inr 1, [some 244, some 19, some 188, some 13, some 245, some 246, some 247]), (.inl 0, List.replicate 5 none), (.inl 0, List.replicate 5 none), (.inl 0, List.replicate 5 none), (.inl 0, List.replicate 5 none), (.inr 12, [none, some 249, none, none, none, none, some 250, some 251, some 252, some 253, some 254, some 255, some 256, some 257, some 258, some 259, some 260, none, none, none, none, some 261, some 262, some 263, some 264, none, some 265, some 266, some 267, some 268, some 269, some 270, some 271, some 272, none, none, some 273, some 274, some 275, some 276, some 277, some 278, some 279]), (.inl 0, List.replicate 64 none), (.inl 0, List.replicate 5 none), (.inl 0, List.replicate 5 none), (.inl 0, List.replicate 5 none), (.inl 0, List.replicate 5 none), (.inl 0, List.replicate 5 none), (.inl 0, List.replicate 5 none), (.inl 0, List.replicate 5 none), (.inl 0, List.replicate 5 none), (.inl 0, List.replicate 5 none), (.inl 0, List.replicate 5 none), (.inl 0, List.replicate 5 none), (.inl 0, List.replicate 5 none), (.inl 0, List.replicate 5 none), (.inl 0, List.replicate 30 none), (.inl 0, List.replicate 192 none), (.inl 0, List.replicate 72 none), (.inl 1, List.replicate 2 none), (.inl 0, List.replicate 5 none), (.inl 0, List.replicate 5 none), (.inl 0, List.replicate 5 none), (.inl 0, List.replicate 5 none), (.inl 0, List.replicate 5 none), (.inl 0, List.replicate 5 none), (.inl 0, List.replicate 8 none), (.inl 0, List.replicate 8 none), (.inl 0, List.replicate 8 none), (.inl 0, List.replicate 8 none), (.inl 1, List.replicate 8 none), (.inl 0, List.replicate 3 none), (.inl 0, List.replicate 5 none)]
def skB : List SK := skB0 ++ (skB1 ++ (skB2 ++ (skB3 ++ (skB4 ++ (skB5 ++ (skB6))))))
def tyL0 : List (Option (Nat × Nat)) := [none, none, none, none, none, none, none, none, none, none, none, none, none, none, none, none, none, none, none, some (0, 0), some (0, 1), some (0, 2), some (0, 3), some (0, 4), some (0, 5), some (0, 6), some (0, 7), some (0, 8), some (0, 9), some (0, 10), none, none, some (1, 0), some (1, 1), some (1, 2), some (1, 3), some (1, 4), some (1, 5), some (1, 6), some (1, 7)]
def tyL1 : List (Option (Nat × Nat)) := [some (1, 8), some (1, 9), some (1, 10), some (2, 0), some (2, 1), some (2, 2), some (2, 3), some (2, 4), some (2, 5), some (2, 6), some (2, 7), some (2, 8), some (2, 9), some (2, 10), some (3, 0), some (3, 1), some (3, 2), some (3, 3), some (3, 4), some (3, 5), some (3, 6), some (3, 7), some (3, 8), some (3, 9), some (3, 10), some (4, 0), some (4, 1), some (4, 2), some (4, 3), some (4, 4), some (4, 5), some (4, 6), some (4, 7), some (4, 8), some (4, 9), some (4, 10), some (5, 0), some (5, 1), some (5, 2), some (5, 3)]
def tyL2 : List (Option (Nat × Nat)) := [some (5, 4), some (5, 5), some (5, 6), some (5, 7), some (5, 8), some (5, 9), some (5, 10), some (6, 0), some (6, 1), some (6, 2), some (6, 3), some (6, 4), some (6, 5), some (6, 6), some (6, 7), some (6, 8), some (6, 9), some (6, 10), some (7, 0), some (7, 1), some (7, 2), some (7, 3), some (7, 4), some (7, 5), some (7, 6), some (7, 7), some (7, 8), some (7, 9), some (7, 10), some (8, 0), some (8, 1), some (8, 2), some (8, 3), some (8, 4), some (8, 5), some (8, 6), some (8, 7), some (8, 8), some (8, 9), some (8, 10)]
def tyL3 : List (Option (Nat × Nat)) := [some (9, 0), some (9, 1), some (9, 2), some (9, 3), some (9, 4), some (9, 5), some (9, 6), some (9, 7), some (9, 8), some (9, 9), some (9, 10), some (10, 0), some (10, 1), some (10, 2), some (10, 3), some (10, 4), some (10, 5), some (10, 6), some (10, 7), some (10, 8), some (10, 9), some (10, 10), some (11, 0), some (11, 1), some (11, 2), some (11, 3), some (11, 4), some (11, 5), some (11, 6), some (11, 7), some (11, 8), some (11, 9), some (11, 10), some (12, 0), some (12, 1), some (12, 2), some (12, 3), some (12, 4), some (12, 5), some (12, 6)]
def tyL4 : List (Option (Nat × Nat)) := [some (12, 7), some (12, 8), some (12, 9), some (12, 10), none, some (13, 0), some (13, 1), some (13, 2), some (13, 3), some (13, 4), some (13, 5), some (13, 6), some (13, 7), some (13, 8), some (13, 9), some (13, 10), some (14, 0), some (14, 1), some (14, 2), some (14, 3), some (14, 4), some (14, 5), some (14, 6), some (14, 7), some (14, 8), some (14, 9), some (14, 10), none, some (15, 0), some (15, 1), some (15, 2), some (15, 3), some (15, 4), some (15, 5), some (15, 6), some (15, 7), some (15, 8), some (15, 9), some (15, 10), none]
def tyL5 : List (Option (Nat × Nat)) := [none, none, none, none, none, none, none, none, none, none, some (16, 0), some (16, 1), some (16, 2), some (16, 3), some (16, 4), some (16, 5), some (16, 6), some (16, 7), some (16, 8), some (16, 9), some (16, 10), some (17, 0), some (17, 1), some (17, 2), some (17, 3), some (17, 4), some (17, 5), some (17, 6), some (17, 7), some (17, 8), some (17, 9), some (17, 10), some (18, 0), some (18, 1), some (18, 2), some (18, 3), some (18, 4), some (18, 5), some (18, 6), some (18, 7)]
def tyL6 : List (Option (Nat × Nat)) := [some (18, 8), some (18, 9), some (18, 10), none, none, none, none, none, none, none, none, none, none, none, none, none, none, none, none, none, none, none, none, none, none, none, none, none, none, none, none, none, none, none, none, none, none, none, none, none]
def tyL : List (Option (Nat × Nat)) := tyL0 ++ (tyL1 ++ (tyL2 ++ (tyL3 ++ (tyL4 ++ (tyL5 ++ (tyL6))))))

/-- a tower's cell: 0 itself, 1 its kilns, 2 heat, 3 shutter, 4 damper, 5 was, 6 came, 7 its pots, 8 place, 9 has, 10 how; towers: 0 now, 1 .. 12 the row's, 13, 14 the slots', 15 on trial, 16 .. 18 the woods' -/
def tR (t o : Nat) : Nat := (if t = 0 then 19 else if t ≤ 12 then 21 + 11 * t else if t ≤ 14 then 22 + 11 * t else if t = 15 then 188 else 34 + 11 * t) + o
def tyOf (i : Nat) : Option (Nat × Nat) := tyL.getD i none
def skAt (P : Nat → Nat) (i : Nat) : SK := if i = 31 then (.inl 2, (List.range 12).map (fun j => some (tR (P j) 0))) else skB.getD i (.inl 0, [])
def slotVf (g : Int → Int) : Nat → List (Option Nat) → List Value
  | _, [] => []
  | j, some r :: l => .ref r :: slotVf g (j + 1) l
  | j, none :: l => .int (iI (g (j : Int))) :: slotVf g (j + 1) l
def slotV (g : Int → Int) (l : List (Option Nat)) : List Value := slotVf g 0 l
def slotE (g : Int → Int) (j : Nat) (o : Option Nat) : Value := match o with
  | some r => .ref r
  | none => .int (iI (g (j : Int)))
theorem slotVf_get (g : Int → Int) (l : List (Option Nat)) : ∀ (j i : Nat), (slotVf g j l)[i]? = (l[i]?).map (slotE g (j + i)) := by
  induction l with
  | nil => intro j i; simp [slotVf]
  | cons o l ih =>
    intro j i
    cases i with
    | zero => cases o <;> simp [slotVf, slotE]
    | succ i =>
      have h := ih (j + 1) i
      rw [show j + 1 + i = j + (i + 1) by omega] at h
      cases o <;> simpa [slotVf] using h
def cellOf (g : Int → Int) (c : SK) : GC := match c.1 with
  | .inl kd => .inl (kd, slotV g c.2)
  | .inr ci => .inr (ci, slotV g c.2)
def heapF (f : Nat → Int → Int) (P : Nat → Nat) : GH := (List.range 280).map (fun i => cellOf (f i) (skAt P i))
/-- S: the class's cells but the towers; Tw: the towers; M: the reference's -/
def src (S : Nat → Int → Int) (Tw : Nat → Nat → Int → Int) (M : Nat → Int → Int) (i : Nat) : Int → Int := match tyOf i with
  | some (t, o) => Tw t o
  | none => if i < 248 then S i else M (i - 248)
def hO (S : Nat → Int → Int) (Tw : Nat → Nat → Int → Int) (M : Nat → Int → Int) (P : Nat → Nat) : GH := heapF (src S Tw M) P
theorem hO_len {S : Nat → Int → Int} {Tw : Nat → Nat → Int → Int} {M : Nat → Int → Int} {P : Nat → Nat} : (hO S Tw M P).length = 280 := by simp [hO, heapF]
theorem heapF_get {f : Nat → Int → Int} {P : Nat → Nat} {c : Nat} (hc : c < 280) : (heapF f P)[c]? = some (cellOf (f c) (skAt P c)) := by
  unfold heapF
  rw [List.getElem?_map, List.getElem?_range hc]
  rfl
theorem heapF_set {f : Nat → Int → Int} {P : Nat → Nat} {c : Nat} (g : Int → Int) : (heapF f P).set c (cellOf g (skAt P c)) = heapF (fun i => if i = c then g else f i) P := by
  apply List.ext_getElem?
  intro i
  unfold heapF
  rw [List.getElem?_set, List.getElem?_map]
  by_cases hi : c = i
  · subst hi
    rw [if_pos rfl]
    by_cases hc : c < 280
    · rw [List.length_map, List.length_range, if_pos hc, List.getElem?_map, List.getElem?_range hc]
      simp
    · rw [List.length_map, List.length_range, if_neg hc, List.getElem?_map, List.getElem?_eq_none (by simpa using hc)]
      rfl
  · rw [if_neg hi, List.getElem?_map]
    by_cases hc : i < 280
    · rw [List.getElem?_range hc]
      simp [Ne.symm hi]
    · rw [List.getElem?_eq_none (by simpa using hc)]
      rfl
/-- writes -/
def wS (S : Nat → Int → Int) (c : Nat) (j v : Int) : Nat → Int → Int := fun c' j' => if c' = c ∧ j' = j then v else S c' j'
def wT (Tw : Nat → Nat → Int → Int) (t o : Nat) (j v : Int) : Nat → Nat → Int → Int := fun t' o' j' => if t' = t ∧ o' = o ∧ j' = j then v else Tw t' o' j'
/-- whole rows of cells anew -/
def rS (S : Nat → Int → Int) (c : Nat) (g : Int → Int) : Nat → Int → Int := fun c' => if c' = c then g else S c'
def rT (Tw : Nat → Nat → Int → Int) (t o : Nat) (g : Int → Int) : Nat → Nat → Int → Int := fun t' o' => if t' = t ∧ o' = o then g else Tw t' o'
theorem wS_r {S : Nat → Int → Int} {c : Nat} {j v : Int} : rS S c (fun i => if i = j then v else S c i) = wS S c j v := by
  funext c' j'
  unfold rS wS
  by_cases h : c' = c
  · subst h; by_cases h2 : j' = j <;> simp [h2]
  · simp [h]
theorem wT_r {Tw : Nat → Nat → Int → Int} {t o : Nat} {j v : Int} : rT Tw t o (fun i => if i = j then v else Tw t o i) = wT Tw t o j v := by
  funext t' o' j'
  unfold rT wT
  by_cases h : t' = t ∧ o' = o
  · obtain ⟨rfl, rfl⟩ := h; by_cases h2 : j' = j <;> simp [h2]
  · rw [if_neg h, if_neg (fun q => h ⟨q.1, q.2.1⟩)]
def tSk (t o : Nat) : SK := match o with
  | 0 => (.inr 9, [some (tR t 1), some (tR t 7)])
  | 1 => (.inr 2, [some (tR t 2), some (tR t 3), some (tR t 4), some (tR t 5), some (tR t 6), none, none])
  | 7 => (.inr 4, [some (tR t 8), some (tR t 9), some (tR t 10), some 13])
  | _ => (.inl 0, List.replicate 5 none)
def tyB (t o : Nat) : Bool := decide (tyOf (tR t o) = some (t, o)) && decide (tR t o < 248) && decide (tR t o ≠ 31) && decide (skB.getD (tR t o) (.inl 0, []) = tSk t o)
theorem tyB_all : (List.range 19).all (fun t => (List.range 11).all (fun o => tyB t o)) = true := by decide +kernel
theorem tyI_all : (List.range 280).all (fun i => match tyOf i with
  | some (t, o) => decide (tR t o = i)
  | none => true) = true := by decide +kernel
theorem tR_facts {t o : Nat} (ht : t < 19) (ho : o < 11) : tyOf (tR t o) = some (t, o) ∧ tR t o < 248 ∧ tR t o ≠ 31 ∧ skB.getD (tR t o) (.inl 0, []) = tSk t o := by
  have h := List.all_eq_true.mp (List.all_eq_true.mp tyB_all t (List.mem_range.mpr ht)) o (List.mem_range.mpr ho)
  simp only [tyB, Bool.and_eq_true, decide_eq_true_eq] at h
  exact ⟨h.1.1.1, h.1.1.2, h.1.2, h.2⟩
theorem tyL_len : tyL.length ≤ 280 := by decide +kernel
theorem tyOf_inv {i t o : Nat} (h : tyOf i = some (t, o)) : tR t o = i := by
  have hi : i < 280 := by
    refine Nat.lt_of_not_le fun hle => ?_
    unfold tyOf at h
    rw [List.getD_eq_getElem?_getD, List.getElem?_eq_none (Nat.le_trans tyL_len hle)] at h
    cases h
  have h1 := List.all_eq_true.mp tyI_all i (List.mem_range.mpr hi)
  rw [h] at h1
  exact of_decide_eq_true h1
section HO
variable {S : Nat → Int → Int} {Tw : Nat → Nat → Int → Int} {M : Nat → Int → Int} {P : Nat → Nat}
theorem srcT {t o : Nat} (ht : t < 19) (ho : o < 11) : src S Tw M (tR t o) = Tw t o := by
  unfold src
  rw [(tR_facts ht ho).1]
theorem hO_T {t o : Nat} (ht : t < 19) (ho : o < 11) : (hO S Tw M P)[tR t o]? = some (cellOf (Tw t o) (tSk t o)) := by
  obtain ⟨h1, h2, h3, h4⟩ := tR_facts ht ho
  unfold hO
  rw [heapF_get (by omega), srcT ht ho]
  unfold skAt
  rw [if_neg h3, h4]
theorem hO_set {t o : Nat} (ht : t < 19) (ho : o < 11) (g : Int → Int) {c : GC} (hc : c = cellOf g (skAt P (tR t o))) : (hO S Tw M P).set (tR t o) c = hO S (rT Tw t o g) M P := by
  subst hc
  unfold hO
  rw [heapF_set]
  congr 1
  funext i
  by_cases hi : i = tR t o
  · subst hi
    rw [if_pos rfl, srcT ht ho]
    unfold rT
    rw [if_pos ⟨rfl, rfl⟩]
  · rw [if_neg hi]
    unfold src
    cases hy : tyOf i with
    | none => rfl
    | some q =>
      obtain ⟨t', o'⟩ := q
      show Tw t' o' = rT Tw t o g t' o'
      unfold rT
      rw [if_neg (fun q => hi (by obtain ⟨rfl, rfl⟩ := q; exact (tyOf_inv hy).symm))]
theorem hO_setS {c : Nat} (hc : c < 248) (hy : tyOf c = none) (g : Int → Int) {x : GC} (hx : x = cellOf g (skAt P c)) : (hO S Tw M P).set c x = hO (rS S c g) Tw M P := by
  subst hx
  unfold hO
  rw [heapF_set]
  congr 1
  funext i
  unfold src
  by_cases hi : i = c
  · subst hi
    rw [if_pos rfl, hy]
    simp only [if_pos hc, rS, if_true]
  · rw [if_neg hi]
    cases hz : tyOf i with
    | some q => rfl
    | none =>
      by_cases h2 : i < 248
      · simp only [if_pos h2, rS, if_neg hi]
      · simp only [if_neg h2]
theorem hO_setM {c : Nat} (hc : 248 ≤ c) (hy : tyOf c = none) (g : Int → Int) {x : GC} (hx : x = cellOf g (skAt P c)) : (hO S Tw M P).set c x = hO S Tw (rS M (c - 248) g) P := by
  subst hx
  unfold hO
  rw [heapF_set]
  congr 1
  funext i
  unfold src
  by_cases hi : i = c
  · subst hi
    rw [if_pos rfl, hy]
    simp only [if_neg (Nat.not_lt.mpr hc), rS, if_true]
  · rw [if_neg hi]
    cases hz : tyOf i with
    | some q => rfl
    | none =>
      by_cases h2 : i < 248
      · simp only [if_pos h2]
      · simp only [if_neg h2, rS]
        rw [if_neg (fun q => hi (by omega))]
theorem hO_S {c : Nat} (hc : c < 248) (hy : tyOf c = none) : (hO S Tw M P)[c]? = some (cellOf (S c) (skAt P c)) := by
  unfold hO
  rw [heapF_get (by omega)]
  unfold src
  rw [hy]
  simp only [if_pos hc]
theorem hO_M {c : Nat} (hc : 248 ≤ c) (hc2 : c < 280) (hy : tyOf c = none) : (hO S Tw M P)[c]? = some (cellOf (M (c - 248)) (skAt P c)) := by
  unfold hO
  rw [heapF_get hc2]
  unfold src
  rw [hy]
  simp only [if_neg (Nat.not_lt.mpr hc)]
/-- n ints -/
def vec (n : Nat) (g : Int → Int) : List Value := (List.range n).map (fun (j : Nat) => .int (iI (g j)))
theorem slotV_vec (n : Nat) (g : Int → Int) : slotV g (List.replicate n none) = vec n g := by
  apply List.ext_getElem?
  intro i
  unfold slotV vec
  rw [slotVf_get, List.getElem?_map, List.getElem?_replicate]
  by_cases h : i < n
  · rw [if_pos h, List.getElem?_range h]
    simp [slotE]
  · rw [if_neg h, List.getElem?_eq_none (by simpa using h)]; rfl
theorem vec_len {n : Nat} {g : Int → Int} : (vec n g).length = n := by simp [vec]
theorem vec_get {n : Nat} {g : Int → Int} {e : Int} (h0 : 0 ≤ e) (h1 : e < n) : (vec n g)[e.toNat]? = some (.int (iI (g e))) := by
  unfold vec
  rw [List.getElem?_map, List.getElem?_range (by omega)]
  simp only [Option.map_some]
  rw [show ((e.toNat : Nat) : Int) = e by omega]
theorem vec_set {n : Nat} {g : Int → Int} {e v : Int} (h0 : 0 ≤ e) (h1 : e < n) : (vec n g).set e.toNat (.int (iI v)) = vec n (fun i => if i = e then v else g i) := by
  apply List.ext_getElem?
  intro i
  rw [List.getElem?_set]
  unfold vec
  by_cases hi : e.toNat = i
  · subst hi
    rw [if_pos rfl, List.length_map, List.length_range, if_pos (by omega), List.getElem?_map, List.getElem?_range (by omega)]
    simp only [Option.map_some]
    rw [if_pos (by omega)]
  · rw [if_neg hi, List.getElem?_map, List.getElem?_map]
    by_cases h : i < n
    · rw [List.getElem?_range h]
      simp only [Option.map_some]
      rw [if_neg (by omega)]
    · rw [List.getElem?_eq_none (by simpa using h)]
      rfl
end HO
end
section
/-! ROWS OVER THE GHOST MACHINE. G: from here the method returns with Q. Printed by wip/whole/gen21.py -/
def G (xs : Option (List Int32)) (d cn : Nat) (ini : Bool) (ret : Option FieldType) (mc ms n0 : Nat) (cc : ByteArray) (Q : Option Value → GH → Prop) (ns pc : Nat) (loc : GL) (stk : List Value) (hp : GH) : Prop := ∃ k, GoF (CallD d) xs cn ini ret mc ms n0 cc Q k pc loc stk hp ns
theorem GoF_mono {call : Nat → List Value → GH → (Option Value → GH → Prop) → Prop} (hc : ∀ mid as hp (Q Q' : Option Value → GH → Prop), (∀ v h, Q v h → Q' v h) → call mid as hp Q → call mid as hp Q') {xs : Option (List Int32)} {cn : Nat} {ini : Bool} {ret : Option FieldType} {mc ms n0 : Nat} {cc : ByteArray} {Q Q' : Option Value → GH → Prop} (hQ : ∀ v h, Q v h → Q' v h) :
    ∀ (k pc : Nat) (loc : GL) (stk : List Value) (hp : GH) (ns : Nat), GoF call xs cn ini ret mc ms n0 cc Q k pc loc stk hp ns → GoF call xs cn ini ret mc ms n0 cc Q' k pc loc stk hp ns := by
  intro k
  induction k with
  | zero => intro pc loc stk hp ns h; exact h.elim
  | succ k ih =>
    intro pc loc stk hp ns h
    obtain ⟨ins, len, hdg, h⟩ := h
    refine ⟨ins, len, hdg, ?_⟩
    rcases h with ⟨stk', ha, hlen, h⟩ | ⟨loc', stk', ha, h⟩ | ⟨t, tk, stk', ha, hlen, h⟩ | ⟨hp', stk', dc, ds, ha, hbud, h⟩ | ⟨mid, as, rest, ha, hlen, hbud, h⟩ | ⟨v, ha, hlen, hmc, h⟩
    · exact Or.inl ⟨stk', ha, hlen, ih _ _ _ _ _ h⟩
    · exact Or.inr (Or.inl ⟨loc', stk', ha, ih _ _ _ _ _ h⟩)
    · exact Or.inr (Or.inr (Or.inl ⟨t, tk, stk', ha, hlen, ih _ _ _ _ _ h⟩))
    · exact Or.inr (Or.inr (Or.inr (Or.inl ⟨hp', stk', dc, ds, ha, hbud, ih _ _ _ _ _ h⟩)))
    · exact Or.inr (Or.inr (Or.inr (Or.inr (Or.inl ⟨mid, as, rest, ha, hlen, hbud, hc _ _ _ _ _ (fun v h' => ih _ _ _ _ _) h⟩))))
    · exact Or.inr (Or.inr (Or.inr (Or.inr (Or.inr ⟨v, ha, hlen, hmc, hQ _ _ h⟩))))
theorem CallD_mono : ∀ (d mid : Nat) (as : List Value) (hp : GH) (Q Q' : Option Value → GH → Prop), (∀ v h, Q v h → Q' v h) → CallD d mid as hp Q → CallD d mid as hp Q' := by
  intro d
  induction d with
  | zero => intro mid as hp Q Q' _ h; exact h.elim
  | succ d ih =>
    intro mid as hp Q Q' hQ h
    obtain ⟨y, cc, nL, ret, cn, mc, ms, n, hm, hl, k, hg⟩ := h
    exact ⟨y, cc, nL, ret, cn, mc, ms, n, hm, hl, k, GoF_mono ih hQ k _ _ _ _ _ hg⟩
theorem GoF_ex {call : Nat → List Value → GH → (Option Value → GH → Prop) → Prop} (hm : ∀ mid as hp (Q Q' : Option Value → GH → Prop), (∀ v h, Q v h → Q' v h) → call mid as hp Q → call mid as hp Q') (hc : ∀ mid as hp (R : Nat → Option Value → GH → Prop), call mid as hp (fun v h => ∃ k, R k v h) → ∃ k, call mid as hp (R k))
    {xs : Option (List Int32)} {cn : Nat} {ini : Bool} {ret : Option FieldType} {mc ms n0 : Nat} {cc : ByteArray} {R : Nat → Option Value → GH → Prop} :
    ∀ (k pc : Nat) (loc : GL) (stk : List Value) (hp : GH) (ns : Nat), GoF call xs cn ini ret mc ms n0 cc (fun v h => ∃ j, R j v h) k pc loc stk hp ns → ∃ j, GoF call xs cn ini ret mc ms n0 cc (R j) k pc loc stk hp ns := by
  intro k
  induction k with
  | zero => intro pc loc stk hp ns h; exact h.elim
  | succ k ih =>
    intro pc loc stk hp ns h
    obtain ⟨ins, len, hdg, h⟩ := h
    rcases h with ⟨stk', ha, hlen, h⟩ | ⟨loc', stk', ha, h⟩ | ⟨t, tk, stk', ha, hlen, h⟩ | ⟨hp', stk', dc, ds, ha, hbud, h⟩ | ⟨mid, as, rest, ha, hlen, hbud, h⟩ | ⟨v, ha, hlen, hmc, h⟩
    · obtain ⟨j, h⟩ := ih _ _ _ _ _ h
      exact ⟨j, ins, len, hdg, Or.inl ⟨stk', ha, hlen, h⟩⟩
    · obtain ⟨j, h⟩ := ih _ _ _ _ _ h
      exact ⟨j, ins, len, hdg, Or.inr (Or.inl ⟨loc', stk', ha, h⟩)⟩
    · obtain ⟨j, h⟩ := ih _ _ _ _ _ h
      exact ⟨j, ins, len, hdg, Or.inr (Or.inr (Or.inl ⟨t, tk, stk', ha, hlen, h⟩))⟩
    · obtain ⟨j, h⟩ := ih _ _ _ _ _ h
      exact ⟨j, ins, len, hdg, Or.inr (Or.inr (Or.inr (Or.inl ⟨hp', stk', dc, ds, ha, hbud, h⟩)))⟩
    · obtain ⟨j, h⟩ := hc _ _ _ (fun j v hp' => GoF call xs cn ini ret mc ms n0 cc (R j) k (pc + 3) loc (v.toList ++ rest) hp' (ns + sM mid)) (hm _ _ _ _ _ (fun v h' => ih _ _ _ _ _) h)
      exact ⟨j, ins, len, hdg, Or.inr (Or.inr (Or.inr (Or.inr (Or.inl ⟨mid, as, rest, ha, hlen, hbud, h⟩))))⟩
    · obtain ⟨j, h⟩ := h
      exact ⟨j, ins, len, hdg, Or.inr (Or.inr (Or.inr (Or.inr (Or.inr ⟨v, ha, hlen, hmc, h⟩))))⟩
theorem CallD_ex : ∀ (d mid : Nat) (as : List Value) (hp : GH) (R : Nat → Option Value → GH → Prop), CallD d mid as hp (fun v h => ∃ k, R k v h) → ∃ k, CallD d mid as hp (R k) := by
  intro d
  induction d with
  | zero => intro mid as hp R h; exact h.elim
  | succ d ih =>
    intro mid as hp R h
    obtain ⟨y, cc, nL, ret, cn, mc, ms, n, hm, hl, k, hg⟩ := h
    obtain ⟨j, hg⟩ := GoF_ex (CallD_mono d) (fun mid as hp R => ih mid as hp R) k _ _ _ _ _ hg
    exact ⟨j, y, cc, nL, ret, cn, mc, ms, n, hm, hl, k, hg⟩
/-- a number that an int can be -/
abbrev R32 (a : Int) : Prop := -2147483648 ≤ a ∧ a < 2147483648
theorem iI_toInt {a : Int} (h : R32 a) : (iI a).toInt = a := by
  unfold iI
  exact Int32.toInt_ofInt_of_le (by omega) (by omega)
theorem iI_of (x : Int32) : iI x.toInt = x := Int32.ofInt_toInt x
theorem R32_of (x : Int32) : R32 x.toInt := ⟨by have := Int32.le_toInt x; omega, by have := Int32.toInt_lt x; omega⟩
theorem iI_add (a b : Int) : iI a + iI b = iI (a + b) := (Int32.ofInt_add a b).symm
theorem iI_sub (a b : Int) : iI a - iI b = iI (a - b) := (Int32.ofInt_sub a b).symm
theorem iI_mul (a b : Int) : iI a * iI b = iI (a * b) := (Int32.ofInt_mul a b).symm
theorem iI_neg (a : Int) : -iI a = iI (-a) := (Int32.ofInt_neg a).symm
theorem iI_lt {a b : Int} (ha : R32 a) (hb : R32 b) : iI a < iI b ↔ a < b := by rw [Int32.lt_iff_toInt_lt, iI_toInt ha, iI_toInt hb]
theorem iI_le {a b : Int} (ha : R32 a) (hb : R32 b) : iI a ≤ iI b ↔ a ≤ b := by rw [Int32.le_iff_toInt_le, iI_toInt ha, iI_toInt hb]
theorem iI_inj {a b : Int} (ha : R32 a) (hb : R32 b) : iI a = iI b ↔ a = b := by
  constructor
  · intro h
    have := congrArg Int32.toInt h
    rwa [iI_toInt ha, iI_toInt hb] at this
  · intro h; rw [h]
theorem iI_0 : iI 0 = 0 := by decide
theorem iI_div {a b : Int} (ha : R32 a) (h0 : 0 ≤ a) (hb : R32 b) (hb0 : 0 < b) : iI a / iI b = iI (a / b) := by
  apply Int32.toInt_inj.mp
  have h1 : 0 ≤ a / b := Int.ediv_nonneg h0 (by omega)
  have h2 : a / b ≤ a := Int.ediv_le_self _ h0
  rw [Int32.toInt_div_of_ne_left _ _ (by intro q; have := congrArg Int32.toInt q; rw [iI_toInt ha, Int32.toInt_minValue] at this; omega), iI_toInt ha, iI_toInt hb, iI_toInt ⟨by omega, by omega⟩, Int.tdiv_eq_ediv_of_nonneg h0]
theorem iI_ne0 {b : Int} (hb : R32 b) (h : b ≠ 0) : ¬ iI b = 0 := by
  rw [← iI_0, iI_inj hb ⟨by omega, by omega⟩]
  exact h
theorem ix_iI {e : Int} {n : Nat} (h0 : 0 ≤ e) (h1 : e < n) (hn : n < 1000000) : ix (iI e) n = some e.toNat := by
  have h2 : (iI e).toInt = e := iI_toInt ⟨by omega, by omega⟩
  unfold ix
  rw [h2, if_pos ⟨h0, h1⟩]
section GR
variable {xs : Option (List Int32)} {d cn : Nat} {ini : Bool} {ret : Option FieldType} {mc ms n0 : Nat} {cc : ByteArray} {Q : Option Value → GH → Prop} {ns pc : Nat} {loc : GL} {stk st : List Value} {hp : GH}
theorem g_s {ins : Instr} {len pc' : Nat} {stk' : List Value} (hd : decode cc pc = .ok (ins, len)) (ha : gAlu ins stk = some stk') (hl : len = gLen ins) (hp' : pc + len = pc') (k : G xs d cn ini ret mc ms n0 cc Q ns pc' loc stk' hp) : G xs d cn ini ret mc ms n0 cc Q ns pc loc stk hp := by
  subst hp'
  obtain ⟨k, h⟩ := k
  exact ⟨k + 1, ins, len, hd, Or.inl ⟨stk', ha, hl, h⟩⟩
theorem g_l {ins : Instr} {len pc' : Nat} {loc' : GL} {stk' : List Value} (hd : decode cc pc = .ok (ins, len)) (ha : gLoc ins loc stk = some (loc', stk', len)) (hp' : pc + len = pc') (k : G xs d cn ini ret mc ms n0 cc Q ns pc' loc' stk' hp) : G xs d cn ini ret mc ms n0 cc Q ns pc loc stk hp := by
  subst hp'
  obtain ⟨k, h⟩ := k
  exact ⟨k + 1, ins, len, hd, Or.inr (Or.inl ⟨loc', stk', ha, h⟩)⟩
theorem g_iinc {i : Nat} {n a : Int} {pc' : Nat} {loc' : GL} (hd : decode cc pc = .ok (.iinc i n, 3)) (ha : loc[i]? = some (some (.int (iI a)))) (hl : gset1 loc i (.int (iI (a + n))) = loc') (hp' : pc + 3 = pc') (k : G xs d cn ini ret mc ms n0 cc Q ns pc' loc' stk hp) : G xs d cn ini ret mc ms n0 cc Q ns pc loc stk hp := by
  refine g_l (ins := .iinc i n) (stk' := stk) hd ?_ hp' k
  unfold gLoc
  simp only [ha]
  rw [iI_add, hl]
theorem g_br {ins : Instr} {len t : Nat} {tk : Bool} {stk' : List Value} (hd : decode cc pc = .ok (ins, len)) (ha : gBr ins pc stk = some (t, tk, stk')) (hl : gThree ins len = true) (k : G xs d cn ini ret mc ms n0 cc Q ns (if tk = true then t else pc + 3) loc stk' hp) : G xs d cn ini ret mc ms n0 cc Q ns pc loc stk hp := by
  obtain ⟨k, h⟩ := k
  exact ⟨k + 1, ins, len, hd, Or.inr (Or.inr (Or.inl ⟨t, tk, stk', ha, hl, h⟩))⟩
theorem gTo_of {pc t : Nat} {off : Int} (h : (pc : Int) + off = (t : Int)) : gTo pc off = some t := by
  unfold gTo
  rw [if_pos (by omega), h]
  rfl
theorem g_goto {off : Int} {t : Nat} (hd : decode cc pc = .ok (.goto off, 3)) (ht : (pc : Int) + off = (t : Int)) (k : G xs d cn ini ret mc ms n0 cc Q ns t loc stk hp) : G xs d cn ini ret mc ms n0 cc Q ns pc loc stk hp :=
  g_br (t := t) (tk := true) (stk' := stk) hd (by unfold gBr; simp only [gTo_of ht, Option.map_some]) rfl k
theorem g_hp {ins : Instr} {len pc' : Nat} {hp' : GH} {stk' : List Value} (hd : decode cc pc = .ok (ins, len)) (ha : gHp xs cn ini ins hp stk = some (hp', stk', len, 0, 0)) (hpc : pc + len = pc') (k : G xs d cn ini ret mc ms n0 cc Q ns pc' loc stk' hp') : G xs d cn ini ret mc ms n0 cc Q ns pc loc stk hp := by
  subst hpc
  obtain ⟨k, h⟩ := k
  exact ⟨k + 1, ins, len, hd, Or.inr (Or.inr (Or.inr (Or.inl ⟨hp', stk', 0, 0, ha, Or.inl ⟨rfl, rfl⟩, h⟩)))⟩
theorem g_call {ins : Instr} {mid pc' : Nat} {as rest : List Value} (hd : decode cc pc = .ok (ins, 3)) (hg : gCall cn ins hp stk = some (mid, as, rest)) (hz : cM mid = 0 ∧ sM mid = 0) (hpc : pc + 3 = pc') (k : CallD d mid as hp (fun v hp' => G xs d cn ini ret mc ms n0 cc Q ns pc' loc (v.toList ++ rest) hp')) : G xs d cn ini ret mc ms n0 cc Q ns pc loc stk hp := by
  subst hpc
  obtain ⟨k, h⟩ := CallD_ex d mid as hp (fun k v hp' => GoF (CallD d) xs cn ini ret mc ms n0 cc Q k (pc + 3) loc (v.toList ++ rest) hp' ns) k
  exact ⟨k + 1, ins, 3, hd, Or.inr (Or.inr (Or.inr (Or.inr (Or.inl ⟨mid, as, rest, hg, rfl, Or.inl hz, by rw [hz.2]; exact h⟩))))⟩
theorem g_ret {ins : Instr} {v : Option Value} (hd : decode cc pc = .ok (ins, 1)) (hg : gRet ret ins stk = some v) (hm : mc = 0 ∨ hp.length = n0 + mc) (hq : Q v hp) : G xs d cn ini ret mc ms n0 cc Q ns pc loc stk hp :=
  ⟨1, ins, 1, hd, Or.inr (Or.inr (Or.inr (Or.inr (Or.inr ⟨v, hg, rfl, hm, hq⟩))))⟩
theorem g_enter {mid : Nat} {y : MethodName} {nL : Nat} {n : Nat} {as : List Value} {loc : GL} (hm : mis[mid]? = some (y, cc, nL, ret, cn, mc, ms, n)) (hi : (y.name == "<init>") = ini) (hl : (gargs as).length ≤ nL) (hg : gent nL as = loc) (k : G none d cn ini ret mc ms hp.length cc Q 0 0 loc [] hp) : CallD (d + 1) mid as hp Q := by
  subst hi hg
  obtain ⟨k, h⟩ := k
  exact ⟨y, cc, nL, ret, cn, mc, ms, n, hm, hl, k, h⟩
theorem g_iconst {n : Int} {pc' : Nat} (hd : decode cc pc = .ok (.iconst n, 1)) (hpc : pc + 1 = pc') (k : G xs d cn ini ret mc ms n0 cc Q ns pc' loc (.int (iI n) :: stk) hp) : G xs d cn ini ret mc ms n0 cc Q ns pc loc stk hp := g_s hd rfl rfl hpc k
theorem g_bipush {n : Int} {pc' : Nat} (hd : decode cc pc = .ok (.bipush n, 2)) (hn : -128 ≤ n ∧ n < 128) (hpc : pc + 2 = pc') (k : G xs d cn ini ret mc ms n0 cc Q ns pc' loc (.int (iI n) :: stk) hp) : G xs d cn ini ret mc ms n0 cc Q ns pc loc stk hp := g_s hd (by unfold gAlu; simp only [if_pos hn]) rfl hpc k
theorem g_sipush {n : Int} {pc' : Nat} (hd : decode cc pc = .ok (.sipush n, 3)) (hn : -32768 ≤ n ∧ n < 32768) (hpc : pc + 3 = pc') (k : G xs d cn ini ret mc ms n0 cc Q ns pc' loc (.int (iI n) :: stk) hp) : G xs d cn ini ret mc ms n0 cc Q ns pc loc stk hp := g_s hd (by unfold gAlu; simp only [if_pos hn]) rfl hpc k
theorem g_iadd {a b : Int} {pc' : Nat} (hd : decode cc pc = .ok (.iadd, 1)) (hpc : pc + 1 = pc') (k : G xs d cn ini ret mc ms n0 cc Q ns pc' loc (.int (iI (a + b)) :: st) hp) : G xs d cn ini ret mc ms n0 cc Q ns pc loc (.int (iI b) :: .int (iI a) :: st) hp := g_s hd (by unfold gAlu; simp only [iI_add]) rfl hpc k
theorem g_isub {a b : Int} {pc' : Nat} (hd : decode cc pc = .ok (.isub, 1)) (hpc : pc + 1 = pc') (k : G xs d cn ini ret mc ms n0 cc Q ns pc' loc (.int (iI (a - b)) :: st) hp) : G xs d cn ini ret mc ms n0 cc Q ns pc loc (.int (iI b) :: .int (iI a) :: st) hp := g_s hd (by unfold gAlu; simp only [iI_sub]) rfl hpc k
theorem g_imul {a b : Int} {pc' : Nat} (hd : decode cc pc = .ok (.imul, 1)) (hpc : pc + 1 = pc') (k : G xs d cn ini ret mc ms n0 cc Q ns pc' loc (.int (iI (a * b)) :: st) hp) : G xs d cn ini ret mc ms n0 cc Q ns pc loc (.int (iI b) :: .int (iI a) :: st) hp := g_s hd (by unfold gAlu; simp only [iI_mul]) rfl hpc k
theorem g_ineg {a : Int} {pc' : Nat} (hd : decode cc pc = .ok (.ineg, 1)) (hpc : pc + 1 = pc') (k : G xs d cn ini ret mc ms n0 cc Q ns pc' loc (.int (iI (-a)) :: st) hp) : G xs d cn ini ret mc ms n0 cc Q ns pc loc (.int (iI a) :: st) hp := g_s hd (by unfold gAlu; simp only [iI_neg]) rfl hpc k
theorem g_idiv {a b : Int} {pc' : Nat} (hd : decode cc pc = .ok (.idiv, 1)) (ha : 0 ≤ a ∧ a < 2147483648) (hb : 0 < b ∧ b < 2147483648) (hpc : pc + 1 = pc') (k : G xs d cn ini ret mc ms n0 cc Q ns pc' loc (.int (iI (a / b)) :: st) hp) : G xs d cn ini ret mc ms n0 cc Q ns pc loc (.int (iI b) :: .int (iI a) :: st) hp := g_s hd (by unfold gAlu; simp only [if_neg (iI_ne0 (b := b) ⟨by omega, by omega⟩ (by omega)), iI_div (a := a) (b := b) ⟨by omega, by omega⟩ ha.1 ⟨by omega, by omega⟩ hb.1]) rfl hpc k
theorem g_irem {a b : Int} {pc' : Nat} (hd : decode cc pc = .ok (.irem, 1)) (ha : 0 ≤ a ∧ a < 2147483648) (hb : 0 < b ∧ b < 2147483648) (hpc : pc + 1 = pc') (k : G xs d cn ini ret mc ms n0 cc Q ns pc' loc (.int (iI (a % b)) :: st) hp) : G xs d cn ini ret mc ms n0 cc Q ns pc loc (.int (iI b) :: .int (iI a) :: st) hp := g_s hd (by unfold gAlu; simp only [if_neg (iI_ne0 (b := b) ⟨by omega, by omega⟩ (by omega)), iI_div (a := a) (b := b) ⟨by omega, by omega⟩ ha.1 ⟨by omega, by omega⟩ hb.1, iI_mul, iI_sub]; rw [show a - a / b * b = a % b by have := Int.emod_add_mul_ediv a b; rw [Int.mul_comm]; omega]) rfl hpc k
/-- bits, as numbers -/
def bAnd (a b : Int) : Int := (iI a &&& iI b).toInt
def bOr (a b : Int) : Int := (iI a ||| iI b).toInt
def bShl (a b : Int) : Int := (iI a <<< (iI b &&& 31)).toInt
def bShr (a b : Int) : Int := (iI a >>> (iI b &&& 31)).toInt
theorem g_iand {a b : Int} {pc' : Nat} (hd : decode cc pc = .ok (.iand, 1)) (hpc : pc + 1 = pc') (k : G xs d cn ini ret mc ms n0 cc Q ns pc' loc (.int (iI (bAnd a b)) :: st) hp) : G xs d cn ini ret mc ms n0 cc Q ns pc loc (.int (iI b) :: .int (iI a) :: st) hp := g_s hd (by unfold gAlu bAnd; simp only [iI_of]) rfl hpc k
theorem g_ior {a b : Int} {pc' : Nat} (hd : decode cc pc = .ok (.ior, 1)) (hpc : pc + 1 = pc') (k : G xs d cn ini ret mc ms n0 cc Q ns pc' loc (.int (iI (bOr a b)) :: st) hp) : G xs d cn ini ret mc ms n0 cc Q ns pc loc (.int (iI b) :: .int (iI a) :: st) hp := g_s hd (by unfold gAlu bOr; simp only [iI_of]) rfl hpc k
theorem g_ishl {a b : Int} {pc' : Nat} (hd : decode cc pc = .ok (.ishl, 1)) (hpc : pc + 1 = pc') (k : G xs d cn ini ret mc ms n0 cc Q ns pc' loc (.int (iI (bShl a b)) :: st) hp) : G xs d cn ini ret mc ms n0 cc Q ns pc loc (.int (iI b) :: .int (iI a) :: st) hp := g_s hd (by unfold gAlu bShl; simp only [iI_of]) rfl hpc k
theorem g_ishr {a b : Int} {pc' : Nat} (hd : decode cc pc = .ok (.ishr, 1)) (hpc : pc + 1 = pc') (k : G xs d cn ini ret mc ms n0 cc Q ns pc' loc (.int (iI (bShr a b)) :: st) hp) : G xs d cn ini ret mc ms n0 cc Q ns pc loc (.int (iI b) :: .int (iI a) :: st) hp := g_s hd (by unfold gAlu bShr; simp only [iI_of]) rfl hpc k
theorem R_bAnd {a b : Int} : R32 (bAnd a b) := R32_of _
theorem R_bOr {a b : Int} : R32 (bOr a b) := R32_of _
theorem R_bShl {a b : Int} : R32 (bShl a b) := R32_of _
theorem R_bShr {a b : Int} : R32 (bShr a b) := R32_of _
theorem g_icmp_eq {a b off : Int} {t pc' : Nat} (hd : decode cc pc = .ok (.if_icmp .eq off, 3)) (ht : (pc : Int) + off = (t : Int)) (hpc : pc + 3 = pc') (ha : R32 a) (hb : R32 b) (kt : a = b → G xs d cn ini ret mc ms n0 cc Q ns t loc st hp) (kf : ¬ a = b → G xs d cn ini ret mc ms n0 cc Q ns pc' loc st hp) : G xs d cn ini ret mc ms n0 cc Q ns pc loc (.int (iI b) :: .int (iI a) :: st) hp := by
  subst hpc
  refine g_br (t := t) (tk := decide (a = b)) (stk' := st) hd ?_ rfl ?_
  · unfold gBr gCmp
    simp only [gTo_of ht, Option.map_some]
    rw [decide_eq_decide.mpr (iI_inj ha hb)]
  · by_cases h : a = b
    · rw [if_pos (decide_eq_true h)]; exact kt h
    · rw [if_neg (by simpa using h)]; exact kf (by omega)
theorem g_if_eq {a off : Int} {t pc' : Nat} (hd : decode cc pc = .ok (.ifCond .eq off, 3)) (ht : (pc : Int) + off = (t : Int)) (hpc : pc + 3 = pc') (ha : R32 a) (kt : a = 0 → G xs d cn ini ret mc ms n0 cc Q ns t loc st hp) (kf : ¬ a = 0 → G xs d cn ini ret mc ms n0 cc Q ns pc' loc st hp) : G xs d cn ini ret mc ms n0 cc Q ns pc loc (.int (iI a) :: st) hp := by
  subst hpc
  have hb : R32 0 := ⟨by omega, by omega⟩
  refine g_br (t := t) (tk := decide (a = 0)) (stk' := st) hd ?_ rfl ?_
  · unfold gBr gCmp
    simp only [gTo_of ht, Option.map_some, ← iI_0]
    rw [decide_eq_decide.mpr (iI_inj ha hb)]
  · by_cases h : a = 0
    · rw [if_pos (decide_eq_true h)]; exact kt h
    · rw [if_neg (by simpa using h)]; exact kf (by omega)
theorem g_icmp_ne {a b off : Int} {t pc' : Nat} (hd : decode cc pc = .ok (.if_icmp .ne off, 3)) (ht : (pc : Int) + off = (t : Int)) (hpc : pc + 3 = pc') (ha : R32 a) (hb : R32 b) (kt : ¬ a = b → G xs d cn ini ret mc ms n0 cc Q ns t loc st hp) (kf : a = b → G xs d cn ini ret mc ms n0 cc Q ns pc' loc st hp) : G xs d cn ini ret mc ms n0 cc Q ns pc loc (.int (iI b) :: .int (iI a) :: st) hp := by
  subst hpc
  refine g_br (t := t) (tk := decide (¬ a = b)) (stk' := st) hd ?_ rfl ?_
  · unfold gBr gCmp
    simp only [gTo_of ht, Option.map_some]
    rw [decide_eq_decide.mpr (not_congr (iI_inj ha hb))]
  · by_cases h : ¬ a = b
    · rw [if_pos (decide_eq_true h)]; exact kt h
    · rw [if_neg (by simpa using h)]; exact kf (by omega)
theorem g_if_ne {a off : Int} {t pc' : Nat} (hd : decode cc pc = .ok (.ifCond .ne off, 3)) (ht : (pc : Int) + off = (t : Int)) (hpc : pc + 3 = pc') (ha : R32 a) (kt : ¬ a = 0 → G xs d cn ini ret mc ms n0 cc Q ns t loc st hp) (kf : a = 0 → G xs d cn ini ret mc ms n0 cc Q ns pc' loc st hp) : G xs d cn ini ret mc ms n0 cc Q ns pc loc (.int (iI a) :: st) hp := by
  subst hpc
  have hb : R32 0 := ⟨by omega, by omega⟩
  refine g_br (t := t) (tk := decide (¬ a = 0)) (stk' := st) hd ?_ rfl ?_
  · unfold gBr gCmp
    simp only [gTo_of ht, Option.map_some, ← iI_0]
    rw [decide_eq_decide.mpr (not_congr (iI_inj ha hb))]
  · by_cases h : ¬ a = 0
    · rw [if_pos (decide_eq_true h)]; exact kt h
    · rw [if_neg (by simpa using h)]; exact kf (by omega)
theorem g_icmp_lt {a b off : Int} {t pc' : Nat} (hd : decode cc pc = .ok (.if_icmp .lt off, 3)) (ht : (pc : Int) + off = (t : Int)) (hpc : pc + 3 = pc') (ha : R32 a) (hb : R32 b) (kt : a < b → G xs d cn ini ret mc ms n0 cc Q ns t loc st hp) (kf : b ≤ a → G xs d cn ini ret mc ms n0 cc Q ns pc' loc st hp) : G xs d cn ini ret mc ms n0 cc Q ns pc loc (.int (iI b) :: .int (iI a) :: st) hp := by
  subst hpc
  refine g_br (t := t) (tk := decide (a < b)) (stk' := st) hd ?_ rfl ?_
  · unfold gBr gCmp
    simp only [gTo_of ht, Option.map_some]
    rw [decide_eq_decide.mpr (iI_lt ha hb)]
  · by_cases h : a < b
    · rw [if_pos (decide_eq_true h)]; exact kt h
    · rw [if_neg (by simpa using h)]; exact kf (by omega)
theorem g_if_lt {a off : Int} {t pc' : Nat} (hd : decode cc pc = .ok (.ifCond .lt off, 3)) (ht : (pc : Int) + off = (t : Int)) (hpc : pc + 3 = pc') (ha : R32 a) (kt : a < 0 → G xs d cn ini ret mc ms n0 cc Q ns t loc st hp) (kf : 0 ≤ a → G xs d cn ini ret mc ms n0 cc Q ns pc' loc st hp) : G xs d cn ini ret mc ms n0 cc Q ns pc loc (.int (iI a) :: st) hp := by
  subst hpc
  have hb : R32 0 := ⟨by omega, by omega⟩
  refine g_br (t := t) (tk := decide (a < 0)) (stk' := st) hd ?_ rfl ?_
  · unfold gBr gCmp
    simp only [gTo_of ht, Option.map_some, ← iI_0]
    rw [decide_eq_decide.mpr (iI_lt ha hb)]
  · by_cases h : a < 0
    · rw [if_pos (decide_eq_true h)]; exact kt h
    · rw [if_neg (by simpa using h)]; exact kf (by omega)
theorem g_icmp_ge {a b off : Int} {t pc' : Nat} (hd : decode cc pc = .ok (.if_icmp .ge off, 3)) (ht : (pc : Int) + off = (t : Int)) (hpc : pc + 3 = pc') (ha : R32 a) (hb : R32 b) (kt : b ≤ a → G xs d cn ini ret mc ms n0 cc Q ns t loc st hp) (kf : a < b → G xs d cn ini ret mc ms n0 cc Q ns pc' loc st hp) : G xs d cn ini ret mc ms n0 cc Q ns pc loc (.int (iI b) :: .int (iI a) :: st) hp := by
  subst hpc
  refine g_br (t := t) (tk := decide (b ≤ a)) (stk' := st) hd ?_ rfl ?_
  · unfold gBr gCmp
    simp only [gTo_of ht, Option.map_some]
    rw [decide_eq_decide.mpr (iI_le hb ha)]
  · by_cases h : b ≤ a
    · rw [if_pos (decide_eq_true h)]; exact kt h
    · rw [if_neg (by simpa using h)]; exact kf (by omega)
theorem g_if_ge {a off : Int} {t pc' : Nat} (hd : decode cc pc = .ok (.ifCond .ge off, 3)) (ht : (pc : Int) + off = (t : Int)) (hpc : pc + 3 = pc') (ha : R32 a) (kt : 0 ≤ a → G xs d cn ini ret mc ms n0 cc Q ns t loc st hp) (kf : a < 0 → G xs d cn ini ret mc ms n0 cc Q ns pc' loc st hp) : G xs d cn ini ret mc ms n0 cc Q ns pc loc (.int (iI a) :: st) hp := by
  subst hpc
  have hb : R32 0 := ⟨by omega, by omega⟩
  refine g_br (t := t) (tk := decide (0 ≤ a)) (stk' := st) hd ?_ rfl ?_
  · unfold gBr gCmp
    simp only [gTo_of ht, Option.map_some, ← iI_0]
    rw [decide_eq_decide.mpr (iI_le hb ha)]
  · by_cases h : 0 ≤ a
    · rw [if_pos (decide_eq_true h)]; exact kt h
    · rw [if_neg (by simpa using h)]; exact kf (by omega)
theorem g_icmp_gt {a b off : Int} {t pc' : Nat} (hd : decode cc pc = .ok (.if_icmp .gt off, 3)) (ht : (pc : Int) + off = (t : Int)) (hpc : pc + 3 = pc') (ha : R32 a) (hb : R32 b) (kt : b < a → G xs d cn ini ret mc ms n0 cc Q ns t loc st hp) (kf : a ≤ b → G xs d cn ini ret mc ms n0 cc Q ns pc' loc st hp) : G xs d cn ini ret mc ms n0 cc Q ns pc loc (.int (iI b) :: .int (iI a) :: st) hp := by
  subst hpc
  refine g_br (t := t) (tk := decide (b < a)) (stk' := st) hd ?_ rfl ?_
  · unfold gBr gCmp
    simp only [gTo_of ht, Option.map_some]
    rw [decide_eq_decide.mpr (iI_lt hb ha)]
  · by_cases h : b < a
    · rw [if_pos (decide_eq_true h)]; exact kt h
    · rw [if_neg (by simpa using h)]; exact kf (by omega)
theorem g_if_gt {a off : Int} {t pc' : Nat} (hd : decode cc pc = .ok (.ifCond .gt off, 3)) (ht : (pc : Int) + off = (t : Int)) (hpc : pc + 3 = pc') (ha : R32 a) (kt : 0 < a → G xs d cn ini ret mc ms n0 cc Q ns t loc st hp) (kf : a ≤ 0 → G xs d cn ini ret mc ms n0 cc Q ns pc' loc st hp) : G xs d cn ini ret mc ms n0 cc Q ns pc loc (.int (iI a) :: st) hp := by
  subst hpc
  have hb : R32 0 := ⟨by omega, by omega⟩
  refine g_br (t := t) (tk := decide (0 < a)) (stk' := st) hd ?_ rfl ?_
  · unfold gBr gCmp
    simp only [gTo_of ht, Option.map_some, ← iI_0]
    rw [decide_eq_decide.mpr (iI_lt hb ha)]
  · by_cases h : 0 < a
    · rw [if_pos (decide_eq_true h)]; exact kt h
    · rw [if_neg (by simpa using h)]; exact kf (by omega)
theorem g_icmp_le {a b off : Int} {t pc' : Nat} (hd : decode cc pc = .ok (.if_icmp .le off, 3)) (ht : (pc : Int) + off = (t : Int)) (hpc : pc + 3 = pc') (ha : R32 a) (hb : R32 b) (kt : a ≤ b → G xs d cn ini ret mc ms n0 cc Q ns t loc st hp) (kf : b < a → G xs d cn ini ret mc ms n0 cc Q ns pc' loc st hp) : G xs d cn ini ret mc ms n0 cc Q ns pc loc (.int (iI b) :: .int (iI a) :: st) hp := by
  subst hpc
  refine g_br (t := t) (tk := decide (a ≤ b)) (stk' := st) hd ?_ rfl ?_
  · unfold gBr gCmp
    simp only [gTo_of ht, Option.map_some]
    rw [decide_eq_decide.mpr (iI_le ha hb)]
  · by_cases h : a ≤ b
    · rw [if_pos (decide_eq_true h)]; exact kt h
    · rw [if_neg (by simpa using h)]; exact kf (by omega)
theorem g_if_le {a off : Int} {t pc' : Nat} (hd : decode cc pc = .ok (.ifCond .le off, 3)) (ht : (pc : Int) + off = (t : Int)) (hpc : pc + 3 = pc') (ha : R32 a) (kt : a ≤ 0 → G xs d cn ini ret mc ms n0 cc Q ns t loc st hp) (kf : 0 < a → G xs d cn ini ret mc ms n0 cc Q ns pc' loc st hp) : G xs d cn ini ret mc ms n0 cc Q ns pc loc (.int (iI a) :: st) hp := by
  subst hpc
  have hb : R32 0 := ⟨by omega, by omega⟩
  refine g_br (t := t) (tk := decide (a ≤ 0)) (stk' := st) hd ?_ rfl ?_
  · unfold gBr gCmp
    simp only [gTo_of ht, Option.map_some, ← iI_0]
    rw [decide_eq_decide.mpr (iI_le ha hb)]
  · by_cases h : a ≤ 0
    · rw [if_pos (decide_eq_true h)]; exact kt h
    · rw [if_neg (by simpa using h)]; exact kf (by omega)
theorem g_getf {ci k idx a : Nat} {fs : List Value} {v : Value} {pc' : Nat} (hd : decode cc pc = .ok (.getfield idx, 3)) (hc : hp[a]? = some (.inr (ci, fs))) (hf : fT cn idx = some (ci, k)) (hv : fs[k]? = some v) (hpc : pc + 3 = pc') (kk : G xs d cn ini ret mc ms n0 cc Q ns pc' loc (v :: st) hp) : G xs d cn ini ret mc ms n0 cc Q ns pc loc (.ref a :: st) hp := by
  refine g_hp (hp' := hp) (stk' := v :: st) hd ?_ hpc kk
  unfold gHp
  simp only [hc, hf, if_true, hv]
theorem g_iald {a n : Nat} {g : Int → Int} {e : Int} {pc' : Nat} (hd : decode cc pc = .ok (.iaload, 1)) (hc : hp[a]? = some (.inl (0, vec n g))) (h0 : 0 ≤ e ∧ e < n) (hn : n < 1000000) (hpc : pc + 1 = pc') (kk : G xs d cn ini ret mc ms n0 cc Q ns pc' loc (.int (iI (g e)) :: st) hp) : G xs d cn ini ret mc ms n0 cc Q ns pc loc (.int (iI e) :: .ref a :: st) hp := by
  refine g_hp (hp' := hp) (stk' := .int (iI (g e)) :: st) hd ?_ hpc kk
  unfold gHp
  simp only [hc, vec_len, ix_iI h0.1 h0.2 hn, vec_get h0.1 h0.2]
theorem g_bald {a n : Nat} {g : Int → Int} {e : Int} {pc' : Nat} (hd : decode cc pc = .ok (.baload, 1)) (hc : hp[a]? = some (.inl (1, vec n g))) (h0 : 0 ≤ e ∧ e < n) (hn : n < 1000000) (hpc : pc + 1 = pc') (kk : G xs d cn ini ret mc ms n0 cc Q ns pc' loc (.int (iI (g e)) :: st) hp) : G xs d cn ini ret mc ms n0 cc Q ns pc loc (.int (iI e) :: .ref a :: st) hp := by
  refine g_hp (hp' := hp) (stk' := .int (iI (g e)) :: st) hd ?_ hpc kk
  unfold gHp
  simp only [hc, vec_len, ix_iI h0.1 h0.2 hn, vec_get h0.1 h0.2]
theorem g_iast {a n : Nat} {g : Int → Int} {e v : Int} {hp' : GH} {pc' : Nat} (hd : decode cc pc = .ok (.iastore, 1)) (hc : hp[a]? = some (.inl (0, vec n g))) (h0 : 0 ≤ e ∧ e < n) (hn : n < 1000000) (hw : hp.set a (.inl (0, vec n (fun i => if i = e then v else g i))) = hp') (hpc : pc + 1 = pc') (kk : G xs d cn ini ret mc ms n0 cc Q ns pc' loc st hp') : G xs d cn ini ret mc ms n0 cc Q ns pc loc (.int (iI v) :: .int (iI e) :: .ref a :: st) hp := by
  subst hw
  refine g_hp (stk' := st) hd ?_ hpc kk
  unfold gHp
  simp only [hc, vec_len, ix_iI h0.1 h0.2 hn, vec_set h0.1 h0.2]
theorem g_bast {a n : Nat} {g : Int → Int} {e v : Int} {hp' : GH} {pc' : Nat} (hd : decode cc pc = .ok (.bastore, 1)) (hc : hp[a]? = some (.inl (1, vec n g))) (h0 : 0 ≤ e ∧ e < n) (hv : v = 0 ∨ v = 1) (hn : n < 1000000) (hw : hp.set a (.inl (1, vec n (fun i => if i = e then v else g i))) = hp') (hpc : pc + 1 = pc') (kk : G xs d cn ini ret mc ms n0 cc Q ns pc' loc st hp') : G xs d cn ini ret mc ms n0 cc Q ns pc loc (.int (iI v) :: .int (iI e) :: .ref a :: st) hp := by
  subst hw
  have h1 : iI v = 0 ∨ iI v = 1 := by rcases hv with rfl | rfl <;> decide
  refine g_hp (stk' := st) hd ?_ hpc kk
  unfold gHp
  simp only [hc, vec_len, ix_iI h0.1 h0.2 hn, vec_set h0.1 h0.2, if_pos h1]
theorem g_aald {a kd : Nat} {vs : List Value} {e : Int} {r : Nat} {pc' : Nat} (hd : decode cc pc = .ok (.aaload, 1)) (hc : hp[a]? = some (.inl (kd, vs))) (hk : kd = 2 ∨ kd = 3) (h0 : 0 ≤ e ∧ e < vs.length) (hn : vs.length < 1000000) (hr : vs[e.toNat]? = some (.ref r)) (hpc : pc + 1 = pc') (kk : G xs d cn ini ret mc ms n0 cc Q ns pc' loc (.ref r :: st) hp) : G xs d cn ini ret mc ms n0 cc Q ns pc loc (.int (iI e) :: .ref a :: st) hp := by
  refine g_hp (hp' := hp) (stk' := .ref r :: st) hd ?_ hpc kk
  unfold gHp
  simp only [hc, if_pos hk, ix_iI h0.1 h0.2 hn, hr]
theorem g_retI {v : Int} (hd : decode cc pc = .ok (.ireturn, 1)) (hr : ret = some .int) (hm : mc = 0) (hq : Q (some (.int (iI v))) hp) : G xs d cn ini ret mc ms n0 cc Q ns pc loc [.int (iI v)] hp := by
  subst hr
  exact g_ret hd rfl (Or.inl hm) hq
theorem g_retZ {v : Int} (hd : decode cc pc = .ok (.ireturn, 1)) (hr : ret = some .boolean) (hm : mc = 0) (hv : v = 0 ∨ v = 1) (hq : Q (some (.int (iI v))) hp) : G xs d cn ini ret mc ms n0 cc Q ns pc loc [.int (iI v)] hp := by
  subst hr
  have h1 : iI v = 0 ∨ iI v = 1 := by rcases hv with rfl | rfl <;> decide
  exact g_ret hd (by unfold gRet; simp only [if_pos h1]) (Or.inl hm) hq
theorem g_retL {v : Int64} (hd : decode cc pc = .ok (.lreturn, 1)) (hr : ret = some .long) (hm : mc = 0) (hq : Q (some (.long v)) hp) : G xs d cn ini ret mc ms n0 cc Q ns pc loc [.long v] hp := by
  subst hr
  exact g_ret hd rfl (Or.inl hm) hq
theorem g_retV (hd : decode cc pc = .ok (.return_, 1)) (hr : ret = none) (hm : mc = 0) (hq : Q none hp) : G xs d cn ini ret mc ms n0 cc Q ns pc loc [] hp := by
  subst hr
  exact g_ret hd rfl (Or.inl hm) hq
end GR
end
section
/-! what stands in the ghost heap's cells, and what writing makes of it; printed by wip/whole/gen22.py -/
section HC
variable {S : Nat → Int → Int} {Tw : Nat → Nat → Int → Int} {M : Nat → Int → Int} {P : Nat → Nat}
theorem hT0 {t : Nat} (ht : t < 19) : (hO S Tw M P)[tR t 0]? = some (.inr (9, [.ref (tR t 1), .ref (tR t 7)])) := hO_T (o := 0) ht (by omega)
theorem hT1 {t : Nat} (ht : t < 19) : (hO S Tw M P)[tR t 1]? = some (.inr (2, [.ref (tR t 2), .ref (tR t 3), .ref (tR t 4), .ref (tR t 5), .ref (tR t 6), .int (iI (Tw t 1 5)), .int (iI (Tw t 1 6))])) := hO_T (o := 1) ht (by omega)
theorem hT7 {t : Nat} (ht : t < 19) : (hO S Tw M P)[tR t 7]? = some (.inr (4, [.ref (tR t 8), .ref (tR t 9), .ref (tR t 10), .ref 13])) := hO_T (o := 7) ht (by omega)
theorem hTa2 {t : Nat} (ht : t < 19) : (hO S Tw M P)[tR t 2]? = some (.inl (0, vec 5 (Tw t 2))) := by
  rw [hO_T (o := 2) ht (by omega)]
  show some (Sum.inl (0, slotV (Tw t 2) (List.replicate 5 none))) = _
  rw [slotV_vec]
theorem pTa2 {t : Nat} (ht : t < 19) {e v : Int} : (hO S Tw M P).set (tR t 2) (.inl (0, vec 5 (fun i => if i = e then v else Tw t 2 i))) = hO S (wT Tw t 2 e v) M P := by
  rw [← wT_r]
  refine hO_set ht (by omega) _ ?_
  obtain ⟨h1, h2, h3, h4⟩ := tR_facts (o := 2) ht (by omega)
  unfold skAt
  rw [if_neg h3, h4]
  show _ = Sum.inl (0, slotV _ (List.replicate 5 none))
  rw [slotV_vec]
theorem qTa2 {t : Nat} (ht : t < 19) {g : Int → Int} : (hO S Tw M P).set (tR t 2) (.inl (0, vec 5 g)) = hO S (rT Tw t 2 g) M P := by
  refine hO_set ht (by omega) _ ?_
  obtain ⟨h1, h2, h3, h4⟩ := tR_facts (o := 2) ht (by omega)
  unfold skAt
  rw [if_neg h3, h4]
  show _ = Sum.inl (0, slotV _ (List.replicate 5 none))
  rw [slotV_vec]
theorem hTa3 {t : Nat} (ht : t < 19) : (hO S Tw M P)[tR t 3]? = some (.inl (0, vec 5 (Tw t 3))) := by
  rw [hO_T (o := 3) ht (by omega)]
  show some (Sum.inl (0, slotV (Tw t 3) (List.replicate 5 none))) = _
  rw [slotV_vec]
theorem pTa3 {t : Nat} (ht : t < 19) {e v : Int} : (hO S Tw M P).set (tR t 3) (.inl (0, vec 5 (fun i => if i = e then v else Tw t 3 i))) = hO S (wT Tw t 3 e v) M P := by
  rw [← wT_r]
  refine hO_set ht (by omega) _ ?_
  obtain ⟨h1, h2, h3, h4⟩ := tR_facts (o := 3) ht (by omega)
  unfold skAt
  rw [if_neg h3, h4]
  show _ = Sum.inl (0, slotV _ (List.replicate 5 none))
  rw [slotV_vec]
theorem qTa3 {t : Nat} (ht : t < 19) {g : Int → Int} : (hO S Tw M P).set (tR t 3) (.inl (0, vec 5 g)) = hO S (rT Tw t 3 g) M P := by
  refine hO_set ht (by omega) _ ?_
  obtain ⟨h1, h2, h3, h4⟩ := tR_facts (o := 3) ht (by omega)
  unfold skAt
  rw [if_neg h3, h4]
  show _ = Sum.inl (0, slotV _ (List.replicate 5 none))
  rw [slotV_vec]
theorem hTa4 {t : Nat} (ht : t < 19) : (hO S Tw M P)[tR t 4]? = some (.inl (0, vec 5 (Tw t 4))) := by
  rw [hO_T (o := 4) ht (by omega)]
  show some (Sum.inl (0, slotV (Tw t 4) (List.replicate 5 none))) = _
  rw [slotV_vec]
theorem pTa4 {t : Nat} (ht : t < 19) {e v : Int} : (hO S Tw M P).set (tR t 4) (.inl (0, vec 5 (fun i => if i = e then v else Tw t 4 i))) = hO S (wT Tw t 4 e v) M P := by
  rw [← wT_r]
  refine hO_set ht (by omega) _ ?_
  obtain ⟨h1, h2, h3, h4⟩ := tR_facts (o := 4) ht (by omega)
  unfold skAt
  rw [if_neg h3, h4]
  show _ = Sum.inl (0, slotV _ (List.replicate 5 none))
  rw [slotV_vec]
theorem qTa4 {t : Nat} (ht : t < 19) {g : Int → Int} : (hO S Tw M P).set (tR t 4) (.inl (0, vec 5 g)) = hO S (rT Tw t 4 g) M P := by
  refine hO_set ht (by omega) _ ?_
  obtain ⟨h1, h2, h3, h4⟩ := tR_facts (o := 4) ht (by omega)
  unfold skAt
  rw [if_neg h3, h4]
  show _ = Sum.inl (0, slotV _ (List.replicate 5 none))
  rw [slotV_vec]
theorem hTa5 {t : Nat} (ht : t < 19) : (hO S Tw M P)[tR t 5]? = some (.inl (0, vec 5 (Tw t 5))) := by
  rw [hO_T (o := 5) ht (by omega)]
  show some (Sum.inl (0, slotV (Tw t 5) (List.replicate 5 none))) = _
  rw [slotV_vec]
theorem pTa5 {t : Nat} (ht : t < 19) {e v : Int} : (hO S Tw M P).set (tR t 5) (.inl (0, vec 5 (fun i => if i = e then v else Tw t 5 i))) = hO S (wT Tw t 5 e v) M P := by
  rw [← wT_r]
  refine hO_set ht (by omega) _ ?_
  obtain ⟨h1, h2, h3, h4⟩ := tR_facts (o := 5) ht (by omega)
  unfold skAt
  rw [if_neg h3, h4]
  show _ = Sum.inl (0, slotV _ (List.replicate 5 none))
  rw [slotV_vec]
theorem qTa5 {t : Nat} (ht : t < 19) {g : Int → Int} : (hO S Tw M P).set (tR t 5) (.inl (0, vec 5 g)) = hO S (rT Tw t 5 g) M P := by
  refine hO_set ht (by omega) _ ?_
  obtain ⟨h1, h2, h3, h4⟩ := tR_facts (o := 5) ht (by omega)
  unfold skAt
  rw [if_neg h3, h4]
  show _ = Sum.inl (0, slotV _ (List.replicate 5 none))
  rw [slotV_vec]
theorem hTa6 {t : Nat} (ht : t < 19) : (hO S Tw M P)[tR t 6]? = some (.inl (0, vec 5 (Tw t 6))) := by
  rw [hO_T (o := 6) ht (by omega)]
  show some (Sum.inl (0, slotV (Tw t 6) (List.replicate 5 none))) = _
  rw [slotV_vec]
theorem pTa6 {t : Nat} (ht : t < 19) {e v : Int} : (hO S Tw M P).set (tR t 6) (.inl (0, vec 5 (fun i => if i = e then v else Tw t 6 i))) = hO S (wT Tw t 6 e v) M P := by
  rw [← wT_r]
  refine hO_set ht (by omega) _ ?_
  obtain ⟨h1, h2, h3, h4⟩ := tR_facts (o := 6) ht (by omega)
  unfold skAt
  rw [if_neg h3, h4]
  show _ = Sum.inl (0, slotV _ (List.replicate 5 none))
  rw [slotV_vec]
theorem qTa6 {t : Nat} (ht : t < 19) {g : Int → Int} : (hO S Tw M P).set (tR t 6) (.inl (0, vec 5 g)) = hO S (rT Tw t 6 g) M P := by
  refine hO_set ht (by omega) _ ?_
  obtain ⟨h1, h2, h3, h4⟩ := tR_facts (o := 6) ht (by omega)
  unfold skAt
  rw [if_neg h3, h4]
  show _ = Sum.inl (0, slotV _ (List.replicate 5 none))
  rw [slotV_vec]
theorem hTa8 {t : Nat} (ht : t < 19) : (hO S Tw M P)[tR t 8]? = some (.inl (0, vec 5 (Tw t 8))) := by
  rw [hO_T (o := 8) ht (by omega)]
  show some (Sum.inl (0, slotV (Tw t 8) (List.replicate 5 none))) = _
  rw [slotV_vec]
theorem pTa8 {t : Nat} (ht : t < 19) {e v : Int} : (hO S Tw M P).set (tR t 8) (.inl (0, vec 5 (fun i => if i = e then v else Tw t 8 i))) = hO S (wT Tw t 8 e v) M P := by
  rw [← wT_r]
  refine hO_set ht (by omega) _ ?_
  obtain ⟨h1, h2, h3, h4⟩ := tR_facts (o := 8) ht (by omega)
  unfold skAt
  rw [if_neg h3, h4]
  show _ = Sum.inl (0, slotV _ (List.replicate 5 none))
  rw [slotV_vec]
theorem qTa8 {t : Nat} (ht : t < 19) {g : Int → Int} : (hO S Tw M P).set (tR t 8) (.inl (0, vec 5 g)) = hO S (rT Tw t 8 g) M P := by
  refine hO_set ht (by omega) _ ?_
  obtain ⟨h1, h2, h3, h4⟩ := tR_facts (o := 8) ht (by omega)
  unfold skAt
  rw [if_neg h3, h4]
  show _ = Sum.inl (0, slotV _ (List.replicate 5 none))
  rw [slotV_vec]
theorem hTa9 {t : Nat} (ht : t < 19) : (hO S Tw M P)[tR t 9]? = some (.inl (0, vec 5 (Tw t 9))) := by
  rw [hO_T (o := 9) ht (by omega)]
  show some (Sum.inl (0, slotV (Tw t 9) (List.replicate 5 none))) = _
  rw [slotV_vec]
theorem pTa9 {t : Nat} (ht : t < 19) {e v : Int} : (hO S Tw M P).set (tR t 9) (.inl (0, vec 5 (fun i => if i = e then v else Tw t 9 i))) = hO S (wT Tw t 9 e v) M P := by
  rw [← wT_r]
  refine hO_set ht (by omega) _ ?_
  obtain ⟨h1, h2, h3, h4⟩ := tR_facts (o := 9) ht (by omega)
  unfold skAt
  rw [if_neg h3, h4]
  show _ = Sum.inl (0, slotV _ (List.replicate 5 none))
  rw [slotV_vec]
theorem qTa9 {t : Nat} (ht : t < 19) {g : Int → Int} : (hO S Tw M P).set (tR t 9) (.inl (0, vec 5 g)) = hO S (rT Tw t 9 g) M P := by
  refine hO_set ht (by omega) _ ?_
  obtain ⟨h1, h2, h3, h4⟩ := tR_facts (o := 9) ht (by omega)
  unfold skAt
  rw [if_neg h3, h4]
  show _ = Sum.inl (0, slotV _ (List.replicate 5 none))
  rw [slotV_vec]
theorem hTa10 {t : Nat} (ht : t < 19) : (hO S Tw M P)[tR t 10]? = some (.inl (0, vec 5 (Tw t 10))) := by
  rw [hO_T (o := 10) ht (by omega)]
  show some (Sum.inl (0, slotV (Tw t 10) (List.replicate 5 none))) = _
  rw [slotV_vec]
theorem pTa10 {t : Nat} (ht : t < 19) {e v : Int} : (hO S Tw M P).set (tR t 10) (.inl (0, vec 5 (fun i => if i = e then v else Tw t 10 i))) = hO S (wT Tw t 10 e v) M P := by
  rw [← wT_r]
  refine hO_set ht (by omega) _ ?_
  obtain ⟨h1, h2, h3, h4⟩ := tR_facts (o := 10) ht (by omega)
  unfold skAt
  rw [if_neg h3, h4]
  show _ = Sum.inl (0, slotV _ (List.replicate 5 none))
  rw [slotV_vec]
theorem qTa10 {t : Nat} (ht : t < 19) {g : Int → Int} : (hO S Tw M P).set (tR t 10) (.inl (0, vec 5 g)) = hO S (rT Tw t 10 g) M P := by
  refine hO_set ht (by omega) _ ?_
  obtain ⟨h1, h2, h3, h4⟩ := tR_facts (o := 10) ht (by omega)
  unfold skAt
  rw [if_neg h3, h4]
  show _ = Sum.inl (0, slotV _ (List.replicate 5 none))
  rw [slotV_vec]
theorem pT1_5 {t : Nat} (ht : t < 19) {v : Int} : (hO S Tw M P).set (tR t 1) (.inr (2, [.ref (tR t 2), .ref (tR t 3), .ref (tR t 4), .ref (tR t 5), .ref (tR t 6), .int (iI v), .int (iI (Tw t 1 6))])) = hO S (wT Tw t 1 5 v) M P := by
  rw [← wT_r]
  refine hO_set ht (by omega) _ ?_
  obtain ⟨h1, h2, h3, h4⟩ := tR_facts (o := 1) ht (by omega)
  unfold skAt
  rw [if_neg h3, h4]
  rfl
theorem pT1_6 {t : Nat} (ht : t < 19) {v : Int} : (hO S Tw M P).set (tR t 1) (.inr (2, [.ref (tR t 2), .ref (tR t 3), .ref (tR t 4), .ref (tR t 5), .ref (tR t 6), .int (iI (Tw t 1 5)), .int (iI v)])) = hO S (wT Tw t 1 6 v) M P := by
  rw [← wT_r]
  refine hO_set ht (by omega) _ ?_
  obtain ⟨h1, h2, h3, h4⟩ := tR_facts (o := 1) ht (by omega)
  unfold skAt
  rw [if_neg h3, h4]
  rfl
theorem ty0 : tyOf 0 = none := by decide +kernel
theorem sk0 : skAt P 0 = (.inr 11, [some (1), some (3), some (13), some (tR 0 0), some (30), some (164), some (187), some (199), some (205), some (206), some (243)]) := by
  unfold skAt
  rw [if_neg (by decide)]
  exact (by decide +kernel : skB.getD 0 (.inl 0, []) = (.inr 11, [some (1), some (3), some (13), some (tR 0 0), some (30), some (164), some (187), some (199), some (205), some (206), some (243)]))
theorem h0 : (hO S Tw M P)[0]? = some (.inr (11, [.ref 1, .ref 3, .ref 13, .ref (tR 0 0), .ref 30, .ref 164, .ref 187, .ref 199, .ref 205, .ref 206, .ref 243])) := by
  rw [hO_S (c := 0) (by omega) ty0, sk0]
  rfl
theorem ty1 : tyOf 1 = none := by decide +kernel
theorem sk1 : skAt P 1 = (.inr 7, [some (2), none]) := by
  unfold skAt
  rw [if_neg (by decide)]
  exact (by decide +kernel : skB.getD 1 (.inl 0, []) = (.inr 7, [some (2), none]))
theorem h1 : (hO S Tw M P)[1]? = some (.inr (7, [.ref 2, .int (iI (S 1 1))])) := by
  rw [hO_S (c := 1) (by omega) ty1, sk1]
  rfl
theorem p1_1 {v : Int} : (hO S Tw M P).set 1 (.inr (7, [.ref 2, .int (iI v)])) = hO (wS S 1 1 v) Tw M P := by
  rw [← wS_r]
  refine hO_setS (c := 1) (by omega) ty1 _ ?_
  rw [sk1]
  rfl
theorem ty2 : tyOf 2 = none := by decide +kernel
theorem sk2 : skAt P 2 = (.inl 0, List.replicate 64 none) := by
  unfold skAt
  rw [if_neg (by decide)]
  exact (by decide +kernel : skB.getD 2 (.inl 0, []) = (.inl 0, List.replicate 64 none))
theorem h2 : (hO S Tw M P)[2]? = some (.inl (0, vec 64 (S 2))) := by
  rw [hO_S (c := 2) (by omega) ty2, sk2]
  exact congrArg some (congrArg Sum.inl (congrArg (Prod.mk 0) (slotV_vec _ _)))
theorem p2 {e v : Int} : (hO S Tw M P).set 2 (.inl (0, vec 64 (fun i => if i = e then v else S 2 i))) = hO (wS S 2 e v) Tw M P := by
  rw [← wS_r]
  refine hO_setS (c := 2) (by omega) ty2 _ ?_
  rw [sk2]
  exact congrArg Sum.inl (congrArg (Prod.mk 0) (slotV_vec _ _).symm)
theorem q2 {g : Int → Int} : (hO S Tw M P).set 2 (.inl (0, vec 64 g)) = hO (rS S 2 g) Tw M P := by
  refine hO_setS (c := 2) (by omega) ty2 _ ?_
  rw [sk2]
  exact congrArg Sum.inl (congrArg (Prod.mk 0) (slotV_vec _ _).symm)
theorem ty3 : tyOf 3 = none := by decide +kernel
theorem sk3 : skAt P 3 = (.inr 5, [some (4), some (5), some (6), none, none, some (12), none]) := by
  unfold skAt
  rw [if_neg (by decide)]
  exact (by decide +kernel : skB.getD 3 (.inl 0, []) = (.inr 5, [some (4), some (5), some (6), none, none, some (12), none]))
theorem h3 : (hO S Tw M P)[3]? = some (.inr (5, [.ref 4, .ref 5, .ref 6, .int (iI (S 3 3)), .int (iI (S 3 4)), .ref 12, .int (iI (S 3 6))])) := by
  rw [hO_S (c := 3) (by omega) ty3, sk3]
  rfl
theorem p3_3 {v : Int} : (hO S Tw M P).set 3 (.inr (5, [.ref 4, .ref 5, .ref 6, .int (iI v), .int (iI (S 3 4)), .ref 12, .int (iI (S 3 6))])) = hO (wS S 3 3 v) Tw M P := by
  rw [← wS_r]
  refine hO_setS (c := 3) (by omega) ty3 _ ?_
  rw [sk3]
  rfl
theorem p3_4 {v : Int} : (hO S Tw M P).set 3 (.inr (5, [.ref 4, .ref 5, .ref 6, .int (iI (S 3 3)), .int (iI v), .ref 12, .int (iI (S 3 6))])) = hO (wS S 3 4 v) Tw M P := by
  rw [← wS_r]
  refine hO_setS (c := 3) (by omega) ty3 _ ?_
  rw [sk3]
  rfl
theorem p3_6 {v : Int} : (hO S Tw M P).set 3 (.inr (5, [.ref 4, .ref 5, .ref 6, .int (iI (S 3 3)), .int (iI (S 3 4)), .ref 12, .int (iI v)])) = hO (wS S 3 6 v) Tw M P := by
  rw [← wS_r]
  refine hO_setS (c := 3) (by omega) ty3 _ ?_
  rw [sk3]
  rfl
theorem ty4 : tyOf 4 = none := by decide +kernel
theorem sk4 : skAt P 4 = (.inl 0, List.replicate 5 none) := by
  unfold skAt
  rw [if_neg (by decide)]
  exact (by decide +kernel : skB.getD 4 (.inl 0, []) = (.inl 0, List.replicate 5 none))
theorem h4 : (hO S Tw M P)[4]? = some (.inl (0, vec 5 (S 4))) := by
  rw [hO_S (c := 4) (by omega) ty4, sk4]
  exact congrArg some (congrArg Sum.inl (congrArg (Prod.mk 0) (slotV_vec _ _)))
theorem p4 {e v : Int} : (hO S Tw M P).set 4 (.inl (0, vec 5 (fun i => if i = e then v else S 4 i))) = hO (wS S 4 e v) Tw M P := by
  rw [← wS_r]
  refine hO_setS (c := 4) (by omega) ty4 _ ?_
  rw [sk4]
  exact congrArg Sum.inl (congrArg (Prod.mk 0) (slotV_vec _ _).symm)
theorem q4 {g : Int → Int} : (hO S Tw M P).set 4 (.inl (0, vec 5 g)) = hO (rS S 4 g) Tw M P := by
  refine hO_setS (c := 4) (by omega) ty4 _ ?_
  rw [sk4]
  exact congrArg Sum.inl (congrArg (Prod.mk 0) (slotV_vec _ _).symm)
theorem ty5 : tyOf 5 = none := by decide +kernel
theorem sk5 : skAt P 5 = (.inl 0, List.replicate 5 none) := by
  unfold skAt
  rw [if_neg (by decide)]
  exact (by decide +kernel : skB.getD 5 (.inl 0, []) = (.inl 0, List.replicate 5 none))
theorem h5 : (hO S Tw M P)[5]? = some (.inl (0, vec 5 (S 5))) := by
  rw [hO_S (c := 5) (by omega) ty5, sk5]
  exact congrArg some (congrArg Sum.inl (congrArg (Prod.mk 0) (slotV_vec _ _)))
theorem p5 {e v : Int} : (hO S Tw M P).set 5 (.inl (0, vec 5 (fun i => if i = e then v else S 5 i))) = hO (wS S 5 e v) Tw M P := by
  rw [← wS_r]
  refine hO_setS (c := 5) (by omega) ty5 _ ?_
  rw [sk5]
  exact congrArg Sum.inl (congrArg (Prod.mk 0) (slotV_vec _ _).symm)
theorem q5 {g : Int → Int} : (hO S Tw M P).set 5 (.inl (0, vec 5 g)) = hO (rS S 5 g) Tw M P := by
  refine hO_setS (c := 5) (by omega) ty5 _ ?_
  rw [sk5]
  exact congrArg Sum.inl (congrArg (Prod.mk 0) (slotV_vec _ _).symm)
theorem ty6 : tyOf 6 = none := by decide +kernel
theorem sk6 : skAt P 6 = (.inl 3, [some (7), some (8), some (9), some (10), some (11)]) := by
  unfold skAt
  rw [if_neg (by decide)]
  exact (by decide +kernel : skB.getD 6 (.inl 0, []) = (.inl 3, [some (7), some (8), some (9), some (10), some (11)]))
theorem h6 : (hO S Tw M P)[6]? = some (.inl (3, [.ref 7, .ref 8, .ref 9, .ref 10, .ref 11])) := by
  rw [hO_S (c := 6) (by omega) ty6, sk6]
  rfl
theorem ty7 : tyOf 7 = none := by decide +kernel
theorem sk7 : skAt P 7 = (.inl 0, List.replicate 6 none) := by
  unfold skAt
  rw [if_neg (by decide)]
  exact (by decide +kernel : skB.getD 7 (.inl 0, []) = (.inl 0, List.replicate 6 none))
theorem h7 : (hO S Tw M P)[7]? = some (.inl (0, vec 6 (S 7))) := by
  rw [hO_S (c := 7) (by omega) ty7, sk7]
  exact congrArg some (congrArg Sum.inl (congrArg (Prod.mk 0) (slotV_vec _ _)))
theorem p7 {e v : Int} : (hO S Tw M P).set 7 (.inl (0, vec 6 (fun i => if i = e then v else S 7 i))) = hO (wS S 7 e v) Tw M P := by
  rw [← wS_r]
  refine hO_setS (c := 7) (by omega) ty7 _ ?_
  rw [sk7]
  exact congrArg Sum.inl (congrArg (Prod.mk 0) (slotV_vec _ _).symm)
theorem q7 {g : Int → Int} : (hO S Tw M P).set 7 (.inl (0, vec 6 g)) = hO (rS S 7 g) Tw M P := by
  refine hO_setS (c := 7) (by omega) ty7 _ ?_
  rw [sk7]
  exact congrArg Sum.inl (congrArg (Prod.mk 0) (slotV_vec _ _).symm)
theorem ty8 : tyOf 8 = none := by decide +kernel
theorem sk8 : skAt P 8 = (.inl 0, List.replicate 6 none) := by
  unfold skAt
  rw [if_neg (by decide)]
  exact (by decide +kernel : skB.getD 8 (.inl 0, []) = (.inl 0, List.replicate 6 none))
theorem h8 : (hO S Tw M P)[8]? = some (.inl (0, vec 6 (S 8))) := by
  rw [hO_S (c := 8) (by omega) ty8, sk8]
  exact congrArg some (congrArg Sum.inl (congrArg (Prod.mk 0) (slotV_vec _ _)))
theorem p8 {e v : Int} : (hO S Tw M P).set 8 (.inl (0, vec 6 (fun i => if i = e then v else S 8 i))) = hO (wS S 8 e v) Tw M P := by
  rw [← wS_r]
  refine hO_setS (c := 8) (by omega) ty8 _ ?_
  rw [sk8]
  exact congrArg Sum.inl (congrArg (Prod.mk 0) (slotV_vec _ _).symm)
theorem q8 {g : Int → Int} : (hO S Tw M P).set 8 (.inl (0, vec 6 g)) = hO (rS S 8 g) Tw M P := by
  refine hO_setS (c := 8) (by omega) ty8 _ ?_
  rw [sk8]
  exact congrArg Sum.inl (congrArg (Prod.mk 0) (slotV_vec _ _).symm)
theorem ty9 : tyOf 9 = none := by decide +kernel
theorem sk9 : skAt P 9 = (.inl 0, List.replicate 6 none) := by
  unfold skAt
  rw [if_neg (by decide)]
  exact (by decide +kernel : skB.getD 9 (.inl 0, []) = (.inl 0, List.replicate 6 none))
theorem h9 : (hO S Tw M P)[9]? = some (.inl (0, vec 6 (S 9))) := by
  rw [hO_S (c := 9) (by omega) ty9, sk9]
  exact congrArg some (congrArg Sum.inl (congrArg (Prod.mk 0) (slotV_vec _ _)))
theorem p9 {e v : Int} : (hO S Tw M P).set 9 (.inl (0, vec 6 (fun i => if i = e then v else S 9 i))) = hO (wS S 9 e v) Tw M P := by
  rw [← wS_r]
  refine hO_setS (c := 9) (by omega) ty9 _ ?_
  rw [sk9]
  exact congrArg Sum.inl (congrArg (Prod.mk 0) (slotV_vec _ _).symm)
theorem q9 {g : Int → Int} : (hO S Tw M P).set 9 (.inl (0, vec 6 g)) = hO (rS S 9 g) Tw M P := by
  refine hO_setS (c := 9) (by omega) ty9 _ ?_
  rw [sk9]
  exact congrArg Sum.inl (congrArg (Prod.mk 0) (slotV_vec _ _).symm)
theorem ty10 : tyOf 10 = none := by decide +kernel
theorem sk10 : skAt P 10 = (.inl 0, List.replicate 6 none) := by
  unfold skAt
  rw [if_neg (by decide)]
  exact (by decide +kernel : skB.getD 10 (.inl 0, []) = (.inl 0, List.replicate 6 none))
theorem h10 : (hO S Tw M P)[10]? = some (.inl (0, vec 6 (S 10))) := by
  rw [hO_S (c := 10) (by omega) ty10, sk10]
  exact congrArg some (congrArg Sum.inl (congrArg (Prod.mk 0) (slotV_vec _ _)))
theorem p10 {e v : Int} : (hO S Tw M P).set 10 (.inl (0, vec 6 (fun i => if i = e then v else S 10 i))) = hO (wS S 10 e v) Tw M P := by
  rw [← wS_r]
  refine hO_setS (c := 10) (by omega) ty10 _ ?_
  rw [sk10]
  exact congrArg Sum.inl (congrArg (Prod.mk 0) (slotV_vec _ _).symm)
theorem q10 {g : Int → Int} : (hO S Tw M P).set 10 (.inl (0, vec 6 g)) = hO (rS S 10 g) Tw M P := by
  refine hO_setS (c := 10) (by omega) ty10 _ ?_
  rw [sk10]
  exact congrArg Sum.inl (congrArg (Prod.mk 0) (slotV_vec _ _).symm)
theorem ty11 : tyOf 11 = none := by decide +kernel
theorem sk11 : skAt P 11 = (.inl 0, List.replicate 6 none) := by
  unfold skAt
  rw [if_neg (by decide)]
  exact (by decide +kernel : skB.getD 11 (.inl 0, []) = (.inl 0, List.replicate 6 none))
theorem h11 : (hO S Tw M P)[11]? = some (.inl (0, vec 6 (S 11))) := by
  rw [hO_S (c := 11) (by omega) ty11, sk11]
  exact congrArg some (congrArg Sum.inl (congrArg (Prod.mk 0) (slotV_vec _ _)))
theorem p11 {e v : Int} : (hO S Tw M P).set 11 (.inl (0, vec 6 (fun i => if i = e then v else S 11 i))) = hO (wS S 11 e v) Tw M P := by
  rw [← wS_r]
  refine hO_setS (c := 11) (by omega) ty11 _ ?_
  rw [sk11]
  exact congrArg Sum.inl (congrArg (Prod.mk 0) (slotV_vec _ _).symm)
theorem q11 {g : Int → Int} : (hO S Tw M P).set 11 (.inl (0, vec 6 g)) = hO (rS S 11 g) Tw M P := by
  refine hO_setS (c := 11) (by omega) ty11 _ ?_
  rw [sk11]
  exact congrArg Sum.inl (congrArg (Prod.mk 0) (slotV_vec _ _).symm)
theorem ty12 : tyOf 12 = none := by decide +kernel
theorem sk12 : skAt P 12 = (.inl 1, List.replicate 5 none) := by
  unfold skAt
  rw [if_neg (by decide)]
  exact (by decide +kernel : skB.getD 12 (.inl 0, []) = (.inl 1, List.replicate 5 none))
theorem h12 : (hO S Tw M P)[12]? = some (.inl (1, vec 5 (S 12))) := by
  rw [hO_S (c := 12) (by omega) ty12, sk12]
  exact congrArg some (congrArg Sum.inl (congrArg (Prod.mk 1) (slotV_vec _ _)))
theorem p12 {e v : Int} : (hO S Tw M P).set 12 (.inl (1, vec 5 (fun i => if i = e then v else S 12 i))) = hO (wS S 12 e v) Tw M P := by
  rw [← wS_r]
  refine hO_setS (c := 12) (by omega) ty12 _ ?_
  rw [sk12]
  exact congrArg Sum.inl (congrArg (Prod.mk 1) (slotV_vec _ _).symm)
theorem q12 {g : Int → Int} : (hO S Tw M P).set 12 (.inl (1, vec 5 g)) = hO (rS S 12 g) Tw M P := by
  refine hO_setS (c := 12) (by omega) ty12 _ ?_
  rw [sk12]
  exact congrArg Sum.inl (congrArg (Prod.mk 1) (slotV_vec _ _).symm)
theorem ty13 : tyOf 13 = none := by decide +kernel
theorem sk13 : skAt P 13 = (.inr 8, [some (14), some (15), some (16), some (17), some (18), none]) := by
  unfold skAt
  rw [if_neg (by decide)]
  exact (by decide +kernel : skB.getD 13 (.inl 0, []) = (.inr 8, [some (14), some (15), some (16), some (17), some (18), none]))
theorem h13 : (hO S Tw M P)[13]? = some (.inr (8, [.ref 14, .ref 15, .ref 16, .ref 17, .ref 18, .int (iI (S 13 5))])) := by
  rw [hO_S (c := 13) (by omega) ty13, sk13]
  rfl
theorem p13_5 {v : Int} : (hO S Tw M P).set 13 (.inr (8, [.ref 14, .ref 15, .ref 16, .ref 17, .ref 18, .int (iI v)])) = hO (wS S 13 5 v) Tw M P := by
  rw [← wS_r]
  refine hO_setS (c := 13) (by omega) ty13 _ ?_
  rw [sk13]
  rfl
theorem ty14 : tyOf 14 = none := by decide +kernel
theorem sk14 : skAt P 14 = (.inl 0, List.replicate 5 none) := by
  unfold skAt
  rw [if_neg (by decide)]
  exact (by decide +kernel : skB.getD 14 (.inl 0, []) = (.inl 0, List.replicate 5 none))
theorem h14 : (hO S Tw M P)[14]? = some (.inl (0, vec 5 (S 14))) := by
  rw [hO_S (c := 14) (by omega) ty14, sk14]
  exact congrArg some (congrArg Sum.inl (congrArg (Prod.mk 0) (slotV_vec _ _)))
theorem p14 {e v : Int} : (hO S Tw M P).set 14 (.inl (0, vec 5 (fun i => if i = e then v else S 14 i))) = hO (wS S 14 e v) Tw M P := by
  rw [← wS_r]
  refine hO_setS (c := 14) (by omega) ty14 _ ?_
  rw [sk14]
  exact congrArg Sum.inl (congrArg (Prod.mk 0) (slotV_vec _ _).symm)
theorem q14 {g : Int → Int} : (hO S Tw M P).set 14 (.inl (0, vec 5 g)) = hO (rS S 14 g) Tw M P := by
  refine hO_setS (c := 14) (by omega) ty14 _ ?_
  rw [sk14]
  exact congrArg Sum.inl (congrArg (Prod.mk 0) (slotV_vec _ _).symm)
theorem ty15 : tyOf 15 = none := by decide +kernel
theorem sk15 : skAt P 15 = (.inl 0, List.replicate 5 none) := by
  unfold skAt
  rw [if_neg (by decide)]
  exact (by decide +kernel : skB.getD 15 (.inl 0, []) = (.inl 0, List.replicate 5 none))
theorem h15 : (hO S Tw M P)[15]? = some (.inl (0, vec 5 (S 15))) := by
  rw [hO_S (c := 15) (by omega) ty15, sk15]
  exact congrArg some (congrArg Sum.inl (congrArg (Prod.mk 0) (slotV_vec _ _)))
theorem p15 {e v : Int} : (hO S Tw M P).set 15 (.inl (0, vec 5 (fun i => if i = e then v else S 15 i))) = hO (wS S 15 e v) Tw M P := by
  rw [← wS_r]
  refine hO_setS (c := 15) (by omega) ty15 _ ?_
  rw [sk15]
  exact congrArg Sum.inl (congrArg (Prod.mk 0) (slotV_vec _ _).symm)
theorem q15 {g : Int → Int} : (hO S Tw M P).set 15 (.inl (0, vec 5 g)) = hO (rS S 15 g) Tw M P := by
  refine hO_setS (c := 15) (by omega) ty15 _ ?_
  rw [sk15]
  exact congrArg Sum.inl (congrArg (Prod.mk 0) (slotV_vec _ _).symm)
theorem ty16 : tyOf 16 = none := by decide +kernel
theorem sk16 : skAt P 16 = (.inl 0, List.replicate 5 none) := by
  unfold skAt
  rw [if_neg (by decide)]
  exact (by decide +kernel : skB.getD 16 (.inl 0, []) = (.inl 0, List.replicate 5 none))
theorem h16 : (hO S Tw M P)[16]? = some (.inl (0, vec 5 (S 16))) := by
  rw [hO_S (c := 16) (by omega) ty16, sk16]
  exact congrArg some (congrArg Sum.inl (congrArg (Prod.mk 0) (slotV_vec _ _)))
theorem p16 {e v : Int} : (hO S Tw M P).set 16 (.inl (0, vec 5 (fun i => if i = e then v else S 16 i))) = hO (wS S 16 e v) Tw M P := by
  rw [← wS_r]
  refine hO_setS (c := 16) (by omega) ty16 _ ?_
  rw [sk16]
  exact congrArg Sum.inl (congrArg (Prod.mk 0) (slotV_vec _ _).symm)
theorem q16 {g : Int → Int} : (hO S Tw M P).set 16 (.inl (0, vec 5 g)) = hO (rS S 16 g) Tw M P := by
  refine hO_setS (c := 16) (by omega) ty16 _ ?_
  rw [sk16]
  exact congrArg Sum.inl (congrArg (Prod.mk 0) (slotV_vec _ _).symm)
theorem ty17 : tyOf 17 = none := by decide +kernel
theorem sk17 : skAt P 17 = (.inl 0, List.replicate 5 none) := by
  unfold skAt
  rw [if_neg (by decide)]
  exact (by decide +kernel : skB.getD 17 (.inl 0, []) = (.inl 0, List.replicate 5 none))
theorem h17 : (hO S Tw M P)[17]? = some (.inl (0, vec 5 (S 17))) := by
  rw [hO_S (c := 17) (by omega) ty17, sk17]
  exact congrArg some (congrArg Sum.inl (congrArg (Prod.mk 0) (slotV_vec _ _)))
theorem p17 {e v : Int} : (hO S Tw M P).set 17 (.inl (0, vec 5 (fun i => if i = e then v else S 17 i))) = hO (wS S 17 e v) Tw M P := by
  rw [← wS_r]
  refine hO_setS (c := 17) (by omega) ty17 _ ?_
  rw [sk17]
  exact congrArg Sum.inl (congrArg (Prod.mk 0) (slotV_vec _ _).symm)
theorem q17 {g : Int → Int} : (hO S Tw M P).set 17 (.inl (0, vec 5 g)) = hO (rS S 17 g) Tw M P := by
  refine hO_setS (c := 17) (by omega) ty17 _ ?_
  rw [sk17]
  exact congrArg Sum.inl (congrArg (Prod.mk 0) (slotV_vec _ _).symm)
theorem ty18 : tyOf 18 = none := by decide +kernel
theorem sk18 : skAt P 18 = (.inl 0, List.replicate 5 none) := by
  unfold skAt
  rw [if_neg (by decide)]
  exact (by decide +kernel : skB.getD 18 (.inl 0, []) = (.inl 0, List.replicate 5 none))
theorem h18 : (hO S Tw M P)[18]? = some (.inl (0, vec 5 (S 18))) := by
  rw [hO_S (c := 18) (by omega) ty18, sk18]
  exact congrArg some (congrArg Sum.inl (congrArg (Prod.mk 0) (slotV_vec _ _)))
theorem p18 {e v : Int} : (hO S Tw M P).set 18 (.inl (0, vec 5 (fun i => if i = e then v else S 18 i))) = hO (wS S 18 e v) Tw M P := by
  rw [← wS_r]
  refine hO_setS (c := 18) (by omega) ty18 _ ?_
  rw [sk18]
  exact congrArg Sum.inl (congrArg (Prod.mk 0) (slotV_vec _ _).symm)
theorem q18 {g : Int → Int} : (hO S Tw M P).set 18 (.inl (0, vec 5 g)) = hO (rS S 18 g) Tw M P := by
  refine hO_setS (c := 18) (by omega) ty18 _ ?_
  rw [sk18]
  exact congrArg Sum.inl (congrArg (Prod.mk 0) (slotV_vec _ _).symm)
theorem ty30 : tyOf 30 = none := by decide +kernel
theorem sk30 : skAt P 30 = (.inr 6, [some (31), none]) := by
  unfold skAt
  rw [if_neg (by decide)]
  exact (by decide +kernel : skB.getD 30 (.inl 0, []) = (.inr 6, [some (31), none]))
theorem h30 : (hO S Tw M P)[30]? = some (.inr (6, [.ref 31, .int (iI (S 30 1))])) := by
  rw [hO_S (c := 30) (by omega) ty30, sk30]
  rfl
theorem p30_1 {v : Int} : (hO S Tw M P).set 30 (.inr (6, [.ref 31, .int (iI v)])) = hO (wS S 30 1 v) Tw M P := by
  rw [← wS_r]
  refine hO_setS (c := 30) (by omega) ty30 _ ?_
  rw [sk30]
  rfl
theorem ty31 : tyOf 31 = none := by decide +kernel
theorem h31 : (hO S Tw M P)[31]? = some (.inl (2, (List.range 12).map (fun j => .ref (tR (P j) 0)))) := by
  rw [hO_S (c := 31) (by omega) ty31]
  unfold skAt
  rw [if_pos rfl]
  refine congrArg some (congrArg Sum.inl (congrArg (Prod.mk 2) ?_))
  unfold slotV
  apply List.ext_getElem?
  intro i
  rw [slotVf_get, List.getElem?_map, List.getElem?_map]
  cases (List.range 12)[i]? <;> rfl
theorem ty164 : tyOf 164 = none := by decide +kernel
theorem sk164 : skAt P 164 = (.inl 2, [some (tR 13 0), some (tR 14 0)]) := by
  unfold skAt
  rw [if_neg (by decide)]
  exact (by decide +kernel : skB.getD 164 (.inl 0, []) = (.inl 2, [some (tR 13 0), some (tR 14 0)]))
theorem h164 : (hO S Tw M P)[164]? = some (.inl (2, [.ref (tR 13 0), .ref (tR 14 0)])) := by
  rw [hO_S (c := 164) (by omega) ty164, sk164]
  rfl
theorem ty187 : tyOf 187 = none := by decide +kernel
theorem sk187 : skAt P 187 = (.inl 1, List.replicate 2 none) := by
  unfold skAt
  rw [if_neg (by decide)]
  exact (by decide +kernel : skB.getD 187 (.inl 0, []) = (.inl 1, List.replicate 2 none))
theorem h187 : (hO S Tw M P)[187]? = some (.inl (1, vec 2 (S 187))) := by
  rw [hO_S (c := 187) (by omega) ty187, sk187]
  exact congrArg some (congrArg Sum.inl (congrArg (Prod.mk 1) (slotV_vec _ _)))
theorem p187 {e v : Int} : (hO S Tw M P).set 187 (.inl (1, vec 2 (fun i => if i = e then v else S 187 i))) = hO (wS S 187 e v) Tw M P := by
  rw [← wS_r]
  refine hO_setS (c := 187) (by omega) ty187 _ ?_
  rw [sk187]
  exact congrArg Sum.inl (congrArg (Prod.mk 1) (slotV_vec _ _).symm)
theorem q187 {g : Int → Int} : (hO S Tw M P).set 187 (.inl (1, vec 2 g)) = hO (rS S 187 g) Tw M P := by
  refine hO_setS (c := 187) (by omega) ty187 _ ?_
  rw [sk187]
  exact congrArg Sum.inl (congrArg (Prod.mk 1) (slotV_vec _ _).symm)
theorem ty199 : tyOf 199 = none := by decide +kernel
theorem sk199 : skAt P 199 = (.inr 0, [some (200), some (201), some (202), some (203), some (204), some (tR 0 1), some (tR 15 1), none]) := by
  unfold skAt
  rw [if_neg (by decide)]
  exact (by decide +kernel : skB.getD 199 (.inl 0, []) = (.inr 0, [some (200), some (201), some (202), some (203), some (204), some (tR 0 1), some (tR 15 1), none]))
theorem h199 : (hO S Tw M P)[199]? = some (.inr (0, [.ref 200, .ref 201, .ref 202, .ref 203, .ref 204, .ref (tR 0 1), .ref (tR 15 1), .int (iI (S 199 7))])) := by
  rw [hO_S (c := 199) (by omega) ty199, sk199]
  rfl
theorem p199_7 {v : Int} : (hO S Tw M P).set 199 (.inr (0, [.ref 200, .ref 201, .ref 202, .ref 203, .ref 204, .ref (tR 0 1), .ref (tR 15 1), .int (iI v)])) = hO (wS S 199 7 v) Tw M P := by
  rw [← wS_r]
  refine hO_setS (c := 199) (by omega) ty199 _ ?_
  rw [sk199]
  rfl
theorem ty200 : tyOf 200 = none := by decide +kernel
theorem sk200 : skAt P 200 = (.inl 0, List.replicate 8 none) := by
  unfold skAt
  rw [if_neg (by decide)]
  exact (by decide +kernel : skB.getD 200 (.inl 0, []) = (.inl 0, List.replicate 8 none))
theorem h200 : (hO S Tw M P)[200]? = some (.inl (0, vec 8 (S 200))) := by
  rw [hO_S (c := 200) (by omega) ty200, sk200]
  exact congrArg some (congrArg Sum.inl (congrArg (Prod.mk 0) (slotV_vec _ _)))
theorem p200 {e v : Int} : (hO S Tw M P).set 200 (.inl (0, vec 8 (fun i => if i = e then v else S 200 i))) = hO (wS S 200 e v) Tw M P := by
  rw [← wS_r]
  refine hO_setS (c := 200) (by omega) ty200 _ ?_
  rw [sk200]
  exact congrArg Sum.inl (congrArg (Prod.mk 0) (slotV_vec _ _).symm)
theorem q200 {g : Int → Int} : (hO S Tw M P).set 200 (.inl (0, vec 8 g)) = hO (rS S 200 g) Tw M P := by
  refine hO_setS (c := 200) (by omega) ty200 _ ?_
  rw [sk200]
  exact congrArg Sum.inl (congrArg (Prod.mk 0) (slotV_vec _ _).symm)
theorem ty201 : tyOf 201 = none := by decide +kernel
theorem sk201 : skAt P 201 = (.inl 0, List.replicate 8 none) := by
  unfold skAt
  rw [if_neg (by decide)]
  exact (by decide +kernel : skB.getD 201 (.inl 0, []) = (.inl 0, List.replicate 8 none))
theorem h201 : (hO S Tw M P)[201]? = some (.inl (0, vec 8 (S 201))) := by
  rw [hO_S (c := 201) (by omega) ty201, sk201]
  exact congrArg some (congrArg Sum.inl (congrArg (Prod.mk 0) (slotV_vec _ _)))
theorem p201 {e v : Int} : (hO S Tw M P).set 201 (.inl (0, vec 8 (fun i => if i = e then v else S 201 i))) = hO (wS S 201 e v) Tw M P := by
  rw [← wS_r]
  refine hO_setS (c := 201) (by omega) ty201 _ ?_
  rw [sk201]
  exact congrArg Sum.inl (congrArg (Prod.mk 0) (slotV_vec _ _).symm)
theorem q201 {g : Int → Int} : (hO S Tw M P).set 201 (.inl (0, vec 8 g)) = hO (rS S 201 g) Tw M P := by
  refine hO_setS (c := 201) (by omega) ty201 _ ?_
  rw [sk201]
  exact congrArg Sum.inl (congrArg (Prod.mk 0) (slotV_vec _ _).symm)
theorem ty202 : tyOf 202 = none := by decide +kernel
theorem sk202 : skAt P 202 = (.inl 0, List.replicate 8 none) := by
  unfold skAt
  rw [if_neg (by decide)]
  exact (by decide +kernel : skB.getD 202 (.inl 0, []) = (.inl 0, List.replicate 8 none))
theorem h202 : (hO S Tw M P)[202]? = some (.inl (0, vec 8 (S 202))) := by
  rw [hO_S (c := 202) (by omega) ty202, sk202]
  exact congrArg some (congrArg Sum.inl (congrArg (Prod.mk 0) (slotV_vec _ _)))
theorem p202 {e v : Int} : (hO S Tw M P).set 202 (.inl (0, vec 8 (fun i => if i = e then v else S 202 i))) = hO (wS S 202 e v) Tw M P := by
  rw [← wS_r]
  refine hO_setS (c := 202) (by omega) ty202 _ ?_
  rw [sk202]
  exact congrArg Sum.inl (congrArg (Prod.mk 0) (slotV_vec _ _).symm)
theorem q202 {g : Int → Int} : (hO S Tw M P).set 202 (.inl (0, vec 8 g)) = hO (rS S 202 g) Tw M P := by
  refine hO_setS (c := 202) (by omega) ty202 _ ?_
  rw [sk202]
  exact congrArg Sum.inl (congrArg (Prod.mk 0) (slotV_vec _ _).symm)
theorem ty203 : tyOf 203 = none := by decide +kernel
theorem sk203 : skAt P 203 = (.inl 0, List.replicate 8 none) := by
  unfold skAt
  rw [if_neg (by decide)]
  exact (by decide +kernel : skB.getD 203 (.inl 0, []) = (.inl 0, List.replicate 8 none))
theorem h203 : (hO S Tw M P)[203]? = some (.inl (0, vec 8 (S 203))) := by
  rw [hO_S (c := 203) (by omega) ty203, sk203]
  exact congrArg some (congrArg Sum.inl (congrArg (Prod.mk 0) (slotV_vec _ _)))
theorem p203 {e v : Int} : (hO S Tw M P).set 203 (.inl (0, vec 8 (fun i => if i = e then v else S 203 i))) = hO (wS S 203 e v) Tw M P := by
  rw [← wS_r]
  refine hO_setS (c := 203) (by omega) ty203 _ ?_
  rw [sk203]
  exact congrArg Sum.inl (congrArg (Prod.mk 0) (slotV_vec _ _).symm)
theorem q203 {g : Int → Int} : (hO S Tw M P).set 203 (.inl (0, vec 8 g)) = hO (rS S 203 g) Tw M P := by
  refine hO_setS (c := 203) (by omega) ty203 _ ?_
  rw [sk203]
  exact congrArg Sum.inl (congrArg (Prod.mk 0) (slotV_vec _ _).symm)
theorem ty204 : tyOf 204 = none := by decide +kernel
theorem sk204 : skAt P 204 = (.inl 1, List.replicate 8 none) := by
  unfold skAt
  rw [if_neg (by decide)]
  exact (by decide +kernel : skB.getD 204 (.inl 0, []) = (.inl 1, List.replicate 8 none))
theorem h204 : (hO S Tw M P)[204]? = some (.inl (1, vec 8 (S 204))) := by
  rw [hO_S (c := 204) (by omega) ty204, sk204]
  exact congrArg some (congrArg Sum.inl (congrArg (Prod.mk 1) (slotV_vec _ _)))
theorem p204 {e v : Int} : (hO S Tw M P).set 204 (.inl (1, vec 8 (fun i => if i = e then v else S 204 i))) = hO (wS S 204 e v) Tw M P := by
  rw [← wS_r]
  refine hO_setS (c := 204) (by omega) ty204 _ ?_
  rw [sk204]
  exact congrArg Sum.inl (congrArg (Prod.mk 1) (slotV_vec _ _).symm)
theorem q204 {g : Int → Int} : (hO S Tw M P).set 204 (.inl (1, vec 8 g)) = hO (rS S 204 g) Tw M P := by
  refine hO_setS (c := 204) (by omega) ty204 _ ?_
  rw [sk204]
  exact congrArg Sum.inl (congrArg (Prod.mk 1) (slotV_vec _ _).symm)
theorem ty205 : tyOf 205 = none := by decide +kernel
theorem sk205 : skAt P 205 = (.inr 3, [some (tR 0 0), some (tR 15 0)]) := by
  unfold skAt
  rw [if_neg (by decide)]
  exact (by decide +kernel : skB.getD 205 (.inl 0, []) = (.inr 3, [some (tR 0 0), some (tR 15 0)]))
theorem h205 : (hO S Tw M P)[205]? = some (.inr (3, [.ref (tR 0 0), .ref (tR 15 0)])) := by
  rw [hO_S (c := 205) (by omega) ty205, sk205]
  rfl
theorem ty206 : tyOf 206 = none := by decide +kernel
theorem sk206 : skAt P 206 = (.inr 10, [some (207), some (tR 0 0), some (208), some (209), none]) := by
  unfold skAt
  rw [if_neg (by decide)]
  exact (by decide +kernel : skB.getD 206 (.inl 0, []) = (.inr 10, [some (207), some (tR 0 0), some (208), some (209), none]))
theorem h206 : (hO S Tw M P)[206]? = some (.inr (10, [.ref 207, .ref (tR 0 0), .ref 208, .ref 209, .int (iI (S 206 4))])) := by
  rw [hO_S (c := 206) (by omega) ty206, sk206]
  rfl
theorem p206_4 {v : Int} : (hO S Tw M P).set 206 (.inr (10, [.ref 207, .ref (tR 0 0), .ref 208, .ref 209, .int (iI v)])) = hO (wS S 206 4 v) Tw M P := by
  rw [← wS_r]
  refine hO_setS (c := 206) (by omega) ty206 _ ?_
  rw [sk206]
  rfl
theorem ty207 : tyOf 207 = none := by decide +kernel
theorem sk207 : skAt P 207 = (.inl 0, List.replicate 3 none) := by
  unfold skAt
  rw [if_neg (by decide)]
  exact (by decide +kernel : skB.getD 207 (.inl 0, []) = (.inl 0, List.replicate 3 none))
theorem h207 : (hO S Tw M P)[207]? = some (.inl (0, vec 3 (S 207))) := by
  rw [hO_S (c := 207) (by omega) ty207, sk207]
  exact congrArg some (congrArg Sum.inl (congrArg (Prod.mk 0) (slotV_vec _ _)))
theorem p207 {e v : Int} : (hO S Tw M P).set 207 (.inl (0, vec 3 (fun i => if i = e then v else S 207 i))) = hO (wS S 207 e v) Tw M P := by
  rw [← wS_r]
  refine hO_setS (c := 207) (by omega) ty207 _ ?_
  rw [sk207]
  exact congrArg Sum.inl (congrArg (Prod.mk 0) (slotV_vec _ _).symm)
theorem q207 {g : Int → Int} : (hO S Tw M P).set 207 (.inl (0, vec 3 g)) = hO (rS S 207 g) Tw M P := by
  refine hO_setS (c := 207) (by omega) ty207 _ ?_
  rw [sk207]
  exact congrArg Sum.inl (congrArg (Prod.mk 0) (slotV_vec _ _).symm)
theorem ty208 : tyOf 208 = none := by decide +kernel
theorem sk208 : skAt P 208 = (.inl 2, [some (tR 16 0), some (tR 17 0), some (tR 18 0)]) := by
  unfold skAt
  rw [if_neg (by decide)]
  exact (by decide +kernel : skB.getD 208 (.inl 0, []) = (.inl 2, [some (tR 16 0), some (tR 17 0), some (tR 18 0)]))
theorem h208 : (hO S Tw M P)[208]? = some (.inl (2, [.ref (tR 16 0), .ref (tR 17 0), .ref (tR 18 0)])) := by
  rw [hO_S (c := 208) (by omega) ty208, sk208]
  rfl
theorem ty209 : tyOf 209 = none := by decide +kernel
theorem sk209 : skAt P 209 = (.inl 0, List.replicate 3 none) := by
  unfold skAt
  rw [if_neg (by decide)]
  exact (by decide +kernel : skB.getD 209 (.inl 0, []) = (.inl 0, List.replicate 3 none))
theorem h209 : (hO S Tw M P)[209]? = some (.inl (0, vec 3 (S 209))) := by
  rw [hO_S (c := 209) (by omega) ty209, sk209]
  exact congrArg some (congrArg Sum.inl (congrArg (Prod.mk 0) (slotV_vec _ _)))
theorem p209 {e v : Int} : (hO S Tw M P).set 209 (.inl (0, vec 3 (fun i => if i = e then v else S 209 i))) = hO (wS S 209 e v) Tw M P := by
  rw [← wS_r]
  refine hO_setS (c := 209) (by omega) ty209 _ ?_
  rw [sk209]
  exact congrArg Sum.inl (congrArg (Prod.mk 0) (slotV_vec _ _).symm)
theorem q209 {g : Int → Int} : (hO S Tw M P).set 209 (.inl (0, vec 3 g)) = hO (rS S 209 g) Tw M P := by
  refine hO_setS (c := 209) (by omega) ty209 _ ?_
  rw [sk209]
  exact congrArg Sum.inl (congrArg (Prod.mk 0) (slotV_vec _ _).symm)
theorem ty243 : tyOf 243 = none := by decide +kernel
theorem sk243 : skAt P 243 = (.inr 1, [some (244), some (tR 0 0), some (tR 15 0), some (13), some (245), some (246), some (247)]) := by
  unfold skAt
  rw [if_neg (by decide)]
  exact (by decide +kernel : skB.getD 243 (.inl 0, []) = (.inr 1, [some (244), some (tR 0 0), some (tR 15 0), some (13), some (245), some (246), some (247)]))
theorem h243 : (hO S Tw M P)[243]? = some (.inr (1, [.ref 244, .ref (tR 0 0), .ref (tR 15 0), .ref 13, .ref 245, .ref 246, .ref 247])) := by
  rw [hO_S (c := 243) (by omega) ty243, sk243]
  rfl
theorem ty244 : tyOf 244 = none := by decide +kernel
theorem sk244 : skAt P 244 = (.inl 0, List.replicate 5 none) := by
  unfold skAt
  rw [if_neg (by decide)]
  exact (by decide +kernel : skB.getD 244 (.inl 0, []) = (.inl 0, List.replicate 5 none))
theorem h244 : (hO S Tw M P)[244]? = some (.inl (0, vec 5 (S 244))) := by
  rw [hO_S (c := 244) (by omega) ty244, sk244]
  exact congrArg some (congrArg Sum.inl (congrArg (Prod.mk 0) (slotV_vec _ _)))
theorem p244 {e v : Int} : (hO S Tw M P).set 244 (.inl (0, vec 5 (fun i => if i = e then v else S 244 i))) = hO (wS S 244 e v) Tw M P := by
  rw [← wS_r]
  refine hO_setS (c := 244) (by omega) ty244 _ ?_
  rw [sk244]
  exact congrArg Sum.inl (congrArg (Prod.mk 0) (slotV_vec _ _).symm)
theorem q244 {g : Int → Int} : (hO S Tw M P).set 244 (.inl (0, vec 5 g)) = hO (rS S 244 g) Tw M P := by
  refine hO_setS (c := 244) (by omega) ty244 _ ?_
  rw [sk244]
  exact congrArg Sum.inl (congrArg (Prod.mk 0) (slotV_vec _ _).symm)
theorem ty245 : tyOf 245 = none := by decide +kernel
theorem sk245 : skAt P 245 = (.inl 0, List.replicate 5 none) := by
  unfold skAt
  rw [if_neg (by decide)]
  exact (by decide +kernel : skB.getD 245 (.inl 0, []) = (.inl 0, List.replicate 5 none))
theorem h245 : (hO S Tw M P)[245]? = some (.inl (0, vec 5 (S 245))) := by
  rw [hO_S (c := 245) (by omega) ty245, sk245]
  exact congrArg some (congrArg Sum.inl (congrArg (Prod.mk 0) (slotV_vec _ _)))
theorem p245 {e v : Int} : (hO S Tw M P).set 245 (.inl (0, vec 5 (fun i => if i = e then v else S 245 i))) = hO (wS S 245 e v) Tw M P := by
  rw [← wS_r]
  refine hO_setS (c := 245) (by omega) ty245 _ ?_
  rw [sk245]
  exact congrArg Sum.inl (congrArg (Prod.mk 0) (slotV_vec _ _).symm)
theorem q245 {g : Int → Int} : (hO S Tw M P).set 245 (.inl (0, vec 5 g)) = hO (rS S 245 g) Tw M P := by
  refine hO_setS (c := 245) (by omega) ty245 _ ?_
  rw [sk245]
  exact congrArg Sum.inl (congrArg (Prod.mk 0) (slotV_vec _ _).symm)
theorem ty246 : tyOf 246 = none := by decide +kernel
theorem sk246 : skAt P 246 = (.inl 0, List.replicate 5 none) := by
  unfold skAt
  rw [if_neg (by decide)]
  exact (by decide +kernel : skB.getD 246 (.inl 0, []) = (.inl 0, List.replicate 5 none))
theorem h246 : (hO S Tw M P)[246]? = some (.inl (0, vec 5 (S 246))) := by
  rw [hO_S (c := 246) (by omega) ty246, sk246]
  exact congrArg some (congrArg Sum.inl (congrArg (Prod.mk 0) (slotV_vec _ _)))
theorem p246 {e v : Int} : (hO S Tw M P).set 246 (.inl (0, vec 5 (fun i => if i = e then v else S 246 i))) = hO (wS S 246 e v) Tw M P := by
  rw [← wS_r]
  refine hO_setS (c := 246) (by omega) ty246 _ ?_
  rw [sk246]
  exact congrArg Sum.inl (congrArg (Prod.mk 0) (slotV_vec _ _).symm)
theorem q246 {g : Int → Int} : (hO S Tw M P).set 246 (.inl (0, vec 5 g)) = hO (rS S 246 g) Tw M P := by
  refine hO_setS (c := 246) (by omega) ty246 _ ?_
  rw [sk246]
  exact congrArg Sum.inl (congrArg (Prod.mk 0) (slotV_vec _ _).symm)
theorem ty247 : tyOf 247 = none := by decide +kernel
theorem sk247 : skAt P 247 = (.inl 0, List.replicate 5 none) := by
  unfold skAt
  rw [if_neg (by decide)]
  exact (by decide +kernel : skB.getD 247 (.inl 0, []) = (.inl 0, List.replicate 5 none))
theorem h247 : (hO S Tw M P)[247]? = some (.inl (0, vec 5 (S 247))) := by
  rw [hO_S (c := 247) (by omega) ty247, sk247]
  exact congrArg some (congrArg Sum.inl (congrArg (Prod.mk 0) (slotV_vec _ _)))
theorem p247 {e v : Int} : (hO S Tw M P).set 247 (.inl (0, vec 5 (fun i => if i = e then v else S 247 i))) = hO (wS S 247 e v) Tw M P := by
  rw [← wS_r]
  refine hO_setS (c := 247) (by omega) ty247 _ ?_
  rw [sk247]
  exact congrArg Sum.inl (congrArg (Prod.mk 0) (slotV_vec _ _).symm)
theorem q247 {g : Int → Int} : (hO S Tw M P).set 247 (.inl (0, vec 5 g)) = hO (rS S 247 g) Tw M P := by
  refine hO_setS (c := 247) (by omega) ty247 _ ?_
  rw [sk247]
  exact congrArg Sum.inl (congrArg (Prod.mk 0) (slotV_vec _ _).symm)
theorem ty248 : tyOf 248 = none := by decide +kernel
theorem sk248 : skAt P 248 = (.inr 12, [none, some (249), none, none, none, none, some (250), some (251), some (252), some (253), some (254), some (255), some (256), some (257), some (258), some (259), some (260), none, none, none, none, some (261), some (262), some (263), some (264), none, some (265), some (266), some (267), some (268), some (269), some (270), some (271), some (272), none, none, some (273), some (274), some (275), some (276), some (277), some (278), some (279)]) := by
  unfold skAt
  rw [if_neg (by decide)]
  exact (by decide +kernel : skB.getD 248 (.inl 0, []) = (.inr 12, [none, some (249), none, none, none, none, some (250), some (251), some (252), some (253), some (254), some (255), some (256), some (257), some (258), some (259), some (260), none, none, none, none, some (261), some (262), some (263), some (264), none, some (265), some (266), some (267), some (268), some (269), some (270), some (271), some (272), none, none, some (273), some (274), some (275), some (276), some (277), some (278), some (279)]))
theorem h248 : (hO S Tw M P)[248]? = some (.inr (12, [.int (iI (M 0 0)), .ref 249, .int (iI (M 0 2)), .int (iI (M 0 3)), .int (iI (M 0 4)), .int (iI (M 0 5)), .ref 250, .ref 251, .ref 252, .ref 253, .ref 254, .ref 255, .ref 256, .ref 257, .ref 258, .ref 259, .ref 260, .int (iI (M 0 17)), .int (iI (M 0 18)), .int (iI (M 0 19)), .int (iI (M 0 20)), .ref 261, .ref 262, .ref 263, .ref 264, .int (iI (M 0 25)), .ref 265, .ref 266, .ref 267, .ref 268, .ref 269, .ref 270, .ref 271, .ref 272, .int (iI (M 0 34)), .int (iI (M 0 35)), .ref 273, .ref 274, .ref 275, .ref 276, .ref 277, .ref 278, .ref 279])) := by
  rw [hO_M (c := 248) (by omega) (by omega) ty248, sk248]
  rfl
theorem p248_0 {v : Int} : (hO S Tw M P).set 248 (.inr (12, [.int (iI v), .ref 249, .int (iI (M 0 2)), .int (iI (M 0 3)), .int (iI (M 0 4)), .int (iI (M 0 5)), .ref 250, .ref 251, .ref 252, .ref 253, .ref 254, .ref 255, .ref 256, .ref 257, .ref 258, .ref 259, .ref 260, .int (iI (M 0 17)), .int (iI (M 0 18)), .int (iI (M 0 19)), .int (iI (M 0 20)), .ref 261, .ref 262, .ref 263, .ref 264, .int (iI (M 0 25)), .ref 265, .ref 266, .ref 267, .ref 268, .ref 269, .ref 270, .ref 271, .ref 272, .int (iI (M 0 34)), .int (iI (M 0 35)), .ref 273, .ref 274, .ref 275, .ref 276, .ref 277, .ref 278, .ref 279])) = hO S Tw (wS M 0 0 v) P := by
  rw [← wS_r]
  refine hO_setM (c := 248) (by omega) ty248 _ ?_
  rw [sk248]
  rfl
theorem p248_2 {v : Int} : (hO S Tw M P).set 248 (.inr (12, [.int (iI (M 0 0)), .ref 249, .int (iI v), .int (iI (M 0 3)), .int (iI (M 0 4)), .int (iI (M 0 5)), .ref 250, .ref 251, .ref 252, .ref 253, .ref 254, .ref 255, .ref 256, .ref 257, .ref 258, .ref 259, .ref 260, .int (iI (M 0 17)), .int (iI (M 0 18)), .int (iI (M 0 19)), .int (iI (M 0 20)), .ref 261, .ref 262, .ref 263, .ref 264, .int (iI (M 0 25)), .ref 265, .ref 266, .ref 267, .ref 268, .ref 269, .ref 270, .ref 271, .ref 272, .int (iI (M 0 34)), .int (iI (M 0 35)), .ref 273, .ref 274, .ref 275, .ref 276, .ref 277, .ref 278, .ref 279])) = hO S Tw (wS M 0 2 v) P := by
  rw [← wS_r]
  refine hO_setM (c := 248) (by omega) ty248 _ ?_
  rw [sk248]
  rfl
theorem p248_3 {v : Int} : (hO S Tw M P).set 248 (.inr (12, [.int (iI (M 0 0)), .ref 249, .int (iI (M 0 2)), .int (iI v), .int (iI (M 0 4)), .int (iI (M 0 5)), .ref 250, .ref 251, .ref 252, .ref 253, .ref 254, .ref 255, .ref 256, .ref 257, .ref 258, .ref 259, .ref 260, .int (iI (M 0 17)), .int (iI (M 0 18)), .int (iI (M 0 19)), .int (iI (M 0 20)), .ref 261, .ref 262, .ref 263, .ref 264, .int (iI (M 0 25)), .ref 265, .ref 266, .ref 267, .ref 268, .ref 269, .ref 270, .ref 271, .ref 272, .int (iI (M 0 34)), .int (iI (M 0 35)), .ref 273, .ref 274, .ref 275, .ref 276, .ref 277, .ref 278, .ref 279])) = hO S Tw (wS M 0 3 v) P := by
  rw [← wS_r]
  refine hO_setM (c := 248) (by omega) ty248 _ ?_
  rw [sk248]
  rfl
theorem p248_4 {v : Int} : (hO S Tw M P).set 248 (.inr (12, [.int (iI (M 0 0)), .ref 249, .int (iI (M 0 2)), .int (iI (M 0 3)), .int (iI v), .int (iI (M 0 5)), .ref 250, .ref 251, .ref 252, .ref 253, .ref 254, .ref 255, .ref 256, .ref 257, .ref 258, .ref 259, .ref 260, .int (iI (M 0 17)), .int (iI (M 0 18)), .int (iI (M 0 19)), .int (iI (M 0 20)), .ref 261, .ref 262, .ref 263, .ref 264, .int (iI (M 0 25)), .ref 265, .ref 266, .ref 267, .ref 268, .ref 269, .ref 270, .ref 271, .ref 272, .int (iI (M 0 34)), .int (iI (M 0 35)), .ref 273, .ref 274, .ref 275, .ref 276, .ref 277, .ref 278, .ref 279])) = hO S Tw (wS M 0 4 v) P := by
  rw [← wS_r]
  refine hO_setM (c := 248) (by omega) ty248 _ ?_
  rw [sk248]
  rfl
theorem p248_5 {v : Int} : (hO S Tw M P).set 248 (.inr (12, [.int (iI (M 0 0)), .ref 249, .int (iI (M 0 2)), .int (iI (M 0 3)), .int (iI (M 0 4)), .int (iI v), .ref 250, .ref 251, .ref 252, .ref 253, .ref 254, .ref 255, .ref 256, .ref 257, .ref 258, .ref 259, .ref 260, .int (iI (M 0 17)), .int (iI (M 0 18)), .int (iI (M 0 19)), .int (iI (M 0 20)), .ref 261, .ref 262, .ref 263, .ref 264, .int (iI (M 0 25)), .ref 265, .ref 266, .ref 267, .ref 268, .ref 269, .ref 270, .ref 271, .ref 272, .int (iI (M 0 34)), .int (iI (M 0 35)), .ref 273, .ref 274, .ref 275, .ref 276, .ref 277, .ref 278, .ref 279])) = hO S Tw (wS M 0 5 v) P := by
  rw [← wS_r]
  refine hO_setM (c := 248) (by omega) ty248 _ ?_
  rw [sk248]
  rfl
theorem p248_17 {v : Int} : (hO S Tw M P).set 248 (.inr (12, [.int (iI (M 0 0)), .ref 249, .int (iI (M 0 2)), .int (iI (M 0 3)), .int (iI (M 0 4)), .int (iI (M 0 5)), .ref 250, .ref 251, .ref 252, .ref 253, .ref 254, .ref 255, .ref 256, .ref 257, .ref 258, .ref 259, .ref 260, .int (iI v), .int (iI (M 0 18)), .int (iI (M 0 19)), .int (iI (M 0 20)), .ref 261, .ref 262, .ref 263, .ref 264, .int (iI (M 0 25)), .ref 265, .ref 266, .ref 267, .ref 268, .ref 269, .ref 270, .ref 271, .ref 272, .int (iI (M 0 34)), .int (iI (M 0 35)), .ref 273, .ref 274, .ref 275, .ref 276, .ref 277, .ref 278, .ref 279])) = hO S Tw (wS M 0 17 v) P := by
  rw [← wS_r]
  refine hO_setM (c := 248) (by omega) ty248 _ ?_
  rw [sk248]
  rfl
theorem p248_18 {v : Int} : (hO S Tw M P).set 248 (.inr (12, [.int (iI (M 0 0)), .ref 249, .int (iI (M 0 2)), .int (iI (M 0 3)), .int (iI (M 0 4)), .int (iI (M 0 5)), .ref 250, .ref 251, .ref 252, .ref 253, .ref 254, .ref 255, .ref 256, .ref 257, .ref 258, .ref 259, .ref 260, .int (iI (M 0 17)), .int (iI v), .int (iI (M 0 19)), .int (iI (M 0 20)), .ref 261, .ref 262, .ref 263, .ref 264, .int (iI (M 0 25)), .ref 265, .ref 266, .ref 267, .ref 268, .ref 269, .ref 270, .ref 271, .ref 272, .int (iI (M 0 34)), .int (iI (M 0 35)), .ref 273, .ref 274, .ref 275, .ref 276, .ref 277, .ref 278, .ref 279])) = hO S Tw (wS M 0 18 v) P := by
  rw [← wS_r]
  refine hO_setM (c := 248) (by omega) ty248 _ ?_
  rw [sk248]
  rfl
theorem p248_19 {v : Int} : (hO S Tw M P).set 248 (.inr (12, [.int (iI (M 0 0)), .ref 249, .int (iI (M 0 2)), .int (iI (M 0 3)), .int (iI (M 0 4)), .int (iI (M 0 5)), .ref 250, .ref 251, .ref 252, .ref 253, .ref 254, .ref 255, .ref 256, .ref 257, .ref 258, .ref 259, .ref 260, .int (iI (M 0 17)), .int (iI (M 0 18)), .int (iI v), .int (iI (M 0 20)), .ref 261, .ref 262, .ref 263, .ref 264, .int (iI (M 0 25)), .ref 265, .ref 266, .ref 267, .ref 268, .ref 269, .ref 270, .ref 271, .ref 272, .int (iI (M 0 34)), .int (iI (M 0 35)), .ref 273, .ref 274, .ref 275, .ref 276, .ref 277, .ref 278, .ref 279])) = hO S Tw (wS M 0 19 v) P := by
  rw [← wS_r]
  refine hO_setM (c := 248) (by omega) ty248 _ ?_
  rw [sk248]
  rfl
theorem p248_20 {v : Int} : (hO S Tw M P).set 248 (.inr (12, [.int (iI (M 0 0)), .ref 249, .int (iI (M 0 2)), .int (iI (M 0 3)), .int (iI (M 0 4)), .int (iI (M 0 5)), .ref 250, .ref 251, .ref 252, .ref 253, .ref 254, .ref 255, .ref 256, .ref 257, .ref 258, .ref 259, .ref 260, .int (iI (M 0 17)), .int (iI (M 0 18)), .int (iI (M 0 19)), .int (iI v), .ref 261, .ref 262, .ref 263, .ref 264, .int (iI (M 0 25)), .ref 265, .ref 266, .ref 267, .ref 268, .ref 269, .ref 270, .ref 271, .ref 272, .int (iI (M 0 34)), .int (iI (M 0 35)), .ref 273, .ref 274, .ref 275, .ref 276, .ref 277, .ref 278, .ref 279])) = hO S Tw (wS M 0 20 v) P := by
  rw [← wS_r]
  refine hO_setM (c := 248) (by omega) ty248 _ ?_
  rw [sk248]
  rfl
theorem p248_25 {v : Int} : (hO S Tw M P).set 248 (.inr (12, [.int (iI (M 0 0)), .ref 249, .int (iI (M 0 2)), .int (iI (M 0 3)), .int (iI (M 0 4)), .int (iI (M 0 5)), .ref 250, .ref 251, .ref 252, .ref 253, .ref 254, .ref 255, .ref 256, .ref 257, .ref 258, .ref 259, .ref 260, .int (iI (M 0 17)), .int (iI (M 0 18)), .int (iI (M 0 19)), .int (iI (M 0 20)), .ref 261, .ref 262, .ref 263, .ref 264, .int (iI v), .ref 265, .ref 266, .ref 267, .ref 268, .ref 269, .ref 270, .ref 271, .ref 272, .int (iI (M 0 34)), .int (iI (M 0 35)), .ref 273, .ref 274, .ref 275, .ref 276, .ref 277, .ref 278, .ref 279])) = hO S Tw (wS M 0 25 v) P := by
  rw [← wS_r]
  refine hO_setM (c := 248) (by omega) ty248 _ ?_
  rw [sk248]
  rfl
theorem p248_34 {v : Int} : (hO S Tw M P).set 248 (.inr (12, [.int (iI (M 0 0)), .ref 249, .int (iI (M 0 2)), .int (iI (M 0 3)), .int (iI (M 0 4)), .int (iI (M 0 5)), .ref 250, .ref 251, .ref 252, .ref 253, .ref 254, .ref 255, .ref 256, .ref 257, .ref 258, .ref 259, .ref 260, .int (iI (M 0 17)), .int (iI (M 0 18)), .int (iI (M 0 19)), .int (iI (M 0 20)), .ref 261, .ref 262, .ref 263, .ref 264, .int (iI (M 0 25)), .ref 265, .ref 266, .ref 267, .ref 268, .ref 269, .ref 270, .ref 271, .ref 272, .int (iI v), .int (iI (M 0 35)), .ref 273, .ref 274, .ref 275, .ref 276, .ref 277, .ref 278, .ref 279])) = hO S Tw (wS M 0 34 v) P := by
  rw [← wS_r]
  refine hO_setM (c := 248) (by omega) ty248 _ ?_
  rw [sk248]
  rfl
theorem p248_35 {v : Int} : (hO S Tw M P).set 248 (.inr (12, [.int (iI (M 0 0)), .ref 249, .int (iI (M 0 2)), .int (iI (M 0 3)), .int (iI (M 0 4)), .int (iI (M 0 5)), .ref 250, .ref 251, .ref 252, .ref 253, .ref 254, .ref 255, .ref 256, .ref 257, .ref 258, .ref 259, .ref 260, .int (iI (M 0 17)), .int (iI (M 0 18)), .int (iI (M 0 19)), .int (iI (M 0 20)), .ref 261, .ref 262, .ref 263, .ref 264, .int (iI (M 0 25)), .ref 265, .ref 266, .ref 267, .ref 268, .ref 269, .ref 270, .ref 271, .ref 272, .int (iI (M 0 34)), .int (iI v), .ref 273, .ref 274, .ref 275, .ref 276, .ref 277, .ref 278, .ref 279])) = hO S Tw (wS M 0 35 v) P := by
  rw [← wS_r]
  refine hO_setM (c := 248) (by omega) ty248 _ ?_
  rw [sk248]
  rfl
theorem ty249 : tyOf 249 = none := by decide +kernel
theorem sk249 : skAt P 249 = (.inl 0, List.replicate 64 none) := by
  unfold skAt
  rw [if_neg (by decide)]
  exact (by decide +kernel : skB.getD 249 (.inl 0, []) = (.inl 0, List.replicate 64 none))
theorem h249 : (hO S Tw M P)[249]? = some (.inl (0, vec 64 (M 1))) := by
  rw [hO_M (c := 249) (by omega) (by omega) ty249, sk249]
  exact congrArg some (congrArg Sum.inl (congrArg (Prod.mk 0) (slotV_vec _ _)))
theorem p249 {e v : Int} : (hO S Tw M P).set 249 (.inl (0, vec 64 (fun i => if i = e then v else M 1 i))) = hO S Tw (wS M 1 e v) P := by
  rw [← wS_r]
  refine hO_setM (c := 249) (by omega) ty249 _ ?_
  rw [sk249]
  exact congrArg Sum.inl (congrArg (Prod.mk 0) (slotV_vec _ _).symm)
theorem q249 {g : Int → Int} : (hO S Tw M P).set 249 (.inl (0, vec 64 g)) = hO S Tw (rS M 1 g) P := by
  refine hO_setM (c := 249) (by omega) ty249 _ ?_
  rw [sk249]
  exact congrArg Sum.inl (congrArg (Prod.mk 0) (slotV_vec _ _).symm)
theorem ty250 : tyOf 250 = none := by decide +kernel
theorem sk250 : skAt P 250 = (.inl 0, List.replicate 5 none) := by
  unfold skAt
  rw [if_neg (by decide)]
  exact (by decide +kernel : skB.getD 250 (.inl 0, []) = (.inl 0, List.replicate 5 none))
theorem h250 : (hO S Tw M P)[250]? = some (.inl (0, vec 5 (M 2))) := by
  rw [hO_M (c := 250) (by omega) (by omega) ty250, sk250]
  exact congrArg some (congrArg Sum.inl (congrArg (Prod.mk 0) (slotV_vec _ _)))
theorem p250 {e v : Int} : (hO S Tw M P).set 250 (.inl (0, vec 5 (fun i => if i = e then v else M 2 i))) = hO S Tw (wS M 2 e v) P := by
  rw [← wS_r]
  refine hO_setM (c := 250) (by omega) ty250 _ ?_
  rw [sk250]
  exact congrArg Sum.inl (congrArg (Prod.mk 0) (slotV_vec _ _).symm)
theorem q250 {g : Int → Int} : (hO S Tw M P).set 250 (.inl (0, vec 5 g)) = hO S Tw (rS M 2 g) P := by
  refine hO_setM (c := 250) (by omega) ty250 _ ?_
  rw [sk250]
  exact congrArg Sum.inl (congrArg (Prod.mk 0) (slotV_vec _ _).symm)
theorem ty251 : tyOf 251 = none := by decide +kernel
theorem sk251 : skAt P 251 = (.inl 0, List.replicate 5 none) := by
  unfold skAt
  rw [if_neg (by decide)]
  exact (by decide +kernel : skB.getD 251 (.inl 0, []) = (.inl 0, List.replicate 5 none))
theorem h251 : (hO S Tw M P)[251]? = some (.inl (0, vec 5 (M 3))) := by
  rw [hO_M (c := 251) (by omega) (by omega) ty251, sk251]
  exact congrArg some (congrArg Sum.inl (congrArg (Prod.mk 0) (slotV_vec _ _)))
theorem p251 {e v : Int} : (hO S Tw M P).set 251 (.inl (0, vec 5 (fun i => if i = e then v else M 3 i))) = hO S Tw (wS M 3 e v) P := by
  rw [← wS_r]
  refine hO_setM (c := 251) (by omega) ty251 _ ?_
  rw [sk251]
  exact congrArg Sum.inl (congrArg (Prod.mk 0) (slotV_vec _ _).symm)
theorem q251 {g : Int → Int} : (hO S Tw M P).set 251 (.inl (0, vec 5 g)) = hO S Tw (rS M 3 g) P := by
  refine hO_setM (c := 251) (by omega) ty251 _ ?_
  rw [sk251]
  exact congrArg Sum.inl (congrArg (Prod.mk 0) (slotV_vec _ _).symm)
theorem ty252 : tyOf 252 = none := by decide +kernel
theorem sk252 : skAt P 252 = (.inl 0, List.replicate 5 none) := by
  unfold skAt
  rw [if_neg (by decide)]
  exact (by decide +kernel : skB.getD 252 (.inl 0, []) = (.inl 0, List.replicate 5 none))
theorem h252 : (hO S Tw M P)[252]? = some (.inl (0, vec 5 (M 4))) := by
  rw [hO_M (c := 252) (by omega) (by omega) ty252, sk252]
  exact congrArg some (congrArg Sum.inl (congrArg (Prod.mk 0) (slotV_vec _ _)))
theorem p252 {e v : Int} : (hO S Tw M P).set 252 (.inl (0, vec 5 (fun i => if i = e then v else M 4 i))) = hO S Tw (wS M 4 e v) P := by
  rw [← wS_r]
  refine hO_setM (c := 252) (by omega) ty252 _ ?_
  rw [sk252]
  exact congrArg Sum.inl (congrArg (Prod.mk 0) (slotV_vec _ _).symm)
theorem q252 {g : Int → Int} : (hO S Tw M P).set 252 (.inl (0, vec 5 g)) = hO S Tw (rS M 4 g) P := by
  refine hO_setM (c := 252) (by omega) ty252 _ ?_
  rw [sk252]
  exact congrArg Sum.inl (congrArg (Prod.mk 0) (slotV_vec _ _).symm)
theorem ty253 : tyOf 253 = none := by decide +kernel
theorem sk253 : skAt P 253 = (.inl 0, List.replicate 5 none) := by
  unfold skAt
  rw [if_neg (by decide)]
  exact (by decide +kernel : skB.getD 253 (.inl 0, []) = (.inl 0, List.replicate 5 none))
theorem h253 : (hO S Tw M P)[253]? = some (.inl (0, vec 5 (M 5))) := by
  rw [hO_M (c := 253) (by omega) (by omega) ty253, sk253]
  exact congrArg some (congrArg Sum.inl (congrArg (Prod.mk 0) (slotV_vec _ _)))
theorem p253 {e v : Int} : (hO S Tw M P).set 253 (.inl (0, vec 5 (fun i => if i = e then v else M 5 i))) = hO S Tw (wS M 5 e v) P := by
  rw [← wS_r]
  refine hO_setM (c := 253) (by omega) ty253 _ ?_
  rw [sk253]
  exact congrArg Sum.inl (congrArg (Prod.mk 0) (slotV_vec _ _).symm)
theorem q253 {g : Int → Int} : (hO S Tw M P).set 253 (.inl (0, vec 5 g)) = hO S Tw (rS M 5 g) P := by
  refine hO_setM (c := 253) (by omega) ty253 _ ?_
  rw [sk253]
  exact congrArg Sum.inl (congrArg (Prod.mk 0) (slotV_vec _ _).symm)
theorem ty254 : tyOf 254 = none := by decide +kernel
theorem sk254 : skAt P 254 = (.inl 0, List.replicate 5 none) := by
  unfold skAt
  rw [if_neg (by decide)]
  exact (by decide +kernel : skB.getD 254 (.inl 0, []) = (.inl 0, List.replicate 5 none))
theorem h254 : (hO S Tw M P)[254]? = some (.inl (0, vec 5 (M 6))) := by
  rw [hO_M (c := 254) (by omega) (by omega) ty254, sk254]
  exact congrArg some (congrArg Sum.inl (congrArg (Prod.mk 0) (slotV_vec _ _)))
theorem p254 {e v : Int} : (hO S Tw M P).set 254 (.inl (0, vec 5 (fun i => if i = e then v else M 6 i))) = hO S Tw (wS M 6 e v) P := by
  rw [← wS_r]
  refine hO_setM (c := 254) (by omega) ty254 _ ?_
  rw [sk254]
  exact congrArg Sum.inl (congrArg (Prod.mk 0) (slotV_vec _ _).symm)
theorem q254 {g : Int → Int} : (hO S Tw M P).set 254 (.inl (0, vec 5 g)) = hO S Tw (rS M 6 g) P := by
  refine hO_setM (c := 254) (by omega) ty254 _ ?_
  rw [sk254]
  exact congrArg Sum.inl (congrArg (Prod.mk 0) (slotV_vec _ _).symm)
theorem ty255 : tyOf 255 = none := by decide +kernel
theorem sk255 : skAt P 255 = (.inl 0, List.replicate 5 none) := by
  unfold skAt
  rw [if_neg (by decide)]
  exact (by decide +kernel : skB.getD 255 (.inl 0, []) = (.inl 0, List.replicate 5 none))
theorem h255 : (hO S Tw M P)[255]? = some (.inl (0, vec 5 (M 7))) := by
  rw [hO_M (c := 255) (by omega) (by omega) ty255, sk255]
  exact congrArg some (congrArg Sum.inl (congrArg (Prod.mk 0) (slotV_vec _ _)))
theorem p255 {e v : Int} : (hO S Tw M P).set 255 (.inl (0, vec 5 (fun i => if i = e then v else M 7 i))) = hO S Tw (wS M 7 e v) P := by
  rw [← wS_r]
  refine hO_setM (c := 255) (by omega) ty255 _ ?_
  rw [sk255]
  exact congrArg Sum.inl (congrArg (Prod.mk 0) (slotV_vec _ _).symm)
theorem q255 {g : Int → Int} : (hO S Tw M P).set 255 (.inl (0, vec 5 g)) = hO S Tw (rS M 7 g) P := by
  refine hO_setM (c := 255) (by omega) ty255 _ ?_
  rw [sk255]
  exact congrArg Sum.inl (congrArg (Prod.mk 0) (slotV_vec _ _).symm)
theorem ty256 : tyOf 256 = none := by decide +kernel
theorem sk256 : skAt P 256 = (.inl 0, List.replicate 5 none) := by
  unfold skAt
  rw [if_neg (by decide)]
  exact (by decide +kernel : skB.getD 256 (.inl 0, []) = (.inl 0, List.replicate 5 none))
theorem h256 : (hO S Tw M P)[256]? = some (.inl (0, vec 5 (M 8))) := by
  rw [hO_M (c := 256) (by omega) (by omega) ty256, sk256]
  exact congrArg some (congrArg Sum.inl (congrArg (Prod.mk 0) (slotV_vec _ _)))
theorem p256 {e v : Int} : (hO S Tw M P).set 256 (.inl (0, vec 5 (fun i => if i = e then v else M 8 i))) = hO S Tw (wS M 8 e v) P := by
  rw [← wS_r]
  refine hO_setM (c := 256) (by omega) ty256 _ ?_
  rw [sk256]
  exact congrArg Sum.inl (congrArg (Prod.mk 0) (slotV_vec _ _).symm)
theorem q256 {g : Int → Int} : (hO S Tw M P).set 256 (.inl (0, vec 5 g)) = hO S Tw (rS M 8 g) P := by
  refine hO_setM (c := 256) (by omega) ty256 _ ?_
  rw [sk256]
  exact congrArg Sum.inl (congrArg (Prod.mk 0) (slotV_vec _ _).symm)
theorem ty257 : tyOf 257 = none := by decide +kernel
theorem sk257 : skAt P 257 = (.inl 0, List.replicate 5 none) := by
  unfold skAt
  rw [if_neg (by decide)]
  exact (by decide +kernel : skB.getD 257 (.inl 0, []) = (.inl 0, List.replicate 5 none))
theorem h257 : (hO S Tw M P)[257]? = some (.inl (0, vec 5 (M 9))) := by
  rw [hO_M (c := 257) (by omega) (by omega) ty257, sk257]
  exact congrArg some (congrArg Sum.inl (congrArg (Prod.mk 0) (slotV_vec _ _)))
theorem p257 {e v : Int} : (hO S Tw M P).set 257 (.inl (0, vec 5 (fun i => if i = e then v else M 9 i))) = hO S Tw (wS M 9 e v) P := by
  rw [← wS_r]
  refine hO_setM (c := 257) (by omega) ty257 _ ?_
  rw [sk257]
  exact congrArg Sum.inl (congrArg (Prod.mk 0) (slotV_vec _ _).symm)
theorem q257 {g : Int → Int} : (hO S Tw M P).set 257 (.inl (0, vec 5 g)) = hO S Tw (rS M 9 g) P := by
  refine hO_setM (c := 257) (by omega) ty257 _ ?_
  rw [sk257]
  exact congrArg Sum.inl (congrArg (Prod.mk 0) (slotV_vec _ _).symm)
theorem ty258 : tyOf 258 = none := by decide +kernel
theorem sk258 : skAt P 258 = (.inl 0, List.replicate 5 none) := by
  unfold skAt
  rw [if_neg (by decide)]
  exact (by decide +kernel : skB.getD 258 (.inl 0, []) = (.inl 0, List.replicate 5 none))
theorem h258 : (hO S Tw M P)[258]? = some (.inl (0, vec 5 (M 10))) := by
  rw [hO_M (c := 258) (by omega) (by omega) ty258, sk258]
  exact congrArg some (congrArg Sum.inl (congrArg (Prod.mk 0) (slotV_vec _ _)))
theorem p258 {e v : Int} : (hO S Tw M P).set 258 (.inl (0, vec 5 (fun i => if i = e then v else M 10 i))) = hO S Tw (wS M 10 e v) P := by
  rw [← wS_r]
  refine hO_setM (c := 258) (by omega) ty258 _ ?_
  rw [sk258]
  exact congrArg Sum.inl (congrArg (Prod.mk 0) (slotV_vec _ _).symm)
theorem q258 {g : Int → Int} : (hO S Tw M P).set 258 (.inl (0, vec 5 g)) = hO S Tw (rS M 10 g) P := by
  refine hO_setM (c := 258) (by omega) ty258 _ ?_
  rw [sk258]
  exact congrArg Sum.inl (congrArg (Prod.mk 0) (slotV_vec _ _).symm)
theorem ty259 : tyOf 259 = none := by decide +kernel
theorem sk259 : skAt P 259 = (.inl 0, List.replicate 5 none) := by
  unfold skAt
  rw [if_neg (by decide)]
  exact (by decide +kernel : skB.getD 259 (.inl 0, []) = (.inl 0, List.replicate 5 none))
theorem h259 : (hO S Tw M P)[259]? = some (.inl (0, vec 5 (M 11))) := by
  rw [hO_M (c := 259) (by omega) (by omega) ty259, sk259]
  exact congrArg some (congrArg Sum.inl (congrArg (Prod.mk 0) (slotV_vec _ _)))
theorem p259 {e v : Int} : (hO S Tw M P).set 259 (.inl (0, vec 5 (fun i => if i = e then v else M 11 i))) = hO S Tw (wS M 11 e v) P := by
  rw [← wS_r]
  refine hO_setM (c := 259) (by omega) ty259 _ ?_
  rw [sk259]
  exact congrArg Sum.inl (congrArg (Prod.mk 0) (slotV_vec _ _).symm)
theorem q259 {g : Int → Int} : (hO S Tw M P).set 259 (.inl (0, vec 5 g)) = hO S Tw (rS M 11 g) P := by
  refine hO_setM (c := 259) (by omega) ty259 _ ?_
  rw [sk259]
  exact congrArg Sum.inl (congrArg (Prod.mk 0) (slotV_vec _ _).symm)
theorem ty260 : tyOf 260 = none := by decide +kernel
theorem sk260 : skAt P 260 = (.inl 0, List.replicate 5 none) := by
  unfold skAt
  rw [if_neg (by decide)]
  exact (by decide +kernel : skB.getD 260 (.inl 0, []) = (.inl 0, List.replicate 5 none))
theorem h260 : (hO S Tw M P)[260]? = some (.inl (0, vec 5 (M 12))) := by
  rw [hO_M (c := 260) (by omega) (by omega) ty260, sk260]
  exact congrArg some (congrArg Sum.inl (congrArg (Prod.mk 0) (slotV_vec _ _)))
theorem p260 {e v : Int} : (hO S Tw M P).set 260 (.inl (0, vec 5 (fun i => if i = e then v else M 12 i))) = hO S Tw (wS M 12 e v) P := by
  rw [← wS_r]
  refine hO_setM (c := 260) (by omega) ty260 _ ?_
  rw [sk260]
  exact congrArg Sum.inl (congrArg (Prod.mk 0) (slotV_vec _ _).symm)
theorem q260 {g : Int → Int} : (hO S Tw M P).set 260 (.inl (0, vec 5 g)) = hO S Tw (rS M 12 g) P := by
  refine hO_setM (c := 260) (by omega) ty260 _ ?_
  rw [sk260]
  exact congrArg Sum.inl (congrArg (Prod.mk 0) (slotV_vec _ _).symm)
theorem ty261 : tyOf 261 = none := by decide +kernel
theorem sk261 : skAt P 261 = (.inl 0, List.replicate 5 none) := by
  unfold skAt
  rw [if_neg (by decide)]
  exact (by decide +kernel : skB.getD 261 (.inl 0, []) = (.inl 0, List.replicate 5 none))
theorem h261 : (hO S Tw M P)[261]? = some (.inl (0, vec 5 (M 13))) := by
  rw [hO_M (c := 261) (by omega) (by omega) ty261, sk261]
  exact congrArg some (congrArg Sum.inl (congrArg (Prod.mk 0) (slotV_vec _ _)))
theorem p261 {e v : Int} : (hO S Tw M P).set 261 (.inl (0, vec 5 (fun i => if i = e then v else M 13 i))) = hO S Tw (wS M 13 e v) P := by
  rw [← wS_r]
  refine hO_setM (c := 261) (by omega) ty261 _ ?_
  rw [sk261]
  exact congrArg Sum.inl (congrArg (Prod.mk 0) (slotV_vec _ _).symm)
theorem q261 {g : Int → Int} : (hO S Tw M P).set 261 (.inl (0, vec 5 g)) = hO S Tw (rS M 13 g) P := by
  refine hO_setM (c := 261) (by omega) ty261 _ ?_
  rw [sk261]
  exact congrArg Sum.inl (congrArg (Prod.mk 0) (slotV_vec _ _).symm)
theorem ty262 : tyOf 262 = none := by decide +kernel
theorem sk262 : skAt P 262 = (.inl 0, List.replicate 5 none) := by
  unfold skAt
  rw [if_neg (by decide)]
  exact (by decide +kernel : skB.getD 262 (.inl 0, []) = (.inl 0, List.replicate 5 none))
theorem h262 : (hO S Tw M P)[262]? = some (.inl (0, vec 5 (M 14))) := by
  rw [hO_M (c := 262) (by omega) (by omega) ty262, sk262]
  exact congrArg some (congrArg Sum.inl (congrArg (Prod.mk 0) (slotV_vec _ _)))
theorem p262 {e v : Int} : (hO S Tw M P).set 262 (.inl (0, vec 5 (fun i => if i = e then v else M 14 i))) = hO S Tw (wS M 14 e v) P := by
  rw [← wS_r]
  refine hO_setM (c := 262) (by omega) ty262 _ ?_
  rw [sk262]
  exact congrArg Sum.inl (congrArg (Prod.mk 0) (slotV_vec _ _).symm)
theorem q262 {g : Int → Int} : (hO S Tw M P).set 262 (.inl (0, vec 5 g)) = hO S Tw (rS M 14 g) P := by
  refine hO_setM (c := 262) (by omega) ty262 _ ?_
  rw [sk262]
  exact congrArg Sum.inl (congrArg (Prod.mk 0) (slotV_vec _ _).symm)
theorem ty263 : tyOf 263 = none := by decide +kernel
theorem sk263 : skAt P 263 = (.inl 0, List.replicate 30 none) := by
  unfold skAt
  rw [if_neg (by decide)]
  exact (by decide +kernel : skB.getD 263 (.inl 0, []) = (.inl 0, List.replicate 30 none))
theorem h263 : (hO S Tw M P)[263]? = some (.inl (0, vec 30 (M 15))) := by
  rw [hO_M (c := 263) (by omega) (by omega) ty263, sk263]
  exact congrArg some (congrArg Sum.inl (congrArg (Prod.mk 0) (slotV_vec _ _)))
theorem p263 {e v : Int} : (hO S Tw M P).set 263 (.inl (0, vec 30 (fun i => if i = e then v else M 15 i))) = hO S Tw (wS M 15 e v) P := by
  rw [← wS_r]
  refine hO_setM (c := 263) (by omega) ty263 _ ?_
  rw [sk263]
  exact congrArg Sum.inl (congrArg (Prod.mk 0) (slotV_vec _ _).symm)
theorem q263 {g : Int → Int} : (hO S Tw M P).set 263 (.inl (0, vec 30 g)) = hO S Tw (rS M 15 g) P := by
  refine hO_setM (c := 263) (by omega) ty263 _ ?_
  rw [sk263]
  exact congrArg Sum.inl (congrArg (Prod.mk 0) (slotV_vec _ _).symm)
theorem ty264 : tyOf 264 = none := by decide +kernel
theorem sk264 : skAt P 264 = (.inl 0, List.replicate 192 none) := by
  unfold skAt
  rw [if_neg (by decide)]
  exact (by decide +kernel : skB.getD 264 (.inl 0, []) = (.inl 0, List.replicate 192 none))
theorem h264 : (hO S Tw M P)[264]? = some (.inl (0, vec 192 (M 16))) := by
  rw [hO_M (c := 264) (by omega) (by omega) ty264, sk264]
  exact congrArg some (congrArg Sum.inl (congrArg (Prod.mk 0) (slotV_vec _ _)))
theorem p264 {e v : Int} : (hO S Tw M P).set 264 (.inl (0, vec 192 (fun i => if i = e then v else M 16 i))) = hO S Tw (wS M 16 e v) P := by
  rw [← wS_r]
  refine hO_setM (c := 264) (by omega) ty264 _ ?_
  rw [sk264]
  exact congrArg Sum.inl (congrArg (Prod.mk 0) (slotV_vec _ _).symm)
theorem q264 {g : Int → Int} : (hO S Tw M P).set 264 (.inl (0, vec 192 g)) = hO S Tw (rS M 16 g) P := by
  refine hO_setM (c := 264) (by omega) ty264 _ ?_
  rw [sk264]
  exact congrArg Sum.inl (congrArg (Prod.mk 0) (slotV_vec _ _).symm)
theorem ty265 : tyOf 265 = none := by decide +kernel
theorem sk265 : skAt P 265 = (.inl 0, List.replicate 72 none) := by
  unfold skAt
  rw [if_neg (by decide)]
  exact (by decide +kernel : skB.getD 265 (.inl 0, []) = (.inl 0, List.replicate 72 none))
theorem h265 : (hO S Tw M P)[265]? = some (.inl (0, vec 72 (M 17))) := by
  rw [hO_M (c := 265) (by omega) (by omega) ty265, sk265]
  exact congrArg some (congrArg Sum.inl (congrArg (Prod.mk 0) (slotV_vec _ _)))
theorem p265 {e v : Int} : (hO S Tw M P).set 265 (.inl (0, vec 72 (fun i => if i = e then v else M 17 i))) = hO S Tw (wS M 17 e v) P := by
  rw [← wS_r]
  refine hO_setM (c := 265) (by omega) ty265 _ ?_
  rw [sk265]
  exact congrArg Sum.inl (congrArg (Prod.mk 0) (slotV_vec _ _).symm)
theorem q265 {g : Int → Int} : (hO S Tw M P).set 265 (.inl (0, vec 72 g)) = hO S Tw (rS M 17 g) P := by
  refine hO_setM (c := 265) (by omega) ty265 _ ?_
  rw [sk265]
  exact congrArg Sum.inl (congrArg (Prod.mk 0) (slotV_vec _ _).symm)
theorem ty266 : tyOf 266 = none := by decide +kernel
theorem sk266 : skAt P 266 = (.inl 1, List.replicate 2 none) := by
  unfold skAt
  rw [if_neg (by decide)]
  exact (by decide +kernel : skB.getD 266 (.inl 0, []) = (.inl 1, List.replicate 2 none))
theorem h266 : (hO S Tw M P)[266]? = some (.inl (1, vec 2 (M 18))) := by
  rw [hO_M (c := 266) (by omega) (by omega) ty266, sk266]
  exact congrArg some (congrArg Sum.inl (congrArg (Prod.mk 1) (slotV_vec _ _)))
theorem p266 {e v : Int} : (hO S Tw M P).set 266 (.inl (1, vec 2 (fun i => if i = e then v else M 18 i))) = hO S Tw (wS M 18 e v) P := by
  rw [← wS_r]
  refine hO_setM (c := 266) (by omega) ty266 _ ?_
  rw [sk266]
  exact congrArg Sum.inl (congrArg (Prod.mk 1) (slotV_vec _ _).symm)
theorem q266 {g : Int → Int} : (hO S Tw M P).set 266 (.inl (1, vec 2 g)) = hO S Tw (rS M 18 g) P := by
  refine hO_setM (c := 266) (by omega) ty266 _ ?_
  rw [sk266]
  exact congrArg Sum.inl (congrArg (Prod.mk 1) (slotV_vec _ _).symm)
theorem ty267 : tyOf 267 = none := by decide +kernel
theorem sk267 : skAt P 267 = (.inl 0, List.replicate 5 none) := by
  unfold skAt
  rw [if_neg (by decide)]
  exact (by decide +kernel : skB.getD 267 (.inl 0, []) = (.inl 0, List.replicate 5 none))
theorem h267 : (hO S Tw M P)[267]? = some (.inl (0, vec 5 (M 19))) := by
  rw [hO_M (c := 267) (by omega) (by omega) ty267, sk267]
  exact congrArg some (congrArg Sum.inl (congrArg (Prod.mk 0) (slotV_vec _ _)))
theorem p267 {e v : Int} : (hO S Tw M P).set 267 (.inl (0, vec 5 (fun i => if i = e then v else M 19 i))) = hO S Tw (wS M 19 e v) P := by
  rw [← wS_r]
  refine hO_setM (c := 267) (by omega) ty267 _ ?_
  rw [sk267]
  exact congrArg Sum.inl (congrArg (Prod.mk 0) (slotV_vec _ _).symm)
theorem q267 {g : Int → Int} : (hO S Tw M P).set 267 (.inl (0, vec 5 g)) = hO S Tw (rS M 19 g) P := by
  refine hO_setM (c := 267) (by omega) ty267 _ ?_
  rw [sk267]
  exact congrArg Sum.inl (congrArg (Prod.mk 0) (slotV_vec _ _).symm)
theorem ty268 : tyOf 268 = none := by decide +kernel
theorem sk268 : skAt P 268 = (.inl 0, List.replicate 5 none) := by
  unfold skAt
  rw [if_neg (by decide)]
  exact (by decide +kernel : skB.getD 268 (.inl 0, []) = (.inl 0, List.replicate 5 none))
theorem h268 : (hO S Tw M P)[268]? = some (.inl (0, vec 5 (M 20))) := by
  rw [hO_M (c := 268) (by omega) (by omega) ty268, sk268]
  exact congrArg some (congrArg Sum.inl (congrArg (Prod.mk 0) (slotV_vec _ _)))
theorem p268 {e v : Int} : (hO S Tw M P).set 268 (.inl (0, vec 5 (fun i => if i = e then v else M 20 i))) = hO S Tw (wS M 20 e v) P := by
  rw [← wS_r]
  refine hO_setM (c := 268) (by omega) ty268 _ ?_
  rw [sk268]
  exact congrArg Sum.inl (congrArg (Prod.mk 0) (slotV_vec _ _).symm)
theorem q268 {g : Int → Int} : (hO S Tw M P).set 268 (.inl (0, vec 5 g)) = hO S Tw (rS M 20 g) P := by
  refine hO_setM (c := 268) (by omega) ty268 _ ?_
  rw [sk268]
  exact congrArg Sum.inl (congrArg (Prod.mk 0) (slotV_vec _ _).symm)
theorem ty269 : tyOf 269 = none := by decide +kernel
theorem sk269 : skAt P 269 = (.inl 0, List.replicate 5 none) := by
  unfold skAt
  rw [if_neg (by decide)]
  exact (by decide +kernel : skB.getD 269 (.inl 0, []) = (.inl 0, List.replicate 5 none))
theorem h269 : (hO S Tw M P)[269]? = some (.inl (0, vec 5 (M 21))) := by
  rw [hO_M (c := 269) (by omega) (by omega) ty269, sk269]
  exact congrArg some (congrArg Sum.inl (congrArg (Prod.mk 0) (slotV_vec _ _)))
theorem p269 {e v : Int} : (hO S Tw M P).set 269 (.inl (0, vec 5 (fun i => if i = e then v else M 21 i))) = hO S Tw (wS M 21 e v) P := by
  rw [← wS_r]
  refine hO_setM (c := 269) (by omega) ty269 _ ?_
  rw [sk269]
  exact congrArg Sum.inl (congrArg (Prod.mk 0) (slotV_vec _ _).symm)
theorem q269 {g : Int → Int} : (hO S Tw M P).set 269 (.inl (0, vec 5 g)) = hO S Tw (rS M 21 g) P := by
  refine hO_setM (c := 269) (by omega) ty269 _ ?_
  rw [sk269]
  exact congrArg Sum.inl (congrArg (Prod.mk 0) (slotV_vec _ _).symm)
theorem ty270 : tyOf 270 = none := by decide +kernel
theorem sk270 : skAt P 270 = (.inl 0, List.replicate 5 none) := by
  unfold skAt
  rw [if_neg (by decide)]
  exact (by decide +kernel : skB.getD 270 (.inl 0, []) = (.inl 0, List.replicate 5 none))
theorem h270 : (hO S Tw M P)[270]? = some (.inl (0, vec 5 (M 22))) := by
  rw [hO_M (c := 270) (by omega) (by omega) ty270, sk270]
  exact congrArg some (congrArg Sum.inl (congrArg (Prod.mk 0) (slotV_vec _ _)))
theorem p270 {e v : Int} : (hO S Tw M P).set 270 (.inl (0, vec 5 (fun i => if i = e then v else M 22 i))) = hO S Tw (wS M 22 e v) P := by
  rw [← wS_r]
  refine hO_setM (c := 270) (by omega) ty270 _ ?_
  rw [sk270]
  exact congrArg Sum.inl (congrArg (Prod.mk 0) (slotV_vec _ _).symm)
theorem q270 {g : Int → Int} : (hO S Tw M P).set 270 (.inl (0, vec 5 g)) = hO S Tw (rS M 22 g) P := by
  refine hO_setM (c := 270) (by omega) ty270 _ ?_
  rw [sk270]
  exact congrArg Sum.inl (congrArg (Prod.mk 0) (slotV_vec _ _).symm)
theorem ty271 : tyOf 271 = none := by decide +kernel
theorem sk271 : skAt P 271 = (.inl 0, List.replicate 5 none) := by
  unfold skAt
  rw [if_neg (by decide)]
  exact (by decide +kernel : skB.getD 271 (.inl 0, []) = (.inl 0, List.replicate 5 none))
theorem h271 : (hO S Tw M P)[271]? = some (.inl (0, vec 5 (M 23))) := by
  rw [hO_M (c := 271) (by omega) (by omega) ty271, sk271]
  exact congrArg some (congrArg Sum.inl (congrArg (Prod.mk 0) (slotV_vec _ _)))
theorem p271 {e v : Int} : (hO S Tw M P).set 271 (.inl (0, vec 5 (fun i => if i = e then v else M 23 i))) = hO S Tw (wS M 23 e v) P := by
  rw [← wS_r]
  refine hO_setM (c := 271) (by omega) ty271 _ ?_
  rw [sk271]
  exact congrArg Sum.inl (congrArg (Prod.mk 0) (slotV_vec _ _).symm)
theorem q271 {g : Int → Int} : (hO S Tw M P).set 271 (.inl (0, vec 5 g)) = hO S Tw (rS M 23 g) P := by
  refine hO_setM (c := 271) (by omega) ty271 _ ?_
  rw [sk271]
  exact congrArg Sum.inl (congrArg (Prod.mk 0) (slotV_vec _ _).symm)
theorem ty272 : tyOf 272 = none := by decide +kernel
theorem sk272 : skAt P 272 = (.inl 0, List.replicate 5 none) := by
  unfold skAt
  rw [if_neg (by decide)]
  exact (by decide +kernel : skB.getD 272 (.inl 0, []) = (.inl 0, List.replicate 5 none))
theorem h272 : (hO S Tw M P)[272]? = some (.inl (0, vec 5 (M 24))) := by
  rw [hO_M (c := 272) (by omega) (by omega) ty272, sk272]
  exact congrArg some (congrArg Sum.inl (congrArg (Prod.mk 0) (slotV_vec _ _)))
theorem p272 {e v : Int} : (hO S Tw M P).set 272 (.inl (0, vec 5 (fun i => if i = e then v else M 24 i))) = hO S Tw (wS M 24 e v) P := by
  rw [← wS_r]
  refine hO_setM (c := 272) (by omega) ty272 _ ?_
  rw [sk272]
  exact congrArg Sum.inl (congrArg (Prod.mk 0) (slotV_vec _ _).symm)
theorem q272 {g : Int → Int} : (hO S Tw M P).set 272 (.inl (0, vec 5 g)) = hO S Tw (rS M 24 g) P := by
  refine hO_setM (c := 272) (by omega) ty272 _ ?_
  rw [sk272]
  exact congrArg Sum.inl (congrArg (Prod.mk 0) (slotV_vec _ _).symm)
theorem ty273 : tyOf 273 = none := by decide +kernel
theorem sk273 : skAt P 273 = (.inl 0, List.replicate 8 none) := by
  unfold skAt
  rw [if_neg (by decide)]
  exact (by decide +kernel : skB.getD 273 (.inl 0, []) = (.inl 0, List.replicate 8 none))
theorem h273 : (hO S Tw M P)[273]? = some (.inl (0, vec 8 (M 25))) := by
  rw [hO_M (c := 273) (by omega) (by omega) ty273, sk273]
  exact congrArg some (congrArg Sum.inl (congrArg (Prod.mk 0) (slotV_vec _ _)))
theorem p273 {e v : Int} : (hO S Tw M P).set 273 (.inl (0, vec 8 (fun i => if i = e then v else M 25 i))) = hO S Tw (wS M 25 e v) P := by
  rw [← wS_r]
  refine hO_setM (c := 273) (by omega) ty273 _ ?_
  rw [sk273]
  exact congrArg Sum.inl (congrArg (Prod.mk 0) (slotV_vec _ _).symm)
theorem q273 {g : Int → Int} : (hO S Tw M P).set 273 (.inl (0, vec 8 g)) = hO S Tw (rS M 25 g) P := by
  refine hO_setM (c := 273) (by omega) ty273 _ ?_
  rw [sk273]
  exact congrArg Sum.inl (congrArg (Prod.mk 0) (slotV_vec _ _).symm)
theorem ty274 : tyOf 274 = none := by decide +kernel
theorem sk274 : skAt P 274 = (.inl 0, List.replicate 8 none) := by
  unfold skAt
  rw [if_neg (by decide)]
  exact (by decide +kernel : skB.getD 274 (.inl 0, []) = (.inl 0, List.replicate 8 none))
theorem h274 : (hO S Tw M P)[274]? = some (.inl (0, vec 8 (M 26))) := by
  rw [hO_M (c := 274) (by omega) (by omega) ty274, sk274]
  exact congrArg some (congrArg Sum.inl (congrArg (Prod.mk 0) (slotV_vec _ _)))
theorem p274 {e v : Int} : (hO S Tw M P).set 274 (.inl (0, vec 8 (fun i => if i = e then v else M 26 i))) = hO S Tw (wS M 26 e v) P := by
  rw [← wS_r]
  refine hO_setM (c := 274) (by omega) ty274 _ ?_
  rw [sk274]
  exact congrArg Sum.inl (congrArg (Prod.mk 0) (slotV_vec _ _).symm)
theorem q274 {g : Int → Int} : (hO S Tw M P).set 274 (.inl (0, vec 8 g)) = hO S Tw (rS M 26 g) P := by
  refine hO_setM (c := 274) (by omega) ty274 _ ?_
  rw [sk274]
  exact congrArg Sum.inl (congrArg (Prod.mk 0) (slotV_vec _ _).symm)
theorem ty275 : tyOf 275 = none := by decide +kernel
theorem sk275 : skAt P 275 = (.inl 0, List.replicate 8 none) := by
  unfold skAt
  rw [if_neg (by decide)]
  exact (by decide +kernel : skB.getD 275 (.inl 0, []) = (.inl 0, List.replicate 8 none))
theorem h275 : (hO S Tw M P)[275]? = some (.inl (0, vec 8 (M 27))) := by
  rw [hO_M (c := 275) (by omega) (by omega) ty275, sk275]
  exact congrArg some (congrArg Sum.inl (congrArg (Prod.mk 0) (slotV_vec _ _)))
theorem p275 {e v : Int} : (hO S Tw M P).set 275 (.inl (0, vec 8 (fun i => if i = e then v else M 27 i))) = hO S Tw (wS M 27 e v) P := by
  rw [← wS_r]
  refine hO_setM (c := 275) (by omega) ty275 _ ?_
  rw [sk275]
  exact congrArg Sum.inl (congrArg (Prod.mk 0) (slotV_vec _ _).symm)
theorem q275 {g : Int → Int} : (hO S Tw M P).set 275 (.inl (0, vec 8 g)) = hO S Tw (rS M 27 g) P := by
  refine hO_setM (c := 275) (by omega) ty275 _ ?_
  rw [sk275]
  exact congrArg Sum.inl (congrArg (Prod.mk 0) (slotV_vec _ _).symm)
theorem ty276 : tyOf 276 = none := by decide +kernel
theorem sk276 : skAt P 276 = (.inl 0, List.replicate 8 none) := by
  unfold skAt
  rw [if_neg (by decide)]
  exact (by decide +kernel : skB.getD 276 (.inl 0, []) = (.inl 0, List.replicate 8 none))
theorem h276 : (hO S Tw M P)[276]? = some (.inl (0, vec 8 (M 28))) := by
  rw [hO_M (c := 276) (by omega) (by omega) ty276, sk276]
  exact congrArg some (congrArg Sum.inl (congrArg (Prod.mk 0) (slotV_vec _ _)))
theorem p276 {e v : Int} : (hO S Tw M P).set 276 (.inl (0, vec 8 (fun i => if i = e then v else M 28 i))) = hO S Tw (wS M 28 e v) P := by
  rw [← wS_r]
  refine hO_setM (c := 276) (by omega) ty276 _ ?_
  rw [sk276]
  exact congrArg Sum.inl (congrArg (Prod.mk 0) (slotV_vec _ _).symm)
theorem q276 {g : Int → Int} : (hO S Tw M P).set 276 (.inl (0, vec 8 g)) = hO S Tw (rS M 28 g) P := by
  refine hO_setM (c := 276) (by omega) ty276 _ ?_
  rw [sk276]
  exact congrArg Sum.inl (congrArg (Prod.mk 0) (slotV_vec _ _).symm)
theorem ty277 : tyOf 277 = none := by decide +kernel
theorem sk277 : skAt P 277 = (.inl 1, List.replicate 8 none) := by
  unfold skAt
  rw [if_neg (by decide)]
  exact (by decide +kernel : skB.getD 277 (.inl 0, []) = (.inl 1, List.replicate 8 none))
theorem h277 : (hO S Tw M P)[277]? = some (.inl (1, vec 8 (M 29))) := by
  rw [hO_M (c := 277) (by omega) (by omega) ty277, sk277]
  exact congrArg some (congrArg Sum.inl (congrArg (Prod.mk 1) (slotV_vec _ _)))
theorem p277 {e v : Int} : (hO S Tw M P).set 277 (.inl (1, vec 8 (fun i => if i = e then v else M 29 i))) = hO S Tw (wS M 29 e v) P := by
  rw [← wS_r]
  refine hO_setM (c := 277) (by omega) ty277 _ ?_
  rw [sk277]
  exact congrArg Sum.inl (congrArg (Prod.mk 1) (slotV_vec _ _).symm)
theorem q277 {g : Int → Int} : (hO S Tw M P).set 277 (.inl (1, vec 8 g)) = hO S Tw (rS M 29 g) P := by
  refine hO_setM (c := 277) (by omega) ty277 _ ?_
  rw [sk277]
  exact congrArg Sum.inl (congrArg (Prod.mk 1) (slotV_vec _ _).symm)
theorem ty278 : tyOf 278 = none := by decide +kernel
theorem sk278 : skAt P 278 = (.inl 0, List.replicate 3 none) := by
  unfold skAt
  rw [if_neg (by decide)]
  exact (by decide +kernel : skB.getD 278 (.inl 0, []) = (.inl 0, List.replicate 3 none))
theorem h278 : (hO S Tw M P)[278]? = some (.inl (0, vec 3 (M 30))) := by
  rw [hO_M (c := 278) (by omega) (by omega) ty278, sk278]
  exact congrArg some (congrArg Sum.inl (congrArg (Prod.mk 0) (slotV_vec _ _)))
theorem p278 {e v : Int} : (hO S Tw M P).set 278 (.inl (0, vec 3 (fun i => if i = e then v else M 30 i))) = hO S Tw (wS M 30 e v) P := by
  rw [← wS_r]
  refine hO_setM (c := 278) (by omega) ty278 _ ?_
  rw [sk278]
  exact congrArg Sum.inl (congrArg (Prod.mk 0) (slotV_vec _ _).symm)
theorem q278 {g : Int → Int} : (hO S Tw M P).set 278 (.inl (0, vec 3 g)) = hO S Tw (rS M 30 g) P := by
  refine hO_setM (c := 278) (by omega) ty278 _ ?_
  rw [sk278]
  exact congrArg Sum.inl (congrArg (Prod.mk 0) (slotV_vec _ _).symm)
theorem ty279 : tyOf 279 = none := by decide +kernel
theorem sk279 : skAt P 279 = (.inl 0, List.replicate 5 none) := by
  unfold skAt
  rw [if_neg (by decide)]
  exact (by decide +kernel : skB.getD 279 (.inl 0, []) = (.inl 0, List.replicate 5 none))
theorem h279 : (hO S Tw M P)[279]? = some (.inl (0, vec 5 (M 31))) := by
  rw [hO_M (c := 279) (by omega) (by omega) ty279, sk279]
  exact congrArg some (congrArg Sum.inl (congrArg (Prod.mk 0) (slotV_vec _ _)))
theorem p279 {e v : Int} : (hO S Tw M P).set 279 (.inl (0, vec 5 (fun i => if i = e then v else M 31 i))) = hO S Tw (wS M 31 e v) P := by
  rw [← wS_r]
  refine hO_setM (c := 279) (by omega) ty279 _ ?_
  rw [sk279]
  exact congrArg Sum.inl (congrArg (Prod.mk 0) (slotV_vec _ _).symm)
theorem q279 {g : Int → Int} : (hO S Tw M P).set 279 (.inl (0, vec 5 g)) = hO S Tw (rS M 31 g) P := by
  refine hO_setM (c := 279) (by omega) ty279 _ ?_
  rw [sk279]
  exact congrArg Sum.inl (congrArg (Prod.mk 0) (slotV_vec _ _).symm)
end HC
end
