/-! rows for calls, writes, copies -/
theorem cpyL_all {n : Nat} {g0 g : Int → Int} : cpyL (vec n g0) (vec n g) 0 0 n = vec n g0 := by
  apply List.ext_getElem?
  intro i
  unfold cpyL
  rw [vec_len, List.getElem?_map]
  by_cases h : i < n
  · rw [List.getElem?_range h]
    simp only [Option.map_some]
    rw [if_pos (by omega), show 0 + (i - 0) = i by omega, List.getD_eq_getElem?_getD]
    have h1 : i < (vec n g0).length := by rw [vec_len]; exact h
    rw [List.getElem?_eq_getElem h1]
    rfl
  · rw [List.getElem?_eq_none (by simpa using h), List.getElem?_eq_none (by rw [vec_len]; omega)]
    rfl
section GR2
variable {xs : Option (List Int32)} {d cn : Nat} {ini : Bool} {ret : Option FieldType} {mc ms n0 : Nat} {cc : ByteArray} {Q : Option Value → GH → Prop} {ns pc : Nat} {loc : GL} {stk st : List Value} {hp : GH}
theorem g_putf {ci k idx a : Nat} {fs : List Value} {x : Int} {hp' : GH} {pc' : Nat} (hd : decode cc pc = .ok (.putfield idx, 3)) (hc : hp[a]? = some (.inr (ci, fs))) (hf : fT cn idx = some (ci, k)) (hk : k < fs.length) (hty : tyC ci k = .int) (hfin : fin ci k = false) (hw : hp.set a (.inr (ci, fs.set k (.int (iI x)))) = hp') (hpc : pc + 3 = pc') (kk : G xs d cn ini ret mc ms n0 cc Q ns pc' loc st hp') : G xs d cn ini ret mc ms n0 cc Q ns pc loc (.int (iI x) :: .ref a :: st) hp := by
  subst hw
  refine g_hp (stk' := st) hd ?_ hpc kk
  unfold gHp
  simp only [hc, hf]
  rw [if_pos ⟨trivial, hk, by rw [hty]; rfl, fun h => by rw [hfin] at h; cases h⟩]
theorem g_callV {idx mid n ci o : Nat} {rest : List Value} {as : List Value} {fs : List Value} {pc' : Nat} {nn : Nat} (hd : decode cc pc = .ok (.invokevirtual idx, 3)) (hm : mT cn idx = some (mid, 0) ∧ nM mid = nn ∧ clM mid = ci ∧ cM mid = 0 ∧ sM mid = 0) (hs : stk.drop n = .ref o :: rest) (ho : hp[o]? = some (.inr (ci, fs))) (hn : nn = n) (hl : n ≤ stk.length) (hw : wgt rest ≤ 8) (ha : .ref o :: (stk.take n).reverse = as) (hpc : pc + 3 = pc')
    (k : CallD d mid as hp (fun v hp' => G xs d cn ini ret mc ms n0 cc Q ns pc' loc (v.toList ++ rest) hp')) : G xs d cn ini ret mc ms n0 cc Q ns pc loc stk hp := by
  obtain ⟨h1, h2, h3, h4, h5⟩ := hm
  subst hn
  refine g_call hd ?_ ⟨h4, h5⟩ hpc k
  unfold gCall
  simp only [h1, h2, hs, ho, h3]
  rw [if_pos ⟨trivial, hl, hw⟩, ha]
theorem g_callS {idx mid n nn ci : Nat} {as : List Value} {pc' : Nat} {rest : List Value} (hd : decode cc pc = .ok (.invokestatic idx, 3)) (hm : mT cn idx = some (mid, 1) ∧ nM mid = nn ∧ clM mid = ci ∧ cM mid = 0 ∧ sM mid = 0) (hn : nn = n) (hl : n ≤ stk.length) (hw : wgt (stk.drop n) ≤ 8) (ha : (stk.take n).reverse = as) (hr : stk.drop n = rest) (hpc : pc + 3 = pc')
    (k : CallD d mid as hp (fun v hp' => G xs d cn ini ret mc ms n0 cc Q ns pc' loc (v.toList ++ rest) hp')) : G xs d cn ini ret mc ms n0 cc Q ns pc loc stk hp := by
  obtain ⟨h1, h2, h3, h4, h5⟩ := hm
  subst hn hr
  refine g_call hd ?_ ⟨h4, h5⟩ hpc k
  unfold gCall
  simp only [h1, h2]
  rw [if_pos ⟨hl, hw⟩, ha]
theorem g_copy {idx a a0 n : Nat} {g g0 : Int → Int} {e : Int} {hp' : GH} {pc' : Nat} (hd : decode cc pc = .ok (.invokestatic idx, 3)) (hi : pT cn idx = true ∧ bT cn idx = false) (hc0 : hp[a0]? = some (.inl (0, vec n g0))) (hc : hp[a]? = some (.inl (0, vec n g))) (he : e = n) (hn : n < 1000000) (hw : hp.set a (.inl (0, vec n g0)) = hp') (hst : wgt st ≤ 8) (hpc : pc + 3 = pc')
    (kk : G xs d cn ini ret mc ms n0 cc Q ns pc' loc st hp') : G xs d cn ini ret mc ms n0 cc Q ns pc loc (.int (iI e) :: .int (iI 0) :: .ref a :: .int (iI 0) :: .ref a0 :: st) hp := by
  subst he hw
  refine g_hp (stk' := st) hd ?_ hpc kk
  have h1 : (iI (n : Int)).toInt = n := iI_toInt ⟨by omega, by omega⟩
  have h2 : (iI 0).toInt = 0 := iI_toInt ⟨by omega, by omega⟩
  unfold gHp
  simp only [hi.1, hi.2, if_true, hc0, hc, h1, h2, vec_len]
  rw [if_neg (by decide), if_pos ⟨by omega, by omega, by omega, by omega, by omega, hst⟩]
  simp only [Int.toNat_zero, Int.toNat_natCast, cpyL_all]
theorem g_abs {idx : Nat} {a : Int} {pc' : Nat} (hd : decode cc pc = .ok (.invokestatic idx, 3)) (hi : bT cn idx = true) (ha : R32 a) (hst : wgt st ≤ 8) (hpc : pc + 3 = pc') (kk : G xs d cn ini ret mc ms n0 cc Q ns pc' loc (.int (iI (if 0 ≤ a then a else -a)) :: st) hp) : G xs d cn ini ret mc ms n0 cc Q ns pc loc (.int (iI a) :: st) hp := by
  refine g_hp (hp' := hp) (stk' := .int (iI (if 0 ≤ a then a else -a)) :: st) hd ?_ hpc kk
  have h0 : (0 : Int32) = iI 0 := iI_0.symm
  unfold gHp
  simp only [hi, if_true]
  rw [if_pos (show (st.map fun v => v.category).sum ≤ 8 from hst)]
  by_cases h : 0 ≤ a
  · rw [if_pos h, if_pos (by rw [h0, iI_le ⟨by omega, by omega⟩ ha]; exact h)]
  · rw [if_neg h, if_neg (by rw [h0, iI_le ⟨by omega, by omega⟩ ha]; exact h), h0, iI_sub]
    simp
theorem g_ldc2_w {idx : Nat} {v : Int64} {pc' : Nat} (hd : decode cc pc = .ok (.ldc2_w idx, 3)) (hk : lT cn idx = some v) (hpc : pc + 3 = pc') (kk : G xs d cn ini ret mc ms n0 cc Q ns pc' loc (.long v :: stk) hp) : G xs d cn ini ret mc ms n0 cc Q ns pc loc stk hp := by
  refine g_hp (hp' := hp) (stk' := .long v :: stk) hd ?_ hpc kk
  unfold gHp
  simp only [hk]
theorem g_ldc_w {idx : Nat} {v : Int32} {pc' : Nat} (hd : decode cc pc = .ok (.ldc_w idx, 3)) (hk : iT cn idx = some v) (hpc : pc + 3 = pc') (kk : G xs d cn ini ret mc ms n0 cc Q ns pc' loc (.int v :: stk) hp) : G xs d cn ini ret mc ms n0 cc Q ns pc loc stk hp := by
  refine g_hp (hp' := hp) (stk' := .int v :: stk) hd ?_ hpc kk
  unfold gHp
  simp only [hk]
theorem g_slen {l : List Int32} {z pc' : Nat} (hd : decode cc pc = .ok (.arraylength, 1)) (hpc : pc + 1 = pc') (kk : G (some l) d cn ini ret mc ms n0 cc Q ns pc' loc (.int (iI (l.length : Int)) :: st) hp) : G (some l) d cn ini ret mc ms n0 cc Q ns pc loc (.retAddr z :: st) hp := by
  refine g_hp (hp' := hp) (stk' := .int (iI (l.length : Int)) :: st) hd ?_ hpc kk
  unfold gHp iI
  simp only [Int32.ofInt_eq_ofNat]
theorem g_sld {l : List Int32} {z : Nat} {e : Int} {pc' : Nat} (hd : decode cc pc = .ok (.iaload, 1)) (h0 : (0 ≤ e ∧ e < l.length) ∧ l.length < 1000000) (hpc : pc + 1 = pc') (kk : G (some l) d cn ini ret mc ms n0 cc Q ns pc' loc (.int (iI (l.getD e.toNat 0).toInt) :: st) hp) : G (some l) d cn ini ret mc ms n0 cc Q ns pc loc (.int (iI e) :: .retAddr z :: st) hp := by
  refine g_hp (hp' := hp) (stk' := .int (iI (l.getD e.toNat 0).toInt) :: st) hd ?_ hpc kk
  unfold gHp
  simp only [ix_iI h0.1.1 h0.1.2 h0.2, iI_of]
end GR2
section GR3
variable {S : Nat → Int → Int} {Tw : Nat → Nat → Int → Int} {M : Nat → Int → Int} {P : Nat → Nat}
variable {xs : Option (List Int32)} {d cn : Nat} {ini : Bool} {ret : Option FieldType} {mc ms n0 : Nat} {cc : ByteArray} {Q : Option Value → GH → Prop} {ns pc : Nat} {loc : GL} {stk st : List Value}
theorem g_aald31 {e : Int} {pc' : Nat} (hd : decode cc pc = .ok (.aaload, 1)) (h0 : 0 ≤ e ∧ e < 12) (hpc : pc + 1 = pc') (kk : G xs d cn ini ret mc ms n0 cc Q ns pc' loc (.ref (tR (P e.toNat) 0) :: st) (hO S Tw M P)) : G xs d cn ini ret mc ms n0 cc Q ns pc loc (.int (iI e) :: .ref 31 :: st) (hO S Tw M P) := by
  refine g_aald hd h31 (Or.inl rfl) (by simp; omega) (by simp) ?_ hpc kk
  rw [List.getElem?_map, List.getElem?_range (by omega)]
  rfl
theorem g_aald164 {e : Int} {pc' : Nat} (hd : decode cc pc = .ok (.aaload, 1)) (h0 : 0 ≤ e ∧ e < 2) (hpc : pc + 1 = pc') (kk : G xs d cn ini ret mc ms n0 cc Q ns pc' loc (.ref (tR (13 + e.toNat) 0) :: st) (hO S Tw M P)) : G xs d cn ini ret mc ms n0 cc Q ns pc loc (.int (iI e) :: .ref 164 :: st) (hO S Tw M P) := by
  refine g_aald hd h164 (Or.inl rfl) (by simp; omega) (by simp) ?_ hpc kk
  rcases (show e = 0 ∨ e = 1 by omega) with rfl | rfl <;> rfl
theorem g_aald208 {e : Int} {pc' : Nat} (hd : decode cc pc = .ok (.aaload, 1)) (h0 : 0 ≤ e ∧ e < 3) (hpc : pc + 1 = pc') (kk : G xs d cn ini ret mc ms n0 cc Q ns pc' loc (.ref (tR (16 + e.toNat) 0) :: st) (hO S Tw M P)) : G xs d cn ini ret mc ms n0 cc Q ns pc loc (.int (iI e) :: .ref 208 :: st) (hO S Tw M P) := by
  refine g_aald hd h208 (Or.inl rfl) (by simp; omega) (by simp) ?_ hpc kk
  rcases (show e = 0 ∨ e = 1 ∨ e = 2 by omega) with rfl | rfl | rfl <;> rfl
theorem g_aald6 {e : Int} {pc' : Nat} (hd : decode cc pc = .ok (.aaload, 1)) (h0 : 0 ≤ e ∧ e < 5) (hpc : pc + 1 = pc') (kk : G xs d cn ini ret mc ms n0 cc Q ns pc' loc (.ref (7 + e.toNat) :: st) (hO S Tw M P)) : G xs d cn ini ret mc ms n0 cc Q ns pc loc (.int (iI e) :: .ref 6 :: st) (hO S Tw M P) := by
  refine g_aald hd h6 (Or.inr rfl) (by simp; omega) (by simp) ?_ hpc kk
  rcases (show e = 0 ∨ e = 1 ∨ e = 2 ∨ e = 3 ∨ e = 4 by omega) with rfl | rfl | rfl | rfl | rfl <;> rfl
theorem hdig {p : Nat} (hp : p < 5) : (hO S Tw M P)[7 + p]? = some (.inl (0, vec 6 (S (7 + p)))) := by
  rcases (show p = 0 ∨ p = 1 ∨ p = 2 ∨ p = 3 ∨ p = 4 by omega) with rfl | rfl | rfl | rfl | rfl
  · exact h7
  · exact h8
  · exact h9
  · exact h10
  · exact h11
theorem pdig {p : Nat} (hp : p < 5) {e v : Int} : (hO S Tw M P).set (7 + p) (.inl (0, vec 6 (fun i => if i = e then v else S (7 + p) i))) = hO (wS S (7 + p) e v) Tw M P := by
  rcases (show p = 0 ∨ p = 1 ∨ p = 2 ∨ p = 3 ∨ p = 4 by omega) with rfl | rfl | rfl | rfl | rfl
  · exact p7
  · exact p8
  · exact p9
  · exact p10
  · exact p11
end GR3
