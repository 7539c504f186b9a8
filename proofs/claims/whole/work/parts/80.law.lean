/-! the law's loop -/
section LA
variable {xs : Option (List Int32)} {d cn : Nat} {ini : Bool} {ret' : Option FieldType} {mc ms n0 : Nat} {cc : ByteArray} {Q : Option Value → GH → Prop} {ns pc : Nat} {loc : GL} {stk st : List Value} {hp : GH}
theorem g_same {a off : Int} {t : Nat} (hd : decode cc pc = .ok (.if_icmp .eq off, 3)) (ht : (pc : Int) + off = (t : Int)) (k : G xs d cn ini ret' mc ms n0 cc Q ns t loc st hp) : G xs d cn ini ret' mc ms n0 cc Q ns pc loc (.int (iI a) :: .int (iI a) :: st) hp := by
  rw [← iI_of (iI a)]
  exact g_icmp_eq hd ht rfl (R32_of _) (R32_of _) (fun _ => k) (fun h => absurd rfl h)
theorem R64_of (x : Int64) : R64 x.toInt := ⟨Int64.le_toInt x, Int64.toInt_lt x⟩
theorem g_sameL {a : Int64} {pc' : Nat} (hd : decode cc pc = .ok (.lcmp, 1)) (hpc : pc + 1 = pc') (k : G xs d cn ini ret' mc ms n0 cc Q ns pc' loc (.int (iI 0) :: st) hp) : G xs d cn ini ret' mc ms n0 cc Q ns pc loc (.long a :: .long a :: st) hp := by
  rw [← lI_of a]
  refine g_lcmp hd (R64_of _) (R64_of _) hpc ?_
  have e : cmp3 a.toInt a.toInt = 0 := by
    unfold cmp3
    rw [if_neg (by omega), if_pos rfl]
  rw [e]
  exact k
end LA
set_option maxHeartbeats 4000000 in
theorem law_loop (l : List Int32) (hl : l.length ≤ 3072) {ns : Nat} : ∀ (m : Nat) (i B : Int) (S : Nat → Int → Int) (Tw : Nat → Nat → Int → Int) (M : Nat → Int → Int) (P : Nat → Nat), 0 ≤ i → i ≤ 6 * 512 + 6 → (3078 - i).toNat = m → B = 30 * i → Rel S Tw M P B →
    G (some l) 40 14 false ret 280 9000 0 code (fun v _ => v = some (.int 1)) ns 18 [some (.retAddr 0), some (.ref 0), some (.ref 248), some (.int (iI i))] [] (hO S Tw M P) := by
  intro m
  induction m using Nat.strongRecOn with
  | ind m ihm =>
  intro i B S Tw M P bi0 bi1 hm hB hrel
  have next : i ≤ (l.length : Int) - 6 → ∀ (S2 : Nat → Int → Int) (T2 : Nat → Nat → Int → Int) (M2 : Nat → Int → Int) (P2 : Nat → Nat), Rel S2 T2 M2 P2 (B + 180) → G (some l) 40 14 false ret 280 9000 0 code (fun v _ => v = some (.int 1)) ns 1059 [some (.retAddr 0), some (.ref 0), some (.ref 248), some (.int (iI i))] [] (hO S2 T2 M2 P2) := by
    intro hi S2 T2 M2 P2 hr2
    refine g_iinc (loc' := [some _, some _, some _, some _]) dL_law_1059 rfl rfl rfl ?_
    refine g_goto (t := 18) dL_law_1062 (by decide) ?_
    exact ihm (3078 - (i + 6)).toNat (by omega) (i + 6) (B + 180) S2 T2 M2 P2 (by omega) (by omega) rfl (by omega) hr2
  refine g_l dL_law_18 rfl rfl ?_
  refine g_l dL_law_19 rfl rfl ?_
  refine g_slen dL_law_20 rfl ?_
  refine g_bipush dL_law_21 (by decide) rfl ?_
  refine g_isub dL_law_23 rfl ?_
  refine g_icmp_gt (t := 1065) dL_law_24 (by decide) rfl (by omega) (by omega) (fun c_24 => ?_) (fun c_24 => ?_)
  · refine g_iconst dL_law_1065 rfl ?_
    exact g_ret dL_law_1066 rfl (Or.inr (by rw [hO_len])) rfl
  have nx := next (by omega)
  refine g_l dL_law_27 rfl rfl ?_
  refine g_l dL_law_28 rfl rfl ?_
  refine g_sld dL_law_29 (by omega) rfl ?_
  refine g_bipush dL_law_30 (by decide) rfl ?_
  refine g_iand dL_law_32 rfl ?_
  have rb : R32 (bAnd (l.getD i.toNat 0).toInt 31) := R_bAnd
  generalize bAnd (l.getD i.toNat 0).toInt 31 = sel at rb ⊢
  rcases (show sel = 0 ∨ sel = 1 ∨ sel = 2 ∨ sel = 3 ∨ sel = 4 ∨ sel = 5 ∨ sel = 6 ∨ sel = 7 ∨ sel = 8 ∨ sel = 9 ∨ sel = 10 ∨ sel = 11 ∨ sel = 12 ∨ sel = 13 ∨ sel = 14 ∨ sel = 15 ∨ sel = 16 ∨ sel = 17 ∨ sel = 18 ∨ sel = 19 ∨ sel = 20 ∨ sel = 21 ∨ sel = 22 ∨ sel = 23 ∨ sel = 24 ∨ sel = 25 ∨ (sel < 0 ∨ 25 < sel) by omega) with c | c | c | c | c | c | c | c | c | c | c | c | c | c | c | c | c | c | c | c | c | c | c | c | c | c | c
  · -- write
    refine g_tsw (t := 152) (off := 119) dL_law_33 (by decide) (by omega) (sw_c (v := 0) (by omega) (by decide)) ?_
    refine g_l dL_law_152 rfl rfl ?_
    refine g_l dL_law_153 rfl rfl ?_
    refine g_l dL_law_154 rfl rfl ?_
    refine g_iconst dL_law_155 rfl ?_
    refine g_iadd dL_law_156 rfl ?_
    refine g_sld dL_law_157 (by omega) rfl ?_
    refine g_l dL_law_158 rfl rfl ?_
    refine g_l dL_law_159 rfl rfl ?_
    refine g_iconst dL_law_160 rfl ?_
    refine g_iadd dL_law_161 rfl ?_
    refine g_sld dL_law_162 (by omega) rfl ?_
    refine g_s dL_law_163 rfl rfl rfl ?_
    refine g_bipush dL_law_164 (by decide) rfl ?_
    refine g_s dL_law_166 rfl rfl rfl ?_
    refine g_l dL_law_167 rfl rfl ?_
    refine g_l dL_law_168 rfl rfl ?_
    refine g_iconst dL_law_169 rfl ?_
    refine g_iadd dL_law_170 rfl ?_
    refine g_sld dL_law_171 (by omega) rfl ?_
    refine g_s dL_law_172 rfl rfl rfl ?_
    refine g_ldc2_w dL_law_173 k_14_13 rfl ?_
    refine g_s dL_law_176 rfl rfl rfl ?_
    refine g_s dL_law_177 rfl rfl rfl ?_
    refine g_callV dL_law_178 m_14_15 (n := 2) rfl h0 rfl (Nat.le_of_ble_eq_true rfl) (Nat.le_of_ble_eq_true rfl) rfl rfl ?_
    refine CallD_mono _ _ _ _ _ _ (fun v1 hh1 hv => ?_) (st_write hrel (R32_of _))
    obtain ⟨a, rfl, ⟨S1, T1, P1, rfl⟩, hv⟩ := hv
    simp only [Option.toList_some, Option.toList_none, List.cons_append, List.nil_append]
    refine g_l dL_law_181 rfl rfl ?_
    refine g_l dL_law_182 rfl rfl ?_
    refine g_l dL_law_183 rfl rfl ?_
    refine g_iconst dL_law_184 rfl ?_
    refine g_iadd dL_law_185 rfl ?_
    refine g_sld dL_law_186 (by omega) rfl ?_
    refine g_l dL_law_187 rfl rfl ?_
    refine g_l dL_law_188 rfl rfl ?_
    refine g_iconst dL_law_189 rfl ?_
    refine g_iadd dL_law_190 rfl ?_
    refine g_sld dL_law_191 (by omega) rfl ?_
    refine g_s dL_law_192 rfl rfl rfl ?_
    refine g_bipush dL_law_193 (by decide) rfl ?_
    refine g_s dL_law_195 rfl rfl rfl ?_
    refine g_l dL_law_196 rfl rfl ?_
    refine g_l dL_law_197 rfl rfl ?_
    refine g_iconst dL_law_198 rfl ?_
    refine g_iadd dL_law_199 rfl ?_
    refine g_sld dL_law_200 (by omega) rfl ?_
    refine g_s dL_law_201 rfl rfl rfl ?_
    refine g_ldc2_w dL_law_202 k_14_13 rfl ?_
    refine g_s dL_law_205 rfl rfl rfl ?_
    refine g_s dL_law_206 rfl rfl rfl ?_
    refine g_callV dL_law_207 m_14_19 (n := 2) rfl h248 rfl (Nat.le_of_ble_eq_true rfl) (Nat.le_of_ble_eq_true rfl) rfl rfl ?_
    refine CallD_mono _ _ _ _ _ _ (fun v2 hh2 hw => ?_) hv
    obtain ⟨rfl, S2, T2, M2, P2, rfl, hrel2⟩ := hw
    simp only [Option.toList_some, Option.toList_none, List.cons_append, List.nil_append]
    exact g_same dL_law_210 (by decide) (nx S2 T2 M2 P2 hrel2)
  · -- wipe
    refine g_tsw (t := 215) (off := 182) dL_law_33 (by decide) (by omega) (sw_c (v := 1) (by omega) (by decide)) ?_
    refine g_l dL_law_215 rfl rfl ?_
    refine g_callV dL_law_216 m_14_20 (n := 0) rfl h0 rfl (Nat.le_of_ble_eq_true rfl) (Nat.le_of_ble_eq_true rfl) rfl rfl ?_
    refine CallD_mono _ _ _ _ _ _ (fun v1 hh1 hv => ?_) (st_wipe hrel )
    obtain ⟨a, rfl, ⟨S1, T1, P1, rfl⟩, hv⟩ := hv
    simp only [Option.toList_some, Option.toList_none, List.cons_append, List.nil_append]
    refine g_l dL_law_219 rfl rfl ?_
    refine g_callV dL_law_220 m_14_24 (n := 0) rfl h248 rfl (Nat.le_of_ble_eq_true rfl) (Nat.le_of_ble_eq_true rfl) rfl rfl ?_
    refine CallD_mono _ _ _ _ _ _ (fun v2 hh2 hw => ?_) hv
    obtain ⟨rfl, S2, T2, M2, P2, rfl, hrel2⟩ := hw
    simp only [Option.toList_some, Option.toList_none, List.cons_append, List.nil_append]
    exact g_same dL_law_223 (by decide) (nx S2 T2 M2 P2 hrel2)
  · -- fault
    refine g_tsw (t := 228) (off := 195) dL_law_33 (by decide) (by omega) (sw_c (v := 2) (by omega) (by decide)) ?_
    refine g_l dL_law_228 rfl rfl ?_
    refine g_callV dL_law_229 m_14_25 (n := 0) rfl h0 rfl (Nat.le_of_ble_eq_true rfl) (Nat.le_of_ble_eq_true rfl) rfl rfl ?_
    refine CallD_mono _ _ _ _ _ _ (fun v1 hh1 hv => ?_) (st_fault hrel )
    obtain ⟨a, rfl, ⟨S1, T1, P1, rfl⟩, hv⟩ := hv
    simp only [Option.toList_some, Option.toList_none, List.cons_append, List.nil_append]
    refine g_l dL_law_232 rfl rfl ?_
    refine g_callV dL_law_233 m_14_28 (n := 0) rfl h248 rfl (Nat.le_of_ble_eq_true rfl) (Nat.le_of_ble_eq_true rfl) rfl rfl ?_
    refine CallD_mono _ _ _ _ _ _ (fun v2 hh2 hw => ?_) hv
    obtain ⟨rfl, S2, T2, M2, P2, rfl, hrel2⟩ := hw
    simp only [Option.toList_some, Option.toList_none, List.cons_append, List.nil_append]
    exact g_same dL_law_236 (by decide) (nx S2 T2 M2 P2 hrel2)
  · -- tower
    refine g_tsw (t := 241) (off := 208) dL_law_33 (by decide) (by omega) (sw_c (v := 3) (by omega) (by decide)) ?_
    refine g_l dL_law_241 rfl rfl ?_
    refine g_callV dL_law_242 m_14_29 (n := 0) rfl h0 rfl (Nat.le_of_ble_eq_true rfl) (Nat.le_of_ble_eq_true rfl) rfl rfl ?_
    refine CallD_mono _ _ _ _ _ _ (fun v1 hh1 hv => ?_) (st_tower hrel (by omega) )
    obtain ⟨a, rfl, ⟨S1, T1, P1, rfl⟩, hv⟩ := hv
    simp only [Option.toList_some, Option.toList_none, List.cons_append, List.nil_append]
    refine g_l dL_law_245 rfl rfl ?_
    refine g_callV dL_law_246 m_14_32 (n := 0) rfl h248 rfl (Nat.le_of_ble_eq_true rfl) (Nat.le_of_ble_eq_true rfl) rfl rfl ?_
    refine CallD_mono _ _ _ _ _ _ (fun v2 hh2 hw => ?_) hv
    obtain ⟨rfl, S2, T2, M2, P2, rfl, hrel2⟩ := hw
    simp only [Option.toList_some, Option.toList_none, List.cons_append, List.nil_append]
    exact g_same dL_law_249 (by decide) (nx S2 T2 M2 P2 hrel2)
  · -- about
    refine g_tsw (t := 254) (off := 221) dL_law_33 (by decide) (by omega) (sw_c (v := 4) (by omega) (by decide)) ?_
    refine g_l dL_law_254 rfl rfl ?_
    refine g_l dL_law_255 rfl rfl ?_
    refine g_l dL_law_256 rfl rfl ?_
    refine g_iconst dL_law_257 rfl ?_
    refine g_iadd dL_law_258 rfl ?_
    refine g_sld dL_law_259 (by omega) rfl ?_
    refine g_callV dL_law_260 m_14_33 (n := 1) rfl h0 rfl (Nat.le_of_ble_eq_true rfl) (Nat.le_of_ble_eq_true rfl) rfl rfl ?_
    refine CallD_mono _ _ _ _ _ _ (fun v1 hh1 hv => ?_) (st_about hrel (R32_of _))
    obtain ⟨a, rfl, ⟨S1, T1, P1, rfl⟩, hv⟩ := hv
    simp only [Option.toList_some, Option.toList_none, List.cons_append, List.nil_append]
    refine g_l dL_law_263 rfl rfl ?_
    refine g_l dL_law_264 rfl rfl ?_
    refine g_l dL_law_265 rfl rfl ?_
    refine g_iconst dL_law_266 rfl ?_
    refine g_iadd dL_law_267 rfl ?_
    refine g_sld dL_law_268 (by omega) rfl ?_
    refine g_callV dL_law_269 m_14_37 (n := 1) rfl h248 rfl (Nat.le_of_ble_eq_true rfl) (Nat.le_of_ble_eq_true rfl) rfl rfl ?_
    refine CallD_mono _ _ _ _ _ _ (fun v2 hh2 hw => ?_) hv
    obtain ⟨rfl, S2, T2, M2, P2, rfl, hrel2⟩ := hw
    simp only [Option.toList_some, Option.toList_none, List.cons_append, List.nil_append]
    exact g_same dL_law_272 (by decide) (nx S2 T2 M2 P2 hrel2)
  · -- kiln
    refine g_tsw (t := 277) (off := 244) dL_law_33 (by decide) (by omega) (sw_c (v := 5) (by omega) (by decide)) ?_
    refine g_l dL_law_277 rfl rfl ?_
    refine g_l dL_law_278 rfl rfl ?_
    refine g_l dL_law_279 rfl rfl ?_
    refine g_iconst dL_law_280 rfl ?_
    refine g_iadd dL_law_281 rfl ?_
    refine g_sld dL_law_282 (by omega) rfl ?_
    refine g_l dL_law_283 rfl rfl ?_
    refine g_l dL_law_284 rfl rfl ?_
    refine g_iconst dL_law_285 rfl ?_
    refine g_iadd dL_law_286 rfl ?_
    refine g_sld dL_law_287 (by omega) rfl ?_
    refine g_callV dL_law_288 m_14_38 (n := 2) rfl h0 rfl (Nat.le_of_ble_eq_true rfl) (Nat.le_of_ble_eq_true rfl) rfl rfl ?_
    refine CallD_mono _ _ _ _ _ _ (fun v1 hh1 hv => ?_) (st_kiln hrel (R32_of _) (R32_of _))
    obtain ⟨a, rfl, ⟨S1, T1, P1, rfl⟩, hv⟩ := hv
    simp only [Option.toList_some, Option.toList_none, List.cons_append, List.nil_append]
    refine g_l dL_law_291 rfl rfl ?_
    refine g_l dL_law_292 rfl rfl ?_
    refine g_l dL_law_293 rfl rfl ?_
    refine g_iconst dL_law_294 rfl ?_
    refine g_iadd dL_law_295 rfl ?_
    refine g_sld dL_law_296 (by omega) rfl ?_
    refine g_l dL_law_297 rfl rfl ?_
    refine g_l dL_law_298 rfl rfl ?_
    refine g_iconst dL_law_299 rfl ?_
    refine g_iadd dL_law_300 rfl ?_
    refine g_sld dL_law_301 (by omega) rfl ?_
    refine g_callV dL_law_302 m_14_42 (n := 2) rfl h248 rfl (Nat.le_of_ble_eq_true rfl) (Nat.le_of_ble_eq_true rfl) rfl rfl ?_
    refine CallD_mono _ _ _ _ _ _ (fun v2 hh2 hw => ?_) hv
    obtain ⟨rfl, S2, T2, M2, P2, rfl, hrel2⟩ := hw
    simp only [Option.toList_some, Option.toList_none, List.cons_append, List.nil_append]
    exact g_same dL_law_305 (by decide) (nx S2 T2 M2 P2 hrel2)
  · -- pot
    refine g_tsw (t := 310) (off := 277) dL_law_33 (by decide) (by omega) (sw_c (v := 6) (by omega) (by decide)) ?_
    refine g_l dL_law_310 rfl rfl ?_
    refine g_l dL_law_311 rfl rfl ?_
    refine g_l dL_law_312 rfl rfl ?_
    refine g_iconst dL_law_313 rfl ?_
    refine g_iadd dL_law_314 rfl ?_
    refine g_sld dL_law_315 (by omega) rfl ?_
    refine g_l dL_law_316 rfl rfl ?_
    refine g_l dL_law_317 rfl rfl ?_
    refine g_iconst dL_law_318 rfl ?_
    refine g_iadd dL_law_319 rfl ?_
    refine g_sld dL_law_320 (by omega) rfl ?_
    refine g_callV dL_law_321 m_14_43 (n := 2) rfl h0 rfl (Nat.le_of_ble_eq_true rfl) (Nat.le_of_ble_eq_true rfl) rfl rfl ?_
    refine CallD_mono _ _ _ _ _ _ (fun v1 hh1 hv => ?_) (st_pot hrel (R32_of _) (R32_of _))
    obtain ⟨a, rfl, ⟨S1, T1, P1, rfl⟩, hv⟩ := hv
    simp only [Option.toList_some, Option.toList_none, List.cons_append, List.nil_append]
    refine g_l dL_law_324 rfl rfl ?_
    refine g_l dL_law_325 rfl rfl ?_
    refine g_l dL_law_326 rfl rfl ?_
    refine g_iconst dL_law_327 rfl ?_
    refine g_iadd dL_law_328 rfl ?_
    refine g_sld dL_law_329 (by omega) rfl ?_
    refine g_l dL_law_330 rfl rfl ?_
    refine g_l dL_law_331 rfl rfl ?_
    refine g_iconst dL_law_332 rfl ?_
    refine g_iadd dL_law_333 rfl ?_
    refine g_sld dL_law_334 (by omega) rfl ?_
    refine g_callV dL_law_335 m_14_46 (n := 2) rfl h248 rfl (Nat.le_of_ble_eq_true rfl) (Nat.le_of_ble_eq_true rfl) rfl rfl ?_
    refine CallD_mono _ _ _ _ _ _ (fun v2 hh2 hw => ?_) hv
    obtain ⟨rfl, S2, T2, M2, P2, rfl, hrel2⟩ := hw
    simp only [Option.toList_some, Option.toList_none, List.cons_append, List.nil_append]
    exact g_same dL_law_338 (by decide) (nx S2 T2 M2 P2 hrel2)
  · -- open
    refine g_tsw (t := 343) (off := 310) dL_law_33 (by decide) (by omega) (sw_c (v := 7) (by omega) (by decide)) ?_
    refine g_l dL_law_343 rfl rfl ?_
    refine g_l dL_law_344 rfl rfl ?_
    refine g_l dL_law_345 rfl rfl ?_
    refine g_iconst dL_law_346 rfl ?_
    refine g_iadd dL_law_347 rfl ?_
    refine g_sld dL_law_348 (by omega) rfl ?_
    refine g_l dL_law_349 rfl rfl ?_
    refine g_l dL_law_350 rfl rfl ?_
    refine g_iconst dL_law_351 rfl ?_
    refine g_iadd dL_law_352 rfl ?_
    refine g_sld dL_law_353 (by omega) rfl ?_
    refine g_callV dL_law_354 m_14_47 (n := 2) rfl h0 rfl (Nat.le_of_ble_eq_true rfl) (Nat.le_of_ble_eq_true rfl) rfl rfl ?_
    refine CallD_mono _ _ _ _ _ _ (fun v1 hh1 hv => ?_) (st_open hrel (R32_of _) (R32_of _))
    obtain ⟨a, rfl, ⟨S1, T1, P1, rfl⟩, hv⟩ := hv
    simp only [Option.toList_some, Option.toList_none, List.cons_append, List.nil_append]
    refine g_l dL_law_357 rfl rfl ?_
    refine g_l dL_law_358 rfl rfl ?_
    refine g_l dL_law_359 rfl rfl ?_
    refine g_iconst dL_law_360 rfl ?_
    refine g_iadd dL_law_361 rfl ?_
    refine g_sld dL_law_362 (by omega) rfl ?_
    refine g_l dL_law_363 rfl rfl ?_
    refine g_l dL_law_364 rfl rfl ?_
    refine g_iconst dL_law_365 rfl ?_
    refine g_iadd dL_law_366 rfl ?_
    refine g_sld dL_law_367 (by omega) rfl ?_
    refine g_callV dL_law_368 m_14_50 (n := 2) rfl h248 rfl (Nat.le_of_ble_eq_true rfl) (Nat.le_of_ble_eq_true rfl) rfl rfl ?_
    refine CallD_mono _ _ _ _ _ _ (fun v2 hh2 hw => ?_) hv
    obtain ⟨rfl, S2, T2, M2, P2, rfl, hrel2⟩ := hw
    simp only [Option.toList_some, Option.toList_none, List.cons_append, List.nil_append]
    exact g_same dL_law_371 (by decide) (nx S2 T2 M2 P2 hrel2)
  · -- damp
    refine g_tsw (t := 376) (off := 343) dL_law_33 (by decide) (by omega) (sw_c (v := 8) (by omega) (by decide)) ?_
    refine g_l dL_law_376 rfl rfl ?_
    refine g_l dL_law_377 rfl rfl ?_
    refine g_l dL_law_378 rfl rfl ?_
    refine g_iconst dL_law_379 rfl ?_
    refine g_iadd dL_law_380 rfl ?_
    refine g_sld dL_law_381 (by omega) rfl ?_
    refine g_l dL_law_382 rfl rfl ?_
    refine g_l dL_law_383 rfl rfl ?_
    refine g_iconst dL_law_384 rfl ?_
    refine g_iadd dL_law_385 rfl ?_
    refine g_sld dL_law_386 (by omega) rfl ?_
    refine g_callV dL_law_387 m_14_51 (n := 2) rfl h0 rfl (Nat.le_of_ble_eq_true rfl) (Nat.le_of_ble_eq_true rfl) rfl rfl ?_
    refine CallD_mono _ _ _ _ _ _ (fun v1 hh1 hv => ?_) (st_damp hrel (R32_of _) (R32_of _))
    obtain ⟨a, rfl, ⟨S1, T1, P1, rfl⟩, hv⟩ := hv
    simp only [Option.toList_some, Option.toList_none, List.cons_append, List.nil_append]
    refine g_l dL_law_390 rfl rfl ?_
    refine g_l dL_law_391 rfl rfl ?_
    refine g_l dL_law_392 rfl rfl ?_
    refine g_iconst dL_law_393 rfl ?_
    refine g_iadd dL_law_394 rfl ?_
    refine g_sld dL_law_395 (by omega) rfl ?_
    refine g_l dL_law_396 rfl rfl ?_
    refine g_l dL_law_397 rfl rfl ?_
    refine g_iconst dL_law_398 rfl ?_
    refine g_iadd dL_law_399 rfl ?_
    refine g_sld dL_law_400 (by omega) rfl ?_
    refine g_callV dL_law_401 m_14_54 (n := 2) rfl h248 rfl (Nat.le_of_ble_eq_true rfl) (Nat.le_of_ble_eq_true rfl) rfl rfl ?_
    refine CallD_mono _ _ _ _ _ _ (fun v2 hh2 hw => ?_) hv
    obtain ⟨rfl, S2, T2, M2, P2, rfl, hrel2⟩ := hw
    simp only [Option.toList_some, Option.toList_none, List.cons_append, List.nil_append]
    exact g_same dL_law_404 (by decide) (nx S2 T2 M2 P2 hrel2)
  · -- put
    refine g_tsw (t := 409) (off := 376) dL_law_33 (by decide) (by omega) (sw_c (v := 9) (by omega) (by decide)) ?_
    refine g_l dL_law_409 rfl rfl ?_
    refine g_l dL_law_410 rfl rfl ?_
    refine g_l dL_law_411 rfl rfl ?_
    refine g_iconst dL_law_412 rfl ?_
    refine g_iadd dL_law_413 rfl ?_
    refine g_sld dL_law_414 (by omega) rfl ?_
    refine g_l dL_law_415 rfl rfl ?_
    refine g_l dL_law_416 rfl rfl ?_
    refine g_iconst dL_law_417 rfl ?_
    refine g_iadd dL_law_418 rfl ?_
    refine g_sld dL_law_419 (by omega) rfl ?_
    refine g_callV dL_law_420 m_14_55 (n := 2) rfl h0 rfl (Nat.le_of_ble_eq_true rfl) (Nat.le_of_ble_eq_true rfl) rfl rfl ?_
    refine CallD_mono _ _ _ _ _ _ (fun v1 hh1 hv => ?_) (st_put hrel (R32_of _) (R32_of _))
    obtain ⟨a, rfl, ⟨S1, T1, P1, rfl⟩, hv⟩ := hv
    simp only [Option.toList_some, Option.toList_none, List.cons_append, List.nil_append]
    refine g_l dL_law_423 rfl rfl ?_
    refine g_l dL_law_424 rfl rfl ?_
    refine g_l dL_law_425 rfl rfl ?_
    refine g_iconst dL_law_426 rfl ?_
    refine g_iadd dL_law_427 rfl ?_
    refine g_sld dL_law_428 (by omega) rfl ?_
    refine g_l dL_law_429 rfl rfl ?_
    refine g_l dL_law_430 rfl rfl ?_
    refine g_iconst dL_law_431 rfl ?_
    refine g_iadd dL_law_432 rfl ?_
    refine g_sld dL_law_433 (by omega) rfl ?_
    refine g_callV dL_law_434 m_14_58 (n := 2) rfl h248 rfl (Nat.le_of_ble_eq_true rfl) (Nat.le_of_ble_eq_true rfl) rfl rfl ?_
    refine CallD_mono _ _ _ _ _ _ (fun v2 hh2 hw => ?_) hv
    obtain ⟨rfl, S2, T2, M2, P2, rfl, hrel2⟩ := hw
    simp only [Option.toList_some, Option.toList_none, List.cons_append, List.nil_append]
    exact g_same dL_law_437 (by decide) (nx S2 T2 M2 P2 hrel2)
  · -- quarter
    refine g_tsw (t := 442) (off := 409) dL_law_33 (by decide) (by omega) (sw_c (v := 10) (by omega) (by decide)) ?_
    refine g_l dL_law_442 rfl rfl ?_
    refine g_l dL_law_443 rfl rfl ?_
    refine g_l dL_law_444 rfl rfl ?_
    refine g_iconst dL_law_445 rfl ?_
    refine g_iadd dL_law_446 rfl ?_
    refine g_sld dL_law_447 (by omega) rfl ?_
    refine g_callV dL_law_448 m_14_59 (n := 1) rfl h0 rfl (Nat.le_of_ble_eq_true rfl) (Nat.le_of_ble_eq_true rfl) rfl rfl ?_
    refine CallD_mono _ _ _ _ _ _ (fun v1 hh1 hv => ?_) (st_quarter hrel (by omega) (R32_of _))
    obtain ⟨a, rfl, ⟨S1, T1, P1, rfl⟩, hv⟩ := hv
    simp only [Option.toList_some, Option.toList_none, List.cons_append, List.nil_append]
    refine g_l dL_law_451 rfl rfl ?_
    refine g_l dL_law_452 rfl rfl ?_
    refine g_l dL_law_453 rfl rfl ?_
    refine g_iconst dL_law_454 rfl ?_
    refine g_iadd dL_law_455 rfl ?_
    refine g_sld dL_law_456 (by omega) rfl ?_
    refine g_callV dL_law_457 m_14_62 (n := 1) rfl h248 rfl (Nat.le_of_ble_eq_true rfl) (Nat.le_of_ble_eq_true rfl) rfl rfl ?_
    refine CallD_mono _ _ _ _ _ _ (fun v2 hh2 hw => ?_) hv
    obtain ⟨rfl, S2, T2, M2, P2, rfl, hrel2⟩ := hw
    simp only [Option.toList_some, Option.toList_none, List.cons_append, List.nil_append]
    exact g_same dL_law_460 (by decide) (nx S2 T2 M2 P2 hrel2)
  · -- undo
    refine g_tsw (t := 465) (off := 432) dL_law_33 (by decide) (by omega) (sw_c (v := 11) (by omega) (by decide)) ?_
    refine g_l dL_law_465 rfl rfl ?_
    refine g_callV dL_law_466 m_14_63 (n := 0) rfl h0 rfl (Nat.le_of_ble_eq_true rfl) (Nat.le_of_ble_eq_true rfl) rfl rfl ?_
    refine CallD_mono _ _ _ _ _ _ (fun v1 hh1 hv => ?_) (st_undo hrel )
    obtain ⟨a, rfl, ⟨S1, T1, P1, rfl⟩, hv⟩ := hv
    simp only [Option.toList_some, Option.toList_none, List.cons_append, List.nil_append]
    refine g_l dL_law_469 rfl rfl ?_
    refine g_callV dL_law_470 m_14_66 (n := 0) rfl h248 rfl (Nat.le_of_ble_eq_true rfl) (Nat.le_of_ble_eq_true rfl) rfl rfl ?_
    refine CallD_mono _ _ _ _ _ _ (fun v2 hh2 hw => ?_) hv
    obtain ⟨rfl, S2, T2, M2, P2, rfl, hrel2⟩ := hw
    simp only [Option.toList_some, Option.toList_none, List.cons_append, List.nil_append]
    exact g_same dL_law_473 (by decide) (nx S2 T2 M2 P2 hrel2)
  · -- warm
    refine g_tsw (t := 478) (off := 445) dL_law_33 (by decide) (by omega) (sw_c (v := 12) (by omega) (by decide)) ?_
    refine g_l dL_law_478 rfl rfl ?_
    refine g_l dL_law_479 rfl rfl ?_
    refine g_l dL_law_480 rfl rfl ?_
    refine g_iconst dL_law_481 rfl ?_
    refine g_iadd dL_law_482 rfl ?_
    refine g_sld dL_law_483 (by omega) rfl ?_
    refine g_l dL_law_484 rfl rfl ?_
    refine g_l dL_law_485 rfl rfl ?_
    refine g_iconst dL_law_486 rfl ?_
    refine g_iadd dL_law_487 rfl ?_
    refine g_sld dL_law_488 (by omega) rfl ?_
    refine g_l dL_law_489 rfl rfl ?_
    refine g_l dL_law_490 rfl rfl ?_
    refine g_iconst dL_law_491 rfl ?_
    refine g_iadd dL_law_492 rfl ?_
    refine g_sld dL_law_493 (by omega) rfl ?_
    refine g_callV dL_law_494 m_14_67 (n := 3) rfl h0 rfl (Nat.le_of_ble_eq_true rfl) (Nat.le_of_ble_eq_true rfl) rfl rfl ?_
    refine CallD_mono _ _ _ _ _ _ (fun v1 hh1 hv => ?_) (st_warm hrel (by omega) (R32_of _) (R32_of _) (R32_of _))
    obtain ⟨a, rfl, ⟨S1, T1, P1, rfl⟩, hv⟩ := hv
    simp only [Option.toList_some, Option.toList_none, List.cons_append, List.nil_append]
    refine g_l dL_law_497 rfl rfl ?_
    refine g_l dL_law_498 rfl rfl ?_
    refine g_l dL_law_499 rfl rfl ?_
    refine g_iconst dL_law_500 rfl ?_
    refine g_iadd dL_law_501 rfl ?_
    refine g_sld dL_law_502 (by omega) rfl ?_
    refine g_l dL_law_503 rfl rfl ?_
    refine g_l dL_law_504 rfl rfl ?_
    refine g_iconst dL_law_505 rfl ?_
    refine g_iadd dL_law_506 rfl ?_
    refine g_sld dL_law_507 (by omega) rfl ?_
    refine g_l dL_law_508 rfl rfl ?_
    refine g_l dL_law_509 rfl rfl ?_
    refine g_iconst dL_law_510 rfl ?_
    refine g_iadd dL_law_511 rfl ?_
    refine g_sld dL_law_512 (by omega) rfl ?_
    refine g_callV dL_law_513 m_14_71 (n := 3) rfl h248 rfl (Nat.le_of_ble_eq_true rfl) (Nat.le_of_ble_eq_true rfl) rfl rfl ?_
    refine CallD_mono _ _ _ _ _ _ (fun v2 hh2 hw => ?_) hv
    obtain ⟨rfl, S2, T2, M2, P2, rfl, hrel2⟩ := hw
    simp only [Option.toList_some, Option.toList_none, List.cons_append, List.nil_append]
    exact g_same dL_law_516 (by decide) (nx S2 T2 M2 P2 hrel2)
  · -- then
    refine g_tsw (t := 521) (off := 488) dL_law_33 (by decide) (by omega) (sw_c (v := 13) (by omega) (by decide)) ?_
    refine g_l dL_law_521 rfl rfl ?_
    refine g_l dL_law_522 rfl rfl ?_
    refine g_l dL_law_523 rfl rfl ?_
    refine g_iconst dL_law_524 rfl ?_
    refine g_iadd dL_law_525 rfl ?_
    refine g_sld dL_law_526 (by omega) rfl ?_
    refine g_l dL_law_527 rfl rfl ?_
    refine g_l dL_law_528 rfl rfl ?_
    refine g_iconst dL_law_529 rfl ?_
    refine g_iadd dL_law_530 rfl ?_
    refine g_sld dL_law_531 (by omega) rfl ?_
    refine g_l dL_law_532 rfl rfl ?_
    refine g_l dL_law_533 rfl rfl ?_
    refine g_iconst dL_law_534 rfl ?_
    refine g_iadd dL_law_535 rfl ?_
    refine g_sld dL_law_536 (by omega) rfl ?_
    refine g_callV dL_law_537 m_14_72 (n := 3) rfl h0 rfl (Nat.le_of_ble_eq_true rfl) (Nat.le_of_ble_eq_true rfl) rfl rfl ?_
    refine CallD_mono _ _ _ _ _ _ (fun v1 hh1 hv => ?_) (st_then hrel (by omega) (R32_of _) (R32_of _) (R32_of _))
    obtain ⟨a, rfl, ⟨S1, T1, P1, rfl⟩, hv⟩ := hv
    simp only [Option.toList_some, Option.toList_none, List.cons_append, List.nil_append]
    refine g_l dL_law_540 rfl rfl ?_
    refine g_l dL_law_541 rfl rfl ?_
    refine g_l dL_law_542 rfl rfl ?_
    refine g_iconst dL_law_543 rfl ?_
    refine g_iadd dL_law_544 rfl ?_
    refine g_sld dL_law_545 (by omega) rfl ?_
    refine g_l dL_law_546 rfl rfl ?_
    refine g_l dL_law_547 rfl rfl ?_
    refine g_iconst dL_law_548 rfl ?_
    refine g_iadd dL_law_549 rfl ?_
    refine g_sld dL_law_550 (by omega) rfl ?_
    refine g_l dL_law_551 rfl rfl ?_
    refine g_l dL_law_552 rfl rfl ?_
    refine g_iconst dL_law_553 rfl ?_
    refine g_iadd dL_law_554 rfl ?_
    refine g_sld dL_law_555 (by omega) rfl ?_
    refine g_callV dL_law_556 m_14_75 (n := 3) rfl h248 rfl (Nat.le_of_ble_eq_true rfl) (Nat.le_of_ble_eq_true rfl) rfl rfl ?_
    refine CallD_mono _ _ _ _ _ _ (fun v2 hh2 hw => ?_) hv
    obtain ⟨rfl, S2, T2, M2, P2, rfl, hrel2⟩ := hw
    simp only [Option.toList_some, Option.toList_none, List.cons_append, List.nil_append]
    exact g_same dL_law_559 (by decide) (nx S2 T2 M2 P2 hrel2)
  · -- least
    refine g_tsw (t := 564) (off := 531) dL_law_33 (by decide) (by omega) (sw_c (v := 14) (by omega) (by decide)) ?_
    refine g_l dL_law_564 rfl rfl ?_
    refine g_l dL_law_565 rfl rfl ?_
    refine g_l dL_law_566 rfl rfl ?_
    refine g_iconst dL_law_567 rfl ?_
    refine g_iadd dL_law_568 rfl ?_
    refine g_sld dL_law_569 (by omega) rfl ?_
    refine g_l dL_law_570 rfl rfl ?_
    refine g_l dL_law_571 rfl rfl ?_
    refine g_iconst dL_law_572 rfl ?_
    refine g_iadd dL_law_573 rfl ?_
    refine g_sld dL_law_574 (by omega) rfl ?_
    refine g_callV dL_law_575 m_14_76 (n := 2) rfl h0 rfl (Nat.le_of_ble_eq_true rfl) (Nat.le_of_ble_eq_true rfl) rfl rfl ?_
    refine CallD_mono _ _ _ _ _ _ (fun v1 hh1 hv => ?_) (st_least hrel (by omega) (R32_of _) (R32_of _))
    obtain ⟨a, rfl, ⟨S1, T1, P1, rfl⟩, hv⟩ := hv
    simp only [Option.toList_some, Option.toList_none, List.cons_append, List.nil_append]
    refine g_l dL_law_578 rfl rfl ?_
    refine g_l dL_law_579 rfl rfl ?_
    refine g_l dL_law_580 rfl rfl ?_
    refine g_iconst dL_law_581 rfl ?_
    refine g_iadd dL_law_582 rfl ?_
    refine g_sld dL_law_583 (by omega) rfl ?_
    refine g_l dL_law_584 rfl rfl ?_
    refine g_l dL_law_585 rfl rfl ?_
    refine g_iconst dL_law_586 rfl ?_
    refine g_iadd dL_law_587 rfl ?_
    refine g_sld dL_law_588 (by omega) rfl ?_
    refine g_callV dL_law_589 m_14_79 (n := 2) rfl h248 rfl (Nat.le_of_ble_eq_true rfl) (Nat.le_of_ble_eq_true rfl) rfl rfl ?_
    refine CallD_mono _ _ _ _ _ _ (fun v2 hh2 hw => ?_) hv
    obtain ⟨rfl, S2, T2, M2, P2, rfl, hrel2⟩ := hw
    simp only [Option.toList_some, Option.toList_none, List.cons_append, List.nil_append]
    exact g_same dL_law_592 (by decide) (nx S2 T2 M2 P2 hrel2)
  · -- leastAt
    refine g_tsw (t := 597) (off := 564) dL_law_33 (by decide) (by omega) (sw_c (v := 15) (by omega) (by decide)) ?_
    refine g_l dL_law_597 rfl rfl ?_
    refine g_l dL_law_598 rfl rfl ?_
    refine g_l dL_law_599 rfl rfl ?_
    refine g_iconst dL_law_600 rfl ?_
    refine g_iadd dL_law_601 rfl ?_
    refine g_sld dL_law_602 (by omega) rfl ?_
    refine g_l dL_law_603 rfl rfl ?_
    refine g_l dL_law_604 rfl rfl ?_
    refine g_iconst dL_law_605 rfl ?_
    refine g_iadd dL_law_606 rfl ?_
    refine g_sld dL_law_607 (by omega) rfl ?_
    refine g_l dL_law_608 rfl rfl ?_
    refine g_l dL_law_609 rfl rfl ?_
    refine g_iconst dL_law_610 rfl ?_
    refine g_iadd dL_law_611 rfl ?_
    refine g_sld dL_law_612 (by omega) rfl ?_
    refine g_callV dL_law_613 m_14_80 (n := 3) rfl h0 rfl (Nat.le_of_ble_eq_true rfl) (Nat.le_of_ble_eq_true rfl) rfl rfl ?_
    refine CallD_mono _ _ _ _ _ _ (fun v1 hh1 hv => ?_) (st_leastAt hrel (by omega) (R32_of _) (R32_of _) (R32_of _))
    obtain ⟨a, rfl, ⟨S1, T1, P1, rfl⟩, hv⟩ := hv
    simp only [Option.toList_some, Option.toList_none, List.cons_append, List.nil_append]
    refine g_l dL_law_616 rfl rfl ?_
    refine g_l dL_law_617 rfl rfl ?_
    refine g_l dL_law_618 rfl rfl ?_
    refine g_iconst dL_law_619 rfl ?_
    refine g_iadd dL_law_620 rfl ?_
    refine g_sld dL_law_621 (by omega) rfl ?_
    refine g_l dL_law_622 rfl rfl ?_
    refine g_l dL_law_623 rfl rfl ?_
    refine g_iconst dL_law_624 rfl ?_
    refine g_iadd dL_law_625 rfl ?_
    refine g_sld dL_law_626 (by omega) rfl ?_
    refine g_l dL_law_627 rfl rfl ?_
    refine g_l dL_law_628 rfl rfl ?_
    refine g_iconst dL_law_629 rfl ?_
    refine g_iadd dL_law_630 rfl ?_
    refine g_sld dL_law_631 (by omega) rfl ?_
    refine g_callV dL_law_632 m_14_83 (n := 3) rfl h248 rfl (Nat.le_of_ble_eq_true rfl) (Nat.le_of_ble_eq_true rfl) rfl rfl ?_
    refine CallD_mono _ _ _ _ _ _ (fun v2 hh2 hw => ?_) hv
    obtain ⟨rfl, S2, T2, M2, P2, rfl, hrel2⟩ := hw
    simp only [Option.toList_some, Option.toList_none, List.cons_append, List.nil_append]
    exact g_same dL_law_635 (by decide) (nx S2 T2 M2 P2 hrel2)
  · -- floors
    refine g_tsw (t := 640) (off := 607) dL_law_33 (by decide) (by omega) (sw_c (v := 16) (by omega) (by decide)) ?_
    refine g_l dL_law_640 rfl rfl ?_
    refine g_l dL_law_641 rfl rfl ?_
    refine g_l dL_law_642 rfl rfl ?_
    refine g_iconst dL_law_643 rfl ?_
    refine g_iadd dL_law_644 rfl ?_
    refine g_sld dL_law_645 (by omega) rfl ?_
    refine g_l dL_law_646 rfl rfl ?_
    refine g_l dL_law_647 rfl rfl ?_
    refine g_iconst dL_law_648 rfl ?_
    refine g_iadd dL_law_649 rfl ?_
    refine g_sld dL_law_650 (by omega) rfl ?_
    refine g_callV dL_law_651 m_14_84 (n := 2) rfl h0 rfl (Nat.le_of_ble_eq_true rfl) (Nat.le_of_ble_eq_true rfl) rfl rfl ?_
    refine CallD_mono _ _ _ _ _ _ (fun v1 hh1 hv => ?_) (st_floors hrel (by omega) (R32_of _) (R32_of _))
    obtain ⟨a, rfl, ⟨S1, T1, P1, rfl⟩, hv⟩ := hv
    simp only [Option.toList_some, Option.toList_none, List.cons_append, List.nil_append]
    refine g_l dL_law_654 rfl rfl ?_
    refine g_l dL_law_655 rfl rfl ?_
    refine g_l dL_law_656 rfl rfl ?_
    refine g_iconst dL_law_657 rfl ?_
    refine g_iadd dL_law_658 rfl ?_
    refine g_sld dL_law_659 (by omega) rfl ?_
    refine g_l dL_law_660 rfl rfl ?_
    refine g_l dL_law_661 rfl rfl ?_
    refine g_iconst dL_law_662 rfl ?_
    refine g_iadd dL_law_663 rfl ?_
    refine g_sld dL_law_664 (by omega) rfl ?_
    refine g_callV dL_law_665 m_14_87 (n := 2) rfl h248 rfl (Nat.le_of_ble_eq_true rfl) (Nat.le_of_ble_eq_true rfl) rfl rfl ?_
    refine CallD_mono _ _ _ _ _ _ (fun v2 hh2 hw => ?_) hv
    obtain ⟨rfl, S2, T2, M2, P2, rfl, hrel2⟩ := hw
    simp only [Option.toList_some, Option.toList_none, List.cons_append, List.nil_append]
    exact g_same dL_law_668 (by decide) (nx S2 T2 M2 P2 hrel2)
  · -- floorAt
    refine g_tsw (t := 673) (off := 640) dL_law_33 (by decide) (by omega) (sw_c (v := 17) (by omega) (by decide)) ?_
    refine g_l dL_law_673 rfl rfl ?_
    refine g_l dL_law_674 rfl rfl ?_
    refine g_l dL_law_675 rfl rfl ?_
    refine g_iconst dL_law_676 rfl ?_
    refine g_iadd dL_law_677 rfl ?_
    refine g_sld dL_law_678 (by omega) rfl ?_
    refine g_l dL_law_679 rfl rfl ?_
    refine g_l dL_law_680 rfl rfl ?_
    refine g_iconst dL_law_681 rfl ?_
    refine g_iadd dL_law_682 rfl ?_
    refine g_sld dL_law_683 (by omega) rfl ?_
    refine g_l dL_law_684 rfl rfl ?_
    refine g_l dL_law_685 rfl rfl ?_
    refine g_iconst dL_law_686 rfl ?_
    refine g_iadd dL_law_687 rfl ?_
    refine g_sld dL_law_688 (by omega) rfl ?_
    refine g_callV dL_law_689 m_14_88 (n := 3) rfl h0 rfl (Nat.le_of_ble_eq_true rfl) (Nat.le_of_ble_eq_true rfl) rfl rfl ?_
    refine CallD_mono _ _ _ _ _ _ (fun v1 hh1 hv => ?_) (st_floorAt hrel (by omega) (R32_of _) (R32_of _) (R32_of _))
    obtain ⟨a, rfl, ⟨S1, T1, P1, rfl⟩, hv⟩ := hv
    simp only [Option.toList_some, Option.toList_none, List.cons_append, List.nil_append]
    refine g_l dL_law_692 rfl rfl ?_
    refine g_l dL_law_693 rfl rfl ?_
    refine g_l dL_law_694 rfl rfl ?_
    refine g_iconst dL_law_695 rfl ?_
    refine g_iadd dL_law_696 rfl ?_
    refine g_sld dL_law_697 (by omega) rfl ?_
    refine g_l dL_law_698 rfl rfl ?_
    refine g_l dL_law_699 rfl rfl ?_
    refine g_iconst dL_law_700 rfl ?_
    refine g_iadd dL_law_701 rfl ?_
    refine g_sld dL_law_702 (by omega) rfl ?_
    refine g_l dL_law_703 rfl rfl ?_
    refine g_l dL_law_704 rfl rfl ?_
    refine g_iconst dL_law_705 rfl ?_
    refine g_iadd dL_law_706 rfl ?_
    refine g_sld dL_law_707 (by omega) rfl ?_
    refine g_callV dL_law_708 m_14_91 (n := 3) rfl h248 rfl (Nat.le_of_ble_eq_true rfl) (Nat.le_of_ble_eq_true rfl) rfl rfl ?_
    refine CallD_mono _ _ _ _ _ _ (fun v2 hh2 hw => ?_) hv
    obtain ⟨rfl, S2, T2, M2, P2, rfl, hrel2⟩ := hw
    simp only [Option.toList_some, Option.toList_none, List.cons_append, List.nil_append]
    exact g_same dL_law_711 (by decide) (nx S2 T2 M2 P2 hrel2)
  · -- openFor
    refine g_tsw (t := 716) (off := 683) dL_law_33 (by decide) (by omega) (sw_c (v := 18) (by omega) (by decide)) ?_
    refine g_l dL_law_716 rfl rfl ?_
    refine g_l dL_law_717 rfl rfl ?_
    refine g_l dL_law_718 rfl rfl ?_
    refine g_iconst dL_law_719 rfl ?_
    refine g_iadd dL_law_720 rfl ?_
    refine g_sld dL_law_721 (by omega) rfl ?_
    refine g_l dL_law_722 rfl rfl ?_
    refine g_l dL_law_723 rfl rfl ?_
    refine g_iconst dL_law_724 rfl ?_
    refine g_iadd dL_law_725 rfl ?_
    refine g_sld dL_law_726 (by omega) rfl ?_
    refine g_l dL_law_727 rfl rfl ?_
    refine g_l dL_law_728 rfl rfl ?_
    refine g_iconst dL_law_729 rfl ?_
    refine g_iadd dL_law_730 rfl ?_
    refine g_sld dL_law_731 (by omega) rfl ?_
    refine g_l dL_law_732 rfl rfl ?_
    refine g_l dL_law_733 rfl rfl ?_
    refine g_iconst dL_law_734 rfl ?_
    refine g_iadd dL_law_735 rfl ?_
    refine g_sld dL_law_736 (by omega) rfl ?_
    refine g_callV dL_law_737 m_14_92 (n := 4) rfl h0 rfl (Nat.le_of_ble_eq_true rfl) (Nat.le_of_ble_eq_true rfl) rfl rfl ?_
    refine CallD_mono _ _ _ _ _ _ (fun v1 hh1 hv => ?_) (st_openFor hrel (by omega) (R32_of _) (R32_of _) (R32_of _) (R32_of _))
    obtain ⟨a, rfl, ⟨S1, T1, P1, rfl⟩, hv⟩ := hv
    simp only [Option.toList_some, Option.toList_none, List.cons_append, List.nil_append]
    refine g_l dL_law_740 rfl rfl ?_
    refine g_l dL_law_741 rfl rfl ?_
    refine g_l dL_law_742 rfl rfl ?_
    refine g_iconst dL_law_743 rfl ?_
    refine g_iadd dL_law_744 rfl ?_
    refine g_sld dL_law_745 (by omega) rfl ?_
    refine g_l dL_law_746 rfl rfl ?_
    refine g_l dL_law_747 rfl rfl ?_
    refine g_iconst dL_law_748 rfl ?_
    refine g_iadd dL_law_749 rfl ?_
    refine g_sld dL_law_750 (by omega) rfl ?_
    refine g_l dL_law_751 rfl rfl ?_
    refine g_l dL_law_752 rfl rfl ?_
    refine g_iconst dL_law_753 rfl ?_
    refine g_iadd dL_law_754 rfl ?_
    refine g_sld dL_law_755 (by omega) rfl ?_
    refine g_l dL_law_756 rfl rfl ?_
    refine g_l dL_law_757 rfl rfl ?_
    refine g_iconst dL_law_758 rfl ?_
    refine g_iadd dL_law_759 rfl ?_
    refine g_sld dL_law_760 (by omega) rfl ?_
    refine g_callV dL_law_761 m_14_96 (n := 4) rfl h248 rfl (Nat.le_of_ble_eq_true rfl) (Nat.le_of_ble_eq_true rfl) rfl rfl ?_
    refine CallD_mono _ _ _ _ _ _ (fun v2 hh2 hw => ?_) hv
    obtain ⟨rfl, S2, T2, M2, P2, rfl, hrel2⟩ := hw
    simp only [Option.toList_some, Option.toList_none, List.cons_append, List.nil_append]
    exact g_same dL_law_764 (by decide) (nx S2 T2 M2 P2 hrel2)
  · -- gales
    by_cases hz : (l.getD (i + 5).toNat 0).toInt = 0
    · skip
      refine g_tsw (t := 769) (off := 736) dL_law_33 (by decide) (by omega) (sw_c (v := 19) (by omega) (by decide)) ?_
      refine g_l dL_law_769 rfl rfl ?_
      refine g_l dL_law_770 rfl rfl ?_
      refine g_l dL_law_771 rfl rfl ?_
      refine g_iconst dL_law_772 rfl ?_
      refine g_iadd dL_law_773 rfl ?_
      refine g_sld dL_law_774 (by omega) rfl ?_
      refine g_l dL_law_775 rfl rfl ?_
      refine g_l dL_law_776 rfl rfl ?_
      refine g_iconst dL_law_777 rfl ?_
      refine g_iadd dL_law_778 rfl ?_
      refine g_sld dL_law_779 (by omega) rfl ?_
      refine g_l dL_law_780 rfl rfl ?_
      refine g_l dL_law_781 rfl rfl ?_
      refine g_iconst dL_law_782 rfl ?_
      refine g_iadd dL_law_783 rfl ?_
      refine g_sld dL_law_784 (by omega) rfl ?_
      refine g_l dL_law_785 rfl rfl ?_
      refine g_l dL_law_786 rfl rfl ?_
      refine g_iconst dL_law_787 rfl ?_
      refine g_iadd dL_law_788 rfl ?_
      refine g_sld dL_law_789 (by omega) rfl ?_
      refine g_l dL_law_790 rfl rfl ?_
      refine g_l dL_law_791 rfl rfl ?_
      refine g_iconst dL_law_792 rfl ?_
      refine g_iadd dL_law_793 rfl ?_
      refine g_sld dL_law_794 (by omega) rfl ?_
      refine g_if_eq (t := 802) dL_law_795 (by decide) rfl (R32_of _) (fun c_795 => ?_) (fun c_795 => False.elim (by omega))
      refine g_iconst dL_law_802 rfl ?_
      refine g_callV dL_law_803 m_14_97 (n := 5) rfl h0 rfl (Nat.le_of_ble_eq_true rfl) (Nat.le_of_ble_eq_true rfl) rfl rfl ?_
      refine CallD_mono _ _ _ _ _ _ (fun v1 hh1 hv => ?_) (st_gales hrel (by omega) (R32_of _) (R32_of _) (R32_of _) (R32_of _) (Or.inl rfl))
      obtain ⟨a, rfl, ⟨S1, T1, P1, rfl⟩, hv⟩ := hv
      simp only [Option.toList_some, Option.toList_none, List.cons_append, List.nil_append]
      refine g_l dL_law_806 rfl rfl ?_
      refine g_l dL_law_807 rfl rfl ?_
      refine g_l dL_law_808 rfl rfl ?_
      refine g_iconst dL_law_809 rfl ?_
      refine g_iadd dL_law_810 rfl ?_
      refine g_sld dL_law_811 (by omega) rfl ?_
      refine g_l dL_law_812 rfl rfl ?_
      refine g_l dL_law_813 rfl rfl ?_
      refine g_iconst dL_law_814 rfl ?_
      refine g_iadd dL_law_815 rfl ?_
      refine g_sld dL_law_816 (by omega) rfl ?_
      refine g_l dL_law_817 rfl rfl ?_
      refine g_l dL_law_818 rfl rfl ?_
      refine g_iconst dL_law_819 rfl ?_
      refine g_iadd dL_law_820 rfl ?_
      refine g_sld dL_law_821 (by omega) rfl ?_
      refine g_l dL_law_822 rfl rfl ?_
      refine g_l dL_law_823 rfl rfl ?_
      refine g_iconst dL_law_824 rfl ?_
      refine g_iadd dL_law_825 rfl ?_
      refine g_sld dL_law_826 (by omega) rfl ?_
      refine g_l dL_law_827 rfl rfl ?_
      refine g_l dL_law_828 rfl rfl ?_
      refine g_iconst dL_law_829 rfl ?_
      refine g_iadd dL_law_830 rfl ?_
      refine g_sld dL_law_831 (by omega) rfl ?_
      refine g_if_eq (t := 839) dL_law_832 (by decide) rfl (R32_of _) (fun c_832 => ?_) (fun c_832 => False.elim (by omega))
      refine g_iconst dL_law_839 rfl ?_
      refine g_callV dL_law_840 m_14_101 (n := 5) rfl h248 rfl (Nat.le_of_ble_eq_true rfl) (Nat.le_of_ble_eq_true rfl) rfl rfl ?_
      refine CallD_mono _ _ _ _ _ _ (fun v2 hh2 hw => ?_) hv
      obtain ⟨rfl, S2, T2, M2, P2, rfl, hrel2⟩ := hw
      simp only [Option.toList_some, Option.toList_none, List.cons_append, List.nil_append]
      refine g_sameL dL_law_843 rfl ?_
      refine g_if_eq (t := 1059) dL_law_844 (by decide) rfl (by omega) (fun _ => nx S2 T2 M2 P2 hrel2) (fun h => absurd rfl h)
    · skip
      refine g_tsw (t := 769) (off := 736) dL_law_33 (by decide) (by omega) (sw_c (v := 19) (by omega) (by decide)) ?_
      refine g_l dL_law_769 rfl rfl ?_
      refine g_l dL_law_770 rfl rfl ?_
      refine g_l dL_law_771 rfl rfl ?_
      refine g_iconst dL_law_772 rfl ?_
      refine g_iadd dL_law_773 rfl ?_
      refine g_sld dL_law_774 (by omega) rfl ?_
      refine g_l dL_law_775 rfl rfl ?_
      refine g_l dL_law_776 rfl rfl ?_
      refine g_iconst dL_law_777 rfl ?_
      refine g_iadd dL_law_778 rfl ?_
      refine g_sld dL_law_779 (by omega) rfl ?_
      refine g_l dL_law_780 rfl rfl ?_
      refine g_l dL_law_781 rfl rfl ?_
      refine g_iconst dL_law_782 rfl ?_
      refine g_iadd dL_law_783 rfl ?_
      refine g_sld dL_law_784 (by omega) rfl ?_
      refine g_l dL_law_785 rfl rfl ?_
      refine g_l dL_law_786 rfl rfl ?_
      refine g_iconst dL_law_787 rfl ?_
      refine g_iadd dL_law_788 rfl ?_
      refine g_sld dL_law_789 (by omega) rfl ?_
      refine g_l dL_law_790 rfl rfl ?_
      refine g_l dL_law_791 rfl rfl ?_
      refine g_iconst dL_law_792 rfl ?_
      refine g_iadd dL_law_793 rfl ?_
      refine g_sld dL_law_794 (by omega) rfl ?_
      refine g_if_eq (t := 802) dL_law_795 (by decide) rfl (R32_of _) (fun c_795 => False.elim (by omega)) (fun c_795 => ?_)
      refine g_iconst dL_law_798 rfl ?_
      refine g_goto (t := 803) dL_law_799 (by decide) ?_
      refine g_callV dL_law_803 m_14_97 (n := 5) rfl h0 rfl (Nat.le_of_ble_eq_true rfl) (Nat.le_of_ble_eq_true rfl) rfl rfl ?_
      refine CallD_mono _ _ _ _ _ _ (fun v1 hh1 hv => ?_) (st_gales hrel (by omega) (R32_of _) (R32_of _) (R32_of _) (R32_of _) (Or.inr rfl))
      obtain ⟨a, rfl, ⟨S1, T1, P1, rfl⟩, hv⟩ := hv
      simp only [Option.toList_some, Option.toList_none, List.cons_append, List.nil_append]
      refine g_l dL_law_806 rfl rfl ?_
      refine g_l dL_law_807 rfl rfl ?_
      refine g_l dL_law_808 rfl rfl ?_
      refine g_iconst dL_law_809 rfl ?_
      refine g_iadd dL_law_810 rfl ?_
      refine g_sld dL_law_811 (by omega) rfl ?_
      refine g_l dL_law_812 rfl rfl ?_
      refine g_l dL_law_813 rfl rfl ?_
      refine g_iconst dL_law_814 rfl ?_
      refine g_iadd dL_law_815 rfl ?_
      refine g_sld dL_law_816 (by omega) rfl ?_
      refine g_l dL_law_817 rfl rfl ?_
      refine g_l dL_law_818 rfl rfl ?_
      refine g_iconst dL_law_819 rfl ?_
      refine g_iadd dL_law_820 rfl ?_
      refine g_sld dL_law_821 (by omega) rfl ?_
      refine g_l dL_law_822 rfl rfl ?_
      refine g_l dL_law_823 rfl rfl ?_
      refine g_iconst dL_law_824 rfl ?_
      refine g_iadd dL_law_825 rfl ?_
      refine g_sld dL_law_826 (by omega) rfl ?_
      refine g_l dL_law_827 rfl rfl ?_
      refine g_l dL_law_828 rfl rfl ?_
      refine g_iconst dL_law_829 rfl ?_
      refine g_iadd dL_law_830 rfl ?_
      refine g_sld dL_law_831 (by omega) rfl ?_
      refine g_if_eq (t := 839) dL_law_832 (by decide) rfl (R32_of _) (fun c_832 => False.elim (by omega)) (fun c_832 => ?_)
      refine g_iconst dL_law_835 rfl ?_
      refine g_goto (t := 840) dL_law_836 (by decide) ?_
      refine g_callV dL_law_840 m_14_101 (n := 5) rfl h248 rfl (Nat.le_of_ble_eq_true rfl) (Nat.le_of_ble_eq_true rfl) rfl rfl ?_
      refine CallD_mono _ _ _ _ _ _ (fun v2 hh2 hw => ?_) hv
      obtain ⟨rfl, S2, T2, M2, P2, rfl, hrel2⟩ := hw
      simp only [Option.toList_some, Option.toList_none, List.cons_append, List.nil_append]
      refine g_sameL dL_law_843 rfl ?_
      refine g_if_eq (t := 1059) dL_law_844 (by decide) rfl (by omega) (fun _ => nx S2 T2 M2 P2 hrel2) (fun h => absurd rfl h)
  · -- cone
    by_cases hz : (l.getD (i + 5).toNat 0).toInt = 0
    · skip
      refine g_tsw (t := 849) (off := 816) dL_law_33 (by decide) (by omega) (sw_c (v := 20) (by omega) (by decide)) ?_
      refine g_l dL_law_849 rfl rfl ?_
      refine g_l dL_law_850 rfl rfl ?_
      refine g_l dL_law_851 rfl rfl ?_
      refine g_iconst dL_law_852 rfl ?_
      refine g_iadd dL_law_853 rfl ?_
      refine g_sld dL_law_854 (by omega) rfl ?_
      refine g_l dL_law_855 rfl rfl ?_
      refine g_l dL_law_856 rfl rfl ?_
      refine g_iconst dL_law_857 rfl ?_
      refine g_iadd dL_law_858 rfl ?_
      refine g_sld dL_law_859 (by omega) rfl ?_
      refine g_l dL_law_860 rfl rfl ?_
      refine g_l dL_law_861 rfl rfl ?_
      refine g_iconst dL_law_862 rfl ?_
      refine g_iadd dL_law_863 rfl ?_
      refine g_sld dL_law_864 (by omega) rfl ?_
      refine g_l dL_law_865 rfl rfl ?_
      refine g_l dL_law_866 rfl rfl ?_
      refine g_iconst dL_law_867 rfl ?_
      refine g_iadd dL_law_868 rfl ?_
      refine g_sld dL_law_869 (by omega) rfl ?_
      refine g_l dL_law_870 rfl rfl ?_
      refine g_l dL_law_871 rfl rfl ?_
      refine g_iconst dL_law_872 rfl ?_
      refine g_iadd dL_law_873 rfl ?_
      refine g_sld dL_law_874 (by omega) rfl ?_
      refine g_if_eq (t := 882) dL_law_875 (by decide) rfl (R32_of _) (fun c_875 => ?_) (fun c_875 => False.elim (by omega))
      refine g_iconst dL_law_882 rfl ?_
      refine g_callV dL_law_883 m_14_102 (n := 5) rfl h0 rfl (Nat.le_of_ble_eq_true rfl) (Nat.le_of_ble_eq_true rfl) rfl rfl ?_
      refine CallD_mono _ _ _ _ _ _ (fun v1 hh1 hv => ?_) (st_cone hrel (R32_of _) (R32_of _) (R32_of _) (R32_of _) (Or.inl rfl))
      obtain ⟨a, rfl, ⟨S1, T1, P1, rfl⟩, hv⟩ := hv
      simp only [Option.toList_some, Option.toList_none, List.cons_append, List.nil_append]
      refine g_l dL_law_886 rfl rfl ?_
      refine g_l dL_law_887 rfl rfl ?_
      refine g_l dL_law_888 rfl rfl ?_
      refine g_iconst dL_law_889 rfl ?_
      refine g_iadd dL_law_890 rfl ?_
      refine g_sld dL_law_891 (by omega) rfl ?_
      refine g_l dL_law_892 rfl rfl ?_
      refine g_l dL_law_893 rfl rfl ?_
      refine g_iconst dL_law_894 rfl ?_
      refine g_iadd dL_law_895 rfl ?_
      refine g_sld dL_law_896 (by omega) rfl ?_
      refine g_l dL_law_897 rfl rfl ?_
      refine g_l dL_law_898 rfl rfl ?_
      refine g_iconst dL_law_899 rfl ?_
      refine g_iadd dL_law_900 rfl ?_
      refine g_sld dL_law_901 (by omega) rfl ?_
      refine g_l dL_law_902 rfl rfl ?_
      refine g_l dL_law_903 rfl rfl ?_
      refine g_iconst dL_law_904 rfl ?_
      refine g_iadd dL_law_905 rfl ?_
      refine g_sld dL_law_906 (by omega) rfl ?_
      refine g_l dL_law_907 rfl rfl ?_
      refine g_l dL_law_908 rfl rfl ?_
      refine g_iconst dL_law_909 rfl ?_
      refine g_iadd dL_law_910 rfl ?_
      refine g_sld dL_law_911 (by omega) rfl ?_
      refine g_if_eq (t := 919) dL_law_912 (by decide) rfl (R32_of _) (fun c_912 => ?_) (fun c_912 => False.elim (by omega))
      refine g_iconst dL_law_919 rfl ?_
      refine g_callV dL_law_920 m_14_106 (n := 5) rfl h248 rfl (Nat.le_of_ble_eq_true rfl) (Nat.le_of_ble_eq_true rfl) rfl rfl ?_
      refine CallD_mono _ _ _ _ _ _ (fun v2 hh2 hw => ?_) hv
      obtain ⟨rfl, S2, T2, M2, P2, rfl, hrel2⟩ := hw
      simp only [Option.toList_some, Option.toList_none, List.cons_append, List.nil_append]
      exact g_same dL_law_923 (by decide) (nx S2 T2 M2 P2 hrel2)
    · skip
      refine g_tsw (t := 849) (off := 816) dL_law_33 (by decide) (by omega) (sw_c (v := 20) (by omega) (by decide)) ?_
      refine g_l dL_law_849 rfl rfl ?_
      refine g_l dL_law_850 rfl rfl ?_
      refine g_l dL_law_851 rfl rfl ?_
      refine g_iconst dL_law_852 rfl ?_
      refine g_iadd dL_law_853 rfl ?_
      refine g_sld dL_law_854 (by omega) rfl ?_
      refine g_l dL_law_855 rfl rfl ?_
      refine g_l dL_law_856 rfl rfl ?_
      refine g_iconst dL_law_857 rfl ?_
      refine g_iadd dL_law_858 rfl ?_
      refine g_sld dL_law_859 (by omega) rfl ?_
      refine g_l dL_law_860 rfl rfl ?_
      refine g_l dL_law_861 rfl rfl ?_
      refine g_iconst dL_law_862 rfl ?_
      refine g_iadd dL_law_863 rfl ?_
      refine g_sld dL_law_864 (by omega) rfl ?_
      refine g_l dL_law_865 rfl rfl ?_
      refine g_l dL_law_866 rfl rfl ?_
      refine g_iconst dL_law_867 rfl ?_
      refine g_iadd dL_law_868 rfl ?_
      refine g_sld dL_law_869 (by omega) rfl ?_
      refine g_l dL_law_870 rfl rfl ?_
      refine g_l dL_law_871 rfl rfl ?_
      refine g_iconst dL_law_872 rfl ?_
      refine g_iadd dL_law_873 rfl ?_
      refine g_sld dL_law_874 (by omega) rfl ?_
      refine g_if_eq (t := 882) dL_law_875 (by decide) rfl (R32_of _) (fun c_875 => False.elim (by omega)) (fun c_875 => ?_)
      refine g_iconst dL_law_878 rfl ?_
      refine g_goto (t := 883) dL_law_879 (by decide) ?_
      refine g_callV dL_law_883 m_14_102 (n := 5) rfl h0 rfl (Nat.le_of_ble_eq_true rfl) (Nat.le_of_ble_eq_true rfl) rfl rfl ?_
      refine CallD_mono _ _ _ _ _ _ (fun v1 hh1 hv => ?_) (st_cone hrel (R32_of _) (R32_of _) (R32_of _) (R32_of _) (Or.inr rfl))
      obtain ⟨a, rfl, ⟨S1, T1, P1, rfl⟩, hv⟩ := hv
      simp only [Option.toList_some, Option.toList_none, List.cons_append, List.nil_append]
      refine g_l dL_law_886 rfl rfl ?_
      refine g_l dL_law_887 rfl rfl ?_
      refine g_l dL_law_888 rfl rfl ?_
      refine g_iconst dL_law_889 rfl ?_
      refine g_iadd dL_law_890 rfl ?_
      refine g_sld dL_law_891 (by omega) rfl ?_
      refine g_l dL_law_892 rfl rfl ?_
      refine g_l dL_law_893 rfl rfl ?_
      refine g_iconst dL_law_894 rfl ?_
      refine g_iadd dL_law_895 rfl ?_
      refine g_sld dL_law_896 (by omega) rfl ?_
      refine g_l dL_law_897 rfl rfl ?_
      refine g_l dL_law_898 rfl rfl ?_
      refine g_iconst dL_law_899 rfl ?_
      refine g_iadd dL_law_900 rfl ?_
      refine g_sld dL_law_901 (by omega) rfl ?_
      refine g_l dL_law_902 rfl rfl ?_
      refine g_l dL_law_903 rfl rfl ?_
      refine g_iconst dL_law_904 rfl ?_
      refine g_iadd dL_law_905 rfl ?_
      refine g_sld dL_law_906 (by omega) rfl ?_
      refine g_l dL_law_907 rfl rfl ?_
      refine g_l dL_law_908 rfl rfl ?_
      refine g_iconst dL_law_909 rfl ?_
      refine g_iadd dL_law_910 rfl ?_
      refine g_sld dL_law_911 (by omega) rfl ?_
      refine g_if_eq (t := 919) dL_law_912 (by decide) rfl (R32_of _) (fun c_912 => False.elim (by omega)) (fun c_912 => ?_)
      refine g_iconst dL_law_915 rfl ?_
      refine g_goto (t := 920) dL_law_916 (by decide) ?_
      refine g_callV dL_law_920 m_14_106 (n := 5) rfl h248 rfl (Nat.le_of_ble_eq_true rfl) (Nat.le_of_ble_eq_true rfl) rfl rfl ?_
      refine CallD_mono _ _ _ _ _ _ (fun v2 hh2 hw => ?_) hv
      obtain ⟨rfl, S2, T2, M2, P2, rfl, hrel2⟩ := hw
      simp only [Option.toList_some, Option.toList_none, List.cons_append, List.nil_append]
      exact g_same dL_law_923 (by decide) (nx S2 T2 M2 P2 hrel2)
  · -- uncone
    refine g_tsw (t := 928) (off := 895) dL_law_33 (by decide) (by omega) (sw_c (v := 21) (by omega) (by decide)) ?_
    refine g_l dL_law_928 rfl rfl ?_
    refine g_callV dL_law_929 m_14_107 (n := 0) rfl h0 rfl (Nat.le_of_ble_eq_true rfl) (Nat.le_of_ble_eq_true rfl) rfl rfl ?_
    refine CallD_mono _ _ _ _ _ _ (fun v1 hh1 hv => ?_) (st_uncone hrel )
    obtain ⟨a, rfl, ⟨S1, T1, P1, rfl⟩, hv⟩ := hv
    simp only [Option.toList_some, Option.toList_none, List.cons_append, List.nil_append]
    refine g_l dL_law_932 rfl rfl ?_
    refine g_callV dL_law_933 m_14_110 (n := 0) rfl h248 rfl (Nat.le_of_ble_eq_true rfl) (Nat.le_of_ble_eq_true rfl) rfl rfl ?_
    refine CallD_mono _ _ _ _ _ _ (fun v2 hh2 hw => ?_) hv
    obtain ⟨rfl, S2, T2, M2, P2, rfl, hrel2⟩ := hw
    simp only [Option.toList_some, Option.toList_none, List.cons_append, List.nil_append]
    exact g_same dL_law_936 (by decide) (nx S2 T2 M2 P2 hrel2)
  · -- blame
    refine g_tsw (t := 941) (off := 908) dL_law_33 (by decide) (by omega) (sw_c (v := 22) (by omega) (by decide)) ?_
    refine g_l dL_law_941 rfl rfl ?_
    refine g_l dL_law_942 rfl rfl ?_
    refine g_l dL_law_943 rfl rfl ?_
    refine g_iconst dL_law_944 rfl ?_
    refine g_iadd dL_law_945 rfl ?_
    refine g_sld dL_law_946 (by omega) rfl ?_
    refine g_callV dL_law_947 m_14_111 (n := 1) rfl h0 rfl (Nat.le_of_ble_eq_true rfl) (Nat.le_of_ble_eq_true rfl) rfl rfl ?_
    refine CallD_mono _ _ _ _ _ _ (fun v1 hh1 hv => ?_) (st_blame hrel (R32_of _))
    obtain ⟨a, rfl, ⟨S1, T1, P1, rfl⟩, hv⟩ := hv
    simp only [Option.toList_some, Option.toList_none, List.cons_append, List.nil_append]
    refine g_l dL_law_950 rfl rfl ?_
    refine g_l dL_law_951 rfl rfl ?_
    refine g_l dL_law_952 rfl rfl ?_
    refine g_iconst dL_law_953 rfl ?_
    refine g_iadd dL_law_954 rfl ?_
    refine g_sld dL_law_955 (by omega) rfl ?_
    refine g_callV dL_law_956 m_14_114 (n := 1) rfl h248 rfl (Nat.le_of_ble_eq_true rfl) (Nat.le_of_ble_eq_true rfl) rfl rfl ?_
    refine CallD_mono _ _ _ _ _ _ (fun v2 hh2 hw => ?_) hv
    obtain ⟨rfl, S2, T2, M2, P2, rfl, hrel2⟩ := hw
    simp only [Option.toList_some, Option.toList_none, List.cons_append, List.nil_append]
    exact g_same dL_law_959 (by decide) (nx S2 T2 M2 P2 hrel2)
  · -- owed
    by_cases hz : (l.getD (i + 2).toNat 0).toInt = 0
    · skip
      refine g_tsw (t := 964) (off := 931) dL_law_33 (by decide) (by omega) (sw_c (v := 23) (by omega) (by decide)) ?_
      refine g_l dL_law_964 rfl rfl ?_
      refine g_l dL_law_965 rfl rfl ?_
      refine g_l dL_law_966 rfl rfl ?_
      refine g_iconst dL_law_967 rfl ?_
      refine g_iadd dL_law_968 rfl ?_
      refine g_sld dL_law_969 (by omega) rfl ?_
      refine g_l dL_law_970 rfl rfl ?_
      refine g_l dL_law_971 rfl rfl ?_
      refine g_iconst dL_law_972 rfl ?_
      refine g_iadd dL_law_973 rfl ?_
      refine g_sld dL_law_974 (by omega) rfl ?_
      refine g_if_eq (t := 982) dL_law_975 (by decide) rfl (R32_of _) (fun c_975 => ?_) (fun c_975 => False.elim (by omega))
      refine g_iconst dL_law_982 rfl ?_
      refine g_callV dL_law_983 m_14_115 (n := 2) rfl h0 rfl (Nat.le_of_ble_eq_true rfl) (Nat.le_of_ble_eq_true rfl) rfl rfl ?_
      refine CallD_mono _ _ _ _ _ _ (fun v1 hh1 hv => ?_) (st_owed hrel (by omega) (R32_of _) (Or.inl rfl))
      obtain ⟨a, rfl, ⟨S1, T1, P1, rfl⟩, hv⟩ := hv
      simp only [Option.toList_some, Option.toList_none, List.cons_append, List.nil_append]
      refine g_l dL_law_986 rfl rfl ?_
      refine g_l dL_law_987 rfl rfl ?_
      refine g_l dL_law_988 rfl rfl ?_
      refine g_iconst dL_law_989 rfl ?_
      refine g_iadd dL_law_990 rfl ?_
      refine g_sld dL_law_991 (by omega) rfl ?_
      refine g_l dL_law_992 rfl rfl ?_
      refine g_l dL_law_993 rfl rfl ?_
      refine g_iconst dL_law_994 rfl ?_
      refine g_iadd dL_law_995 rfl ?_
      refine g_sld dL_law_996 (by omega) rfl ?_
      refine g_if_eq (t := 1004) dL_law_997 (by decide) rfl (R32_of _) (fun c_997 => ?_) (fun c_997 => False.elim (by omega))
      refine g_iconst dL_law_1004 rfl ?_
      refine g_callV dL_law_1005 m_14_119 (n := 2) rfl h248 rfl (Nat.le_of_ble_eq_true rfl) (Nat.le_of_ble_eq_true rfl) rfl rfl ?_
      refine CallD_mono _ _ _ _ _ _ (fun v2 hh2 hw => ?_) hv
      obtain ⟨rfl, S2, T2, M2, P2, rfl, hrel2⟩ := hw
      simp only [Option.toList_some, Option.toList_none, List.cons_append, List.nil_append]
      exact g_same dL_law_1008 (by decide) (nx S2 T2 M2 P2 hrel2)
    · skip
      refine g_tsw (t := 964) (off := 931) dL_law_33 (by decide) (by omega) (sw_c (v := 23) (by omega) (by decide)) ?_
      refine g_l dL_law_964 rfl rfl ?_
      refine g_l dL_law_965 rfl rfl ?_
      refine g_l dL_law_966 rfl rfl ?_
      refine g_iconst dL_law_967 rfl ?_
      refine g_iadd dL_law_968 rfl ?_
      refine g_sld dL_law_969 (by omega) rfl ?_
      refine g_l dL_law_970 rfl rfl ?_
      refine g_l dL_law_971 rfl rfl ?_
      refine g_iconst dL_law_972 rfl ?_
      refine g_iadd dL_law_973 rfl ?_
      refine g_sld dL_law_974 (by omega) rfl ?_
      refine g_if_eq (t := 982) dL_law_975 (by decide) rfl (R32_of _) (fun c_975 => False.elim (by omega)) (fun c_975 => ?_)
      refine g_iconst dL_law_978 rfl ?_
      refine g_goto (t := 983) dL_law_979 (by decide) ?_
      refine g_callV dL_law_983 m_14_115 (n := 2) rfl h0 rfl (Nat.le_of_ble_eq_true rfl) (Nat.le_of_ble_eq_true rfl) rfl rfl ?_
      refine CallD_mono _ _ _ _ _ _ (fun v1 hh1 hv => ?_) (st_owed hrel (by omega) (R32_of _) (Or.inr rfl))
      obtain ⟨a, rfl, ⟨S1, T1, P1, rfl⟩, hv⟩ := hv
      simp only [Option.toList_some, Option.toList_none, List.cons_append, List.nil_append]
      refine g_l dL_law_986 rfl rfl ?_
      refine g_l dL_law_987 rfl rfl ?_
      refine g_l dL_law_988 rfl rfl ?_
      refine g_iconst dL_law_989 rfl ?_
      refine g_iadd dL_law_990 rfl ?_
      refine g_sld dL_law_991 (by omega) rfl ?_
      refine g_l dL_law_992 rfl rfl ?_
      refine g_l dL_law_993 rfl rfl ?_
      refine g_iconst dL_law_994 rfl ?_
      refine g_iadd dL_law_995 rfl ?_
      refine g_sld dL_law_996 (by omega) rfl ?_
      refine g_if_eq (t := 1004) dL_law_997 (by decide) rfl (R32_of _) (fun c_997 => False.elim (by omega)) (fun c_997 => ?_)
      refine g_iconst dL_law_1000 rfl ?_
      refine g_goto (t := 1005) dL_law_1001 (by decide) ?_
      refine g_callV dL_law_1005 m_14_119 (n := 2) rfl h248 rfl (Nat.le_of_ble_eq_true rfl) (Nat.le_of_ble_eq_true rfl) rfl rfl ?_
      refine CallD_mono _ _ _ _ _ _ (fun v2 hh2 hw => ?_) hv
      obtain ⟨rfl, S2, T2, M2, P2, rfl, hrel2⟩ := hw
      simp only [Option.toList_some, Option.toList_none, List.cons_append, List.nil_append]
      exact g_same dL_law_1008 (by decide) (nx S2 T2 M2 P2 hrel2)
  · -- keep
    refine g_tsw (t := 1013) (off := 980) dL_law_33 (by decide) (by omega) (sw_c (v := 24) (by omega) (by decide)) ?_
    refine g_l dL_law_1013 rfl rfl ?_
    refine g_l dL_law_1014 rfl rfl ?_
    refine g_l dL_law_1015 rfl rfl ?_
    refine g_iconst dL_law_1016 rfl ?_
    refine g_iadd dL_law_1017 rfl ?_
    refine g_sld dL_law_1018 (by omega) rfl ?_
    refine g_callV dL_law_1019 m_14_120 (n := 1) rfl h0 rfl (Nat.le_of_ble_eq_true rfl) (Nat.le_of_ble_eq_true rfl) rfl rfl ?_
    refine CallD_mono _ _ _ _ _ _ (fun v1 hh1 hv => ?_) (st_keep hrel (R32_of _))
    obtain ⟨a, rfl, ⟨S1, T1, P1, rfl⟩, hv⟩ := hv
    simp only [Option.toList_some, Option.toList_none, List.cons_append, List.nil_append]
    refine g_l dL_law_1022 rfl rfl ?_
    refine g_l dL_law_1023 rfl rfl ?_
    refine g_l dL_law_1024 rfl rfl ?_
    refine g_iconst dL_law_1025 rfl ?_
    refine g_iadd dL_law_1026 rfl ?_
    refine g_sld dL_law_1027 (by omega) rfl ?_
    refine g_callV dL_law_1028 m_14_123 (n := 1) rfl h248 rfl (Nat.le_of_ble_eq_true rfl) (Nat.le_of_ble_eq_true rfl) rfl rfl ?_
    refine CallD_mono _ _ _ _ _ _ (fun v2 hh2 hw => ?_) hv
    obtain ⟨rfl, S2, T2, M2, P2, rfl, hrel2⟩ := hw
    simp only [Option.toList_some, Option.toList_none, List.cons_append, List.nil_append]
    exact g_same dL_law_1031 (by decide) (nx S2 T2 M2 P2 hrel2)
  · -- again
    refine g_tsw (t := 1036) (off := 1003) dL_law_33 (by decide) (by omega) (sw_c (v := 25) (by omega) (by decide)) ?_
    refine g_l dL_law_1036 rfl rfl ?_
    refine g_l dL_law_1037 rfl rfl ?_
    refine g_l dL_law_1038 rfl rfl ?_
    refine g_iconst dL_law_1039 rfl ?_
    refine g_iadd dL_law_1040 rfl ?_
    refine g_sld dL_law_1041 (by omega) rfl ?_
    refine g_callV dL_law_1042 m_14_124 (n := 1) rfl h0 rfl (Nat.le_of_ble_eq_true rfl) (Nat.le_of_ble_eq_true rfl) rfl rfl ?_
    refine CallD_mono _ _ _ _ _ _ (fun v1 hh1 hv => ?_) (st_again hrel (R32_of _))
    obtain ⟨a, rfl, ⟨S1, T1, P1, rfl⟩, hv⟩ := hv
    simp only [Option.toList_some, Option.toList_none, List.cons_append, List.nil_append]
    refine g_l dL_law_1045 rfl rfl ?_
    refine g_l dL_law_1046 rfl rfl ?_
    refine g_l dL_law_1047 rfl rfl ?_
    refine g_iconst dL_law_1048 rfl ?_
    refine g_iadd dL_law_1049 rfl ?_
    refine g_sld dL_law_1050 (by omega) rfl ?_
    refine g_callV dL_law_1051 m_14_127 (n := 1) rfl h248 rfl (Nat.le_of_ble_eq_true rfl) (Nat.le_of_ble_eq_true rfl) rfl rfl ?_
    refine CallD_mono _ _ _ _ _ _ (fun v2 hh2 hw => ?_) hv
    obtain ⟨rfl, S2, T2, M2, P2, rfl, hrel2⟩ := hw
    simp only [Option.toList_some, Option.toList_none, List.cons_append, List.nil_append]
    exact g_same dL_law_1054 (by decide) (nx S2 T2 M2 P2 hrel2)
  · refine g_tsw (t := 1059) (off := 1026) dL_law_33 (by decide) (by omega) (if_pos (by omega)) ?_
    exact nx S Tw M P (hrel.le (by omega))
