/-! the law's cases -/
theorem l_arg {D : va_G} {cy : Nat → ClassId} {l : Launch} {b Ln : Nat} {xs : Nat → Int32} {w : va_W} {kc ks pc : Nat} {lv : List (Nat × Value)} {st : List Value} {k i z : Int} (hi : 0 ≤ i ∧ i + 5 ≤ Ln) (hLn : Ln ≤ 2560) (hk : 0 ≤ k ∧ k < 5) (hz : xs (zI (i + k)).toNatClampNeg = zI z) (q0 q3 : Nat) (hv0 : lv[q0]? = some (0, .ref b)) (hv3 : lv[q3]? = some (3, .int (zI i))) (d0 : decode code pc = .ok (.aload_n 0, 1)) (d1 : decode code (pc + 1) = .ok (.iload_n 3, 1)) (d2 : decode code (pc + 2) = .ok (.iconst k, 1)) (d3 : decode code (pc + 3) = .ok (.iadd, 1)) (d4 : decode code (pc + 4) = .ok (.iaload, 1)) (kk : GL D cy l b Ln xs w kc ks (pc + 5) lv (.int (zI z) :: st)) : GL D cy l b Ln xs w kc ks pc lv st := by
  refine l_aload_n d0 q0 hv0 ?_
  refine l_iload_n d1 q3 hv3 ?_
  refine l_iconst d2 ?_
  refine l_iadd d3 ?_
  refine l_sld (zI_in (by omega) (by omega) (by omega)) d4 ?_
  rw [hz]
  exact kk
theorem l_swap {D : va_G} {cy : Nat → ClassId} {l : Launch} {b Ln : Nat} {xs : Nat → Int32} {A B : va_W} {kc ks pc : Nat} {lv : List (Nat × Value)} {st : List Value} (kk : GL D cy l b Ln xs (B ++ A) kc ks pc lv st) : GL D cy l b Ln xs (A ++ B) kc ks pc lv st := by
  refine l_perm (w' := B ++ A) (fun k => if k < B.length then A.length + k else k - B.length) (fun k q h => ?_) (fun i j h1 h2 h => ?_) kk
  · by_cases hk : k < B.length
    · rw [if_pos hk, List.getElem?_append_right (Nat.le_add_right _ _), Nat.add_sub_cancel_left]
      rw [List.getElem?_append_left hk] at h
      exact h
    · rw [if_neg hk]
      rw [List.getElem?_append_right (by omega)] at h
      rw [List.getElem?_append_left (List.getElem?_eq_some_iff.mp h).1]
      exact h
  · rw [List.length_append] at h1 h2
    split at h <;> split at h <;> omega
section LAW
variable {D : va_G} {cy : Nat → ClassId} {l : Launch} {b Ln : Nat} {xs : Nat → Int32} {ad bd : Nat → Nat} {σ τ : Nat → Int → Int} {i : Int}
theorem law_c0 (hi : 0 ≤ i ∧ i + 5 ≤ Ln) (hLn : Ln ≤ 2560) (hI : Inv σ) (hR : Rel σ τ) (kk : ∀ σ' τ', Inv σ' → Rel σ' τ' → GL D cy l b Ln xs (CW cy ad σ' ++ MW cy bd τ') 600000 7302250 1044 [(3, .int (zI i)), (2, .ref (bd 0)), (1, .ref (ad 0)), (0, .ref b)] []) : GL D cy l b Ln xs (CW cy ad σ ++ MW cy bd τ) 600000 7302250 176 [(3, .int (zI i)), (2, .ref (bd 0)), (1, .ref (ad 0)), (0, .ref b)] [] := by
  obtain ⟨OK, hC, hM⟩ := p_addString (D := D) (cy := cy) (l := l) (ad := ad) (bd := bd) hI hR 
  refine l_aload_n (pc := 176) dL_law_176 2 rfl ?_
  refine l_callV (pc := 177) (As := []) (rest := []) k_L_13_X5 (hC _) ⟨rfl, rfl, Nat.le_of_ble_eq_true rfl, Nat.le_of_ble_eq_true rfl⟩ ⟨Nat.le_refl _, Nat.le_refl _⟩ 0 4 rfl rfl at_arr rfl rfl (Nat.le_of_ble_eq_true rfl) dL_law_177 (fun v w' q => ?_)
  obtain ⟨hv, σ', hw, ok⟩ := q
  subst hv hw
  refine l_swap ?_
  refine l_aload_n (pc := 180) dL_law_180 1 rfl ?_
  refine l_callV (pc := 181) (As := []) (rest := [_]) k_L_17_X6 (hM σ' ok _) ⟨rfl, rfl, Nat.le_of_ble_eq_true rfl, Nat.le_of_ble_eq_true rfl⟩ ⟨Nat.le_refl _, Nat.le_refl _⟩ 0 5 rfl rfl am_obj rfl rfl (Nat.le_of_ble_eq_true rfl) dL_law_181 (fun v w' q => ?_)
  obtain ⟨hv, τ', hw, hI', hR'⟩ := q
  subst hv hw
  refine l_swap ?_
  exact l_same (pc := 184) 1044 dL_law_184 rfl (kk σ' τ' hI' hR')
theorem law_c1 (hi : 0 ≤ i ∧ i + 5 ≤ Ln) (hLn : Ln ≤ 2560) (hI : Inv σ) (hR : Rel σ τ) (kk : ∀ σ' τ', Inv σ' → Rel σ' τ' → GL D cy l b Ln xs (CW cy ad σ' ++ MW cy bd τ') 600000 7302250 1044 [(3, .int (zI i)), (2, .ref (bd 0)), (1, .ref (ad 0)), (0, .ref b)] []) : GL D cy l b Ln xs (CW cy ad σ ++ MW cy bd τ) 600000 7302250 189 [(3, .int (zI i)), (2, .ref (bd 0)), (1, .ref (ad 0)), (0, .ref b)] [] := by
  obtain ⟨z1, hz1, e1⟩ := zI_ex (xs (zI (i + 1)).toNatClampNeg)
  obtain ⟨z2, hz2, e2⟩ := zI_ex (xs (zI (i + 2)).toNatClampNeg)
  obtain ⟨z3, hz3, e3⟩ := zI_ex (xs (zI (i + 3)).toNatClampNeg)
  obtain ⟨OK, hC, hM⟩ := p_addModule (D := D) (cy := cy) (l := l) (ad := ad) (bd := bd) hI hR z1 hz1 z2 hz2 z3 hz3
  refine l_aload_n (pc := 189) dL_law_189 2 rfl ?_
  refine l_arg (pc := 190) (k := 1) hi hLn (by omega) e1 3 0 rfl rfl dL_law_190 dL_law_191 dL_law_192 dL_law_193 dL_law_194 ?_
  refine l_arg (pc := 195) (k := 2) hi hLn (by omega) e2 3 0 rfl rfl dL_law_195 dL_law_196 dL_law_197 dL_law_198 dL_law_199 ?_
  refine l_arg (pc := 200) (k := 3) hi hLn (by omega) e3 3 0 rfl rfl dL_law_200 dL_law_201 dL_law_202 dL_law_203 dL_law_204 ?_
  refine l_callV (pc := 205) (As := [.int (zI z1), .int (zI z2), .int (zI z3)]) (rest := []) k_L_18_X5 (hC _) ⟨rfl, rfl, Nat.le_of_ble_eq_true rfl, Nat.le_of_ble_eq_true rfl⟩ ⟨Nat.le_refl _, Nat.le_refl _⟩ 0 4 rfl rfl at_arr rfl rfl (Nat.le_of_ble_eq_true rfl) dL_law_205 (fun v w' q => ?_)
  obtain ⟨hv, σ', hw, ok⟩ := q
  subst hv hw
  refine l_swap ?_
  refine l_aload_n (pc := 208) dL_law_208 1 rfl ?_
  refine l_arg (pc := 209) (k := 1) hi hLn (by omega) e1 3 0 rfl rfl dL_law_209 dL_law_210 dL_law_211 dL_law_212 dL_law_213 ?_
  refine l_arg (pc := 214) (k := 2) hi hLn (by omega) e2 3 0 rfl rfl dL_law_214 dL_law_215 dL_law_216 dL_law_217 dL_law_218 ?_
  refine l_arg (pc := 219) (k := 3) hi hLn (by omega) e3 3 0 rfl rfl dL_law_219 dL_law_220 dL_law_221 dL_law_222 dL_law_223 ?_
  refine l_callV (pc := 224) (As := [.int (zI z1), .int (zI z2), .int (zI z3)]) (rest := [_]) k_L_22_X6 (hM σ' ok _) ⟨rfl, rfl, Nat.le_of_ble_eq_true rfl, Nat.le_of_ble_eq_true rfl⟩ ⟨Nat.le_refl _, Nat.le_refl _⟩ 0 5 rfl rfl am_obj rfl rfl (Nat.le_of_ble_eq_true rfl) dL_law_224 (fun v w' q => ?_)
  obtain ⟨hv, τ', hw, hI', hR'⟩ := q
  subst hv hw
  refine l_swap ?_
  exact l_same (pc := 227) 1044 dL_law_227 rfl (kk σ' τ' hI' hR')
theorem law_c2 (hi : 0 ≤ i ∧ i + 5 ≤ Ln) (hLn : Ln ≤ 2560) (hI : Inv σ) (hR : Rel σ τ) (kk : ∀ σ' τ', Inv σ' → Rel σ' τ' → GL D cy l b Ln xs (CW cy ad σ' ++ MW cy bd τ') 600000 7302250 1044 [(3, .int (zI i)), (2, .ref (bd 0)), (1, .ref (ad 0)), (0, .ref b)] []) : GL D cy l b Ln xs (CW cy ad σ ++ MW cy bd τ) 600000 7302250 232 [(3, .int (zI i)), (2, .ref (bd 0)), (1, .ref (ad 0)), (0, .ref b)] [] := by
  obtain ⟨z1, hz1, e1⟩ := zI_ex (xs (zI (i + 1)).toNatClampNeg)
  obtain ⟨z2, hz2, e2⟩ := zI_ex (xs (zI (i + 2)).toNatClampNeg)
  obtain ⟨OK, hC, hM⟩ := p_setIrradiance (D := D) (cy := cy) (l := l) (ad := ad) (bd := bd) hI hR z1 hz1 z2 hz2
  refine l_aload_n (pc := 232) dL_law_232 2 rfl ?_
  refine l_arg (pc := 233) (k := 1) hi hLn (by omega) e1 3 0 rfl rfl dL_law_233 dL_law_234 dL_law_235 dL_law_236 dL_law_237 ?_
  refine l_arg (pc := 238) (k := 2) hi hLn (by omega) e2 3 0 rfl rfl dL_law_238 dL_law_239 dL_law_240 dL_law_241 dL_law_242 ?_
  refine l_callV (pc := 243) (As := [.int (zI z1), .int (zI z2)]) (rest := []) k_L_23_X5 (hC _) ⟨rfl, rfl, Nat.le_of_ble_eq_true rfl, Nat.le_of_ble_eq_true rfl⟩ ⟨Nat.le_refl _, Nat.le_refl _⟩ 0 4 rfl rfl at_arr rfl rfl (Nat.le_of_ble_eq_true rfl) dL_law_243 (fun v w' q => ?_)
  obtain ⟨hv, σ', hw, ok⟩ := q
  subst hv hw
  refine l_swap ?_
  refine l_aload_n (pc := 246) dL_law_246 1 rfl ?_
  refine l_arg (pc := 247) (k := 1) hi hLn (by omega) e1 3 0 rfl rfl dL_law_247 dL_law_248 dL_law_249 dL_law_250 dL_law_251 ?_
  refine l_arg (pc := 252) (k := 2) hi hLn (by omega) e2 3 0 rfl rfl dL_law_252 dL_law_253 dL_law_254 dL_law_255 dL_law_256 ?_
  refine l_callV (pc := 257) (As := [.int (zI z1), .int (zI z2)]) (rest := [_]) k_L_27_X6 (hM σ' ok _) ⟨rfl, rfl, Nat.le_of_ble_eq_true rfl, Nat.le_of_ble_eq_true rfl⟩ ⟨Nat.le_refl _, Nat.le_refl _⟩ 0 5 rfl rfl am_obj rfl rfl (Nat.le_of_ble_eq_true rfl) dL_law_257 (fun v w' q => ?_)
  obtain ⟨hv, τ', hw, hI', hR'⟩ := q
  subst hv hw
  refine l_swap ?_
  exact l_same (pc := 260) 1044 dL_law_260 rfl (kk σ' τ' hI' hR')
theorem law_c3 (hi : 0 ≤ i ∧ i + 5 ≤ Ln) (hLn : Ln ≤ 2560) (hI : Inv σ) (hR : Rel σ τ) (kk : ∀ σ' τ', Inv σ' → Rel σ' τ' → GL D cy l b Ln xs (CW cy ad σ' ++ MW cy bd τ') 600000 7302250 1044 [(3, .int (zI i)), (2, .ref (bd 0)), (1, .ref (ad 0)), (0, .ref b)] []) : GL D cy l b Ln xs (CW cy ad σ ++ MW cy bd τ) 600000 7302250 265 [(3, .int (zI i)), (2, .ref (bd 0)), (1, .ref (ad 0)), (0, .ref b)] [] := by
  obtain ⟨z1, hz1, e1⟩ := zI_ex (xs (zI (i + 1)).toNatClampNeg)
  obtain ⟨z2, hz2, e2⟩ := zI_ex (xs (zI (i + 2)).toNatClampNeg)
  obtain ⟨z3, hz3, e3⟩ := zI_ex (xs (zI (i + 3)).toNatClampNeg)
  obtain ⟨OK, hC, hM⟩ := p_shade (D := D) (cy := cy) (l := l) (ad := ad) (bd := bd) hI hR z1 hz1 z2 hz2 z3 hz3
  refine l_aload_n (pc := 265) dL_law_265 2 rfl ?_
  refine l_arg (pc := 266) (k := 1) hi hLn (by omega) e1 3 0 rfl rfl dL_law_266 dL_law_267 dL_law_268 dL_law_269 dL_law_270 ?_
  refine l_arg (pc := 271) (k := 2) hi hLn (by omega) e2 3 0 rfl rfl dL_law_271 dL_law_272 dL_law_273 dL_law_274 dL_law_275 ?_
  refine l_arg (pc := 276) (k := 3) hi hLn (by omega) e3 3 0 rfl rfl dL_law_276 dL_law_277 dL_law_278 dL_law_279 dL_law_280 ?_
  refine l_callV (pc := 281) (As := [.int (zI z1), .int (zI z2), .int (zI z3)]) (rest := []) k_L_28_X5 (hC _) ⟨rfl, rfl, Nat.le_of_ble_eq_true rfl, Nat.le_of_ble_eq_true rfl⟩ ⟨Nat.le_refl _, Nat.le_refl _⟩ 0 4 rfl rfl at_arr rfl rfl (Nat.le_of_ble_eq_true rfl) dL_law_281 (fun v w' q => ?_)
  obtain ⟨hv, σ', hw, ok⟩ := q
  subst hv hw
  refine l_swap ?_
  refine l_aload_n (pc := 284) dL_law_284 1 rfl ?_
  refine l_arg (pc := 285) (k := 1) hi hLn (by omega) e1 3 0 rfl rfl dL_law_285 dL_law_286 dL_law_287 dL_law_288 dL_law_289 ?_
  refine l_arg (pc := 290) (k := 2) hi hLn (by omega) e2 3 0 rfl rfl dL_law_290 dL_law_291 dL_law_292 dL_law_293 dL_law_294 ?_
  refine l_arg (pc := 295) (k := 3) hi hLn (by omega) e3 3 0 rfl rfl dL_law_295 dL_law_296 dL_law_297 dL_law_298 dL_law_299 ?_
  refine l_callV (pc := 300) (As := [.int (zI z1), .int (zI z2), .int (zI z3)]) (rest := [_]) k_L_31_X6 (hM σ' ok _) ⟨rfl, rfl, Nat.le_of_ble_eq_true rfl, Nat.le_of_ble_eq_true rfl⟩ ⟨Nat.le_refl _, Nat.le_refl _⟩ 0 5 rfl rfl am_obj rfl rfl (Nat.le_of_ble_eq_true rfl) dL_law_300 (fun v w' q => ?_)
  obtain ⟨hv, τ', hw, hI', hR'⟩ := q
  subst hv hw
  refine l_swap ?_
  exact l_same (pc := 303) 1044 dL_law_303 rfl (kk σ' τ' hI' hR')
theorem law_c4 (hi : 0 ≤ i ∧ i + 5 ≤ Ln) (hLn : Ln ≤ 2560) (hI : Inv σ) (hR : Rel σ τ) (kk : ∀ σ' τ', Inv σ' → Rel σ' τ' → GL D cy l b Ln xs (CW cy ad σ' ++ MW cy bd τ') 600000 7302250 1044 [(3, .int (zI i)), (2, .ref (bd 0)), (1, .ref (ad 0)), (0, .ref b)] []) : GL D cy l b Ln xs (CW cy ad σ ++ MW cy bd τ) 600000 7302250 308 [(3, .int (zI i)), (2, .ref (bd 0)), (1, .ref (ad 0)), (0, .ref b)] [] := by
  obtain ⟨z1, hz1, e1⟩ := zI_ex (xs (zI (i + 1)).toNatClampNeg)
  obtain ⟨z2, hz2, e2⟩ := zI_ex (xs (zI (i + 2)).toNatClampNeg)
  obtain ⟨OK, hC, hM⟩ := p_setResistance (D := D) (cy := cy) (l := l) (ad := ad) (bd := bd) hI hR z1 hz1 z2 hz2
  refine l_aload_n (pc := 308) dL_law_308 2 rfl ?_
  refine l_arg (pc := 309) (k := 1) hi hLn (by omega) e1 3 0 rfl rfl dL_law_309 dL_law_310 dL_law_311 dL_law_312 dL_law_313 ?_
  refine l_arg (pc := 314) (k := 2) hi hLn (by omega) e2 3 0 rfl rfl dL_law_314 dL_law_315 dL_law_316 dL_law_317 dL_law_318 ?_
  refine l_callV (pc := 319) (As := [.int (zI z1), .int (zI z2)]) (rest := []) k_L_32_X5 (hC _) ⟨rfl, rfl, Nat.le_of_ble_eq_true rfl, Nat.le_of_ble_eq_true rfl⟩ ⟨Nat.le_refl _, Nat.le_refl _⟩ 0 4 rfl rfl at_arr rfl rfl (Nat.le_of_ble_eq_true rfl) dL_law_319 (fun v w' q => ?_)
  obtain ⟨hv, σ', hw, ok⟩ := q
  subst hv hw
  refine l_swap ?_
  refine l_aload_n (pc := 322) dL_law_322 1 rfl ?_
  refine l_arg (pc := 323) (k := 1) hi hLn (by omega) e1 3 0 rfl rfl dL_law_323 dL_law_324 dL_law_325 dL_law_326 dL_law_327 ?_
  refine l_arg (pc := 328) (k := 2) hi hLn (by omega) e2 3 0 rfl rfl dL_law_328 dL_law_329 dL_law_330 dL_law_331 dL_law_332 ?_
  refine l_callV (pc := 333) (As := [.int (zI z1), .int (zI z2)]) (rest := [_]) k_L_35_X6 (hM σ' ok _) ⟨rfl, rfl, Nat.le_of_ble_eq_true rfl, Nat.le_of_ble_eq_true rfl⟩ ⟨Nat.le_refl _, Nat.le_refl _⟩ 0 5 rfl rfl am_obj rfl rfl (Nat.le_of_ble_eq_true rfl) dL_law_333 (fun v w' q => ?_)
  obtain ⟨hv, τ', hw, hI', hR'⟩ := q
  subst hv hw
  refine l_swap ?_
  exact l_same (pc := 336) 1044 dL_law_336 rfl (kk σ' τ' hI' hR')
theorem bit_ex (x : Int32) : ∃ bt : Int, (bt = 0 ∨ bt = 1) ∧ ((x = 0 ∧ bt = 0) ∨ (¬ x = 0 ∧ bt = 1)) := by
  by_cases h : x = 0
  · exact ⟨0, Or.inl rfl, Or.inl ⟨h, rfl⟩⟩
  · exact ⟨1, Or.inr rfl, Or.inr ⟨h, rfl⟩⟩
theorem l_bit {w : va_W} {kc ks pc : Nat} {lv : List (Nat × Value)} {st : List Value} {x : Int32} {bt : Int} (h : (x = 0 ∧ bt = 0) ∨ (¬ x = 0 ∧ bt = 1)) (d2 : decode code pc = .ok (.ifCond .eq 7, 3)) (d5 : decode code (pc + 3) = .ok (.iconst 1, 1)) (d6 : decode code (pc + 4) = .ok (.goto 4, 3)) (d9 : decode code (pc + 7) = .ok (.iconst 0, 1)) (kk : GL D cy l b Ln xs w kc ks (pc + 8) lv (.int (zI bt) :: st)) : GL D cy l b Ln xs w kc ks pc lv (.int x :: st) := by
  refine l_if_eq (pc + 7) d2 (by omega) (fun q => ?_) (fun q => ?_)
  · refine l_iconst d9 ?_
    rcases h with ⟨_, h⟩ | ⟨h, _⟩
    · subst h; exact kk
    · exact absurd q h
  · refine l_iconst d5 ?_
    refine l_goto (pc + 8) d6 (by omega) ?_
    rcases h with ⟨h, _⟩ | ⟨_, h⟩
    · exact absurd h q
    · subst h; exact kk
theorem law_c5 (hi : 0 ≤ i ∧ i + 5 ≤ Ln) (hLn : Ln ≤ 2560) (hI : Inv σ) (hR : Rel σ τ) (kk : ∀ σ' τ', Inv σ' → Rel σ' τ' → GL D cy l b Ln xs (CW cy ad σ' ++ MW cy bd τ') 600000 7302250 1044 [(3, .int (zI i)), (2, .ref (bd 0)), (1, .ref (ad 0)), (0, .ref b)] []) : GL D cy l b Ln xs (CW cy ad σ ++ MW cy bd τ) 600000 7302250 341 [(3, .int (zI i)), (2, .ref (bd 0)), (1, .ref (ad 0)), (0, .ref b)] [] := by
  obtain ⟨z1, hz1, e1⟩ := zI_ex (xs (zI (i + 1)).toNatClampNeg)
  obtain ⟨z2, hz2, e2⟩ := zI_ex (xs (zI (i + 2)).toNatClampNeg)
  obtain ⟨bt, hbt, ebt⟩ := bit_ex (zI z2)
  obtain ⟨OK, hC, hM⟩ := p_setBypassDiode (D := D) (cy := cy) (l := l) (ad := ad) (bd := bd) hI hR z1 hz1 bt hbt
  refine l_aload_n (pc := 341) dL_law_341 2 rfl ?_
  refine l_arg (pc := 342) (k := 1) hi hLn (by omega) e1 3 0 rfl rfl dL_law_342 dL_law_343 dL_law_344 dL_law_345 dL_law_346 ?_
  refine l_arg (pc := 347) (k := 2) hi hLn (by omega) e2 3 0 rfl rfl dL_law_347 dL_law_348 dL_law_349 dL_law_350 dL_law_351 ?_
  refine l_bit (pc := 352) ebt dL_law_352 dL_law_355 dL_law_356 dL_law_359 ?_
  refine l_callV (pc := 360) (As := [.int (zI z1), .int (zI bt)]) (rest := []) k_L_36_X5 (hC _) ⟨rfl, rfl, Nat.le_of_ble_eq_true rfl, Nat.le_of_ble_eq_true rfl⟩ ⟨Nat.le_refl _, Nat.le_refl _⟩ 0 4 rfl rfl at_arr rfl rfl (Nat.le_of_ble_eq_true rfl) dL_law_360 (fun v w' q => ?_)
  obtain ⟨hv, σ', hw, ok⟩ := q
  subst hv hw
  refine l_swap ?_
  refine l_aload_n (pc := 363) dL_law_363 1 rfl ?_
  refine l_arg (pc := 364) (k := 1) hi hLn (by omega) e1 3 0 rfl rfl dL_law_364 dL_law_365 dL_law_366 dL_law_367 dL_law_368 ?_
  refine l_arg (pc := 369) (k := 2) hi hLn (by omega) e2 3 0 rfl rfl dL_law_369 dL_law_370 dL_law_371 dL_law_372 dL_law_373 ?_
  refine l_bit (pc := 374) ebt dL_law_374 dL_law_377 dL_law_378 dL_law_381 ?_
  refine l_callV (pc := 382) (As := [.int (zI z1), .int (zI bt)]) (rest := [_]) k_L_40_X6 (hM σ' ok _) ⟨rfl, rfl, Nat.le_of_ble_eq_true rfl, Nat.le_of_ble_eq_true rfl⟩ ⟨Nat.le_refl _, Nat.le_refl _⟩ 0 5 rfl rfl am_obj rfl rfl (Nat.le_of_ble_eq_true rfl) dL_law_382 (fun v w' q => ?_)
  obtain ⟨hv, τ', hw, hI', hR'⟩ := q
  subst hv hw
  refine l_swap ?_
  exact l_same (pc := 385) 1044 dL_law_385 rfl (kk σ' τ' hI' hR')
theorem law_c6 (hi : 0 ≤ i ∧ i + 5 ≤ Ln) (hLn : Ln ≤ 2560) (hI : Inv σ) (hR : Rel σ τ) (kk : ∀ σ' τ', Inv σ' → Rel σ' τ' → GL D cy l b Ln xs (CW cy ad σ' ++ MW cy bd τ') 600000 7302250 1044 [(3, .int (zI i)), (2, .ref (bd 0)), (1, .ref (ad 0)), (0, .ref b)] []) : GL D cy l b Ln xs (CW cy ad σ ++ MW cy bd τ) 600000 7302250 390 [(3, .int (zI i)), (2, .ref (bd 0)), (1, .ref (ad 0)), (0, .ref b)] [] := by
  obtain ⟨z1, hz1, e1⟩ := zI_ex (xs (zI (i + 1)).toNatClampNeg)
  obtain ⟨OK, hC, hM⟩ := p_setDiodeDrop (D := D) (cy := cy) (l := l) (ad := ad) (bd := bd) hI hR z1 hz1
  refine l_aload_n (pc := 390) dL_law_390 2 rfl ?_
  refine l_arg (pc := 391) (k := 1) hi hLn (by omega) e1 3 0 rfl rfl dL_law_391 dL_law_392 dL_law_393 dL_law_394 dL_law_395 ?_
  refine l_callV (pc := 396) (As := [.int (zI z1)]) (rest := []) k_L_41_X5 (hC _) ⟨rfl, rfl, Nat.le_of_ble_eq_true rfl, Nat.le_of_ble_eq_true rfl⟩ ⟨Nat.le_refl _, Nat.le_refl _⟩ 0 4 rfl rfl at_arr rfl rfl (Nat.le_of_ble_eq_true rfl) dL_law_396 (fun v w' q => ?_)
  obtain ⟨hv, σ', hw, ok⟩ := q
  subst hv hw
  refine l_swap ?_
  refine l_aload_n (pc := 399) dL_law_399 1 rfl ?_
  refine l_arg (pc := 400) (k := 1) hi hLn (by omega) e1 3 0 rfl rfl dL_law_400 dL_law_401 dL_law_402 dL_law_403 dL_law_404 ?_
  refine l_callV (pc := 405) (As := [.int (zI z1)]) (rest := [_]) k_L_45_X6 (hM σ' ok _) ⟨rfl, rfl, Nat.le_of_ble_eq_true rfl, Nat.le_of_ble_eq_true rfl⟩ ⟨Nat.le_refl _, Nat.le_refl _⟩ 0 5 rfl rfl am_obj rfl rfl (Nat.le_of_ble_eq_true rfl) dL_law_405 (fun v w' q => ?_)
  obtain ⟨hv, τ', hw, hI', hR'⟩ := q
  subst hv hw
  refine l_swap ?_
  exact l_same (pc := 408) 1044 dL_law_408 rfl (kk σ' τ' hI' hR')
theorem law_c7 (hi : 0 ≤ i ∧ i + 5 ≤ Ln) (hLn : Ln ≤ 2560) (hI : Inv σ) (hR : Rel σ τ) (kk : ∀ σ' τ', Inv σ' → Rel σ' τ' → GL D cy l b Ln xs (CW cy ad σ' ++ MW cy bd τ') 600000 7302250 1044 [(3, .int (zI i)), (2, .ref (bd 0)), (1, .ref (ad 0)), (0, .ref b)] []) : GL D cy l b Ln xs (CW cy ad σ ++ MW cy bd τ) 600000 7302250 413 [(3, .int (zI i)), (2, .ref (bd 0)), (1, .ref (ad 0)), (0, .ref b)] [] := by
  obtain ⟨z1, hz1, e1⟩ := zI_ex (xs (zI (i + 1)).toNatClampNeg)
  obtain ⟨z2, hz2, e2⟩ := zI_ex (xs (zI (i + 2)).toNatClampNeg)
  obtain ⟨OK, hC, hM⟩ := p_moveModule (D := D) (cy := cy) (l := l) (ad := ad) (bd := bd) hI hR z1 hz1 z2 hz2
  refine l_aload_n (pc := 413) dL_law_413 2 rfl ?_
  refine l_arg (pc := 414) (k := 1) hi hLn (by omega) e1 3 0 rfl rfl dL_law_414 dL_law_415 dL_law_416 dL_law_417 dL_law_418 ?_
  refine l_arg (pc := 419) (k := 2) hi hLn (by omega) e2 3 0 rfl rfl dL_law_419 dL_law_420 dL_law_421 dL_law_422 dL_law_423 ?_
  refine l_callV (pc := 424) (As := [.int (zI z1), .int (zI z2)]) (rest := []) k_L_46_X5 (hC _) ⟨rfl, rfl, Nat.le_of_ble_eq_true rfl, Nat.le_of_ble_eq_true rfl⟩ ⟨Nat.le_refl _, Nat.le_refl _⟩ 0 4 rfl rfl at_arr rfl rfl (Nat.le_of_ble_eq_true rfl) dL_law_424 (fun v w' q => ?_)
  obtain ⟨hv, σ', hw, ok⟩ := q
  subst hv hw
  refine l_swap ?_
  refine l_aload_n (pc := 427) dL_law_427 1 rfl ?_
  refine l_arg (pc := 428) (k := 1) hi hLn (by omega) e1 3 0 rfl rfl dL_law_428 dL_law_429 dL_law_430 dL_law_431 dL_law_432 ?_
  refine l_arg (pc := 433) (k := 2) hi hLn (by omega) e2 3 0 rfl rfl dL_law_433 dL_law_434 dL_law_435 dL_law_436 dL_law_437 ?_
  refine l_callV (pc := 438) (As := [.int (zI z1), .int (zI z2)]) (rest := [_]) k_L_49_X6 (hM σ' ok _) ⟨rfl, rfl, Nat.le_of_ble_eq_true rfl, Nat.le_of_ble_eq_true rfl⟩ ⟨Nat.le_refl _, Nat.le_refl _⟩ 0 5 rfl rfl am_obj rfl rfl (Nat.le_of_ble_eq_true rfl) dL_law_438 (fun v w' q => ?_)
  obtain ⟨hv, τ', hw, hI', hR'⟩ := q
  subst hv hw
  refine l_swap ?_
  exact l_same (pc := 441) 1044 dL_law_441 rfl (kk σ' τ' hI' hR')
theorem law_c8 (hi : 0 ≤ i ∧ i + 5 ≤ Ln) (hLn : Ln ≤ 2560) (hI : Inv σ) (hR : Rel σ τ) (kk : ∀ σ' τ', Inv σ' → Rel σ' τ' → GL D cy l b Ln xs (CW cy ad σ' ++ MW cy bd τ') 600000 7302250 1044 [(3, .int (zI i)), (2, .ref (bd 0)), (1, .ref (ad 0)), (0, .ref b)] []) : GL D cy l b Ln xs (CW cy ad σ ++ MW cy bd τ) 600000 7302250 446 [(3, .int (zI i)), (2, .ref (bd 0)), (1, .ref (ad 0)), (0, .ref b)] [] := by
  obtain ⟨z1, hz1, e1⟩ := zI_ex (xs (zI (i + 1)).toNatClampNeg)
  obtain ⟨z2, hz2, e2⟩ := zI_ex (xs (zI (i + 2)).toNatClampNeg)
  obtain ⟨OK, hC, hM⟩ := p_swapModules (D := D) (cy := cy) (l := l) (ad := ad) (bd := bd) hI hR z1 hz1 z2 hz2
  refine l_aload_n (pc := 446) dL_law_446 2 rfl ?_
  refine l_arg (pc := 447) (k := 1) hi hLn (by omega) e1 3 0 rfl rfl dL_law_447 dL_law_448 dL_law_449 dL_law_450 dL_law_451 ?_
  refine l_arg (pc := 452) (k := 2) hi hLn (by omega) e2 3 0 rfl rfl dL_law_452 dL_law_453 dL_law_454 dL_law_455 dL_law_456 ?_
  refine l_callV (pc := 457) (As := [.int (zI z1), .int (zI z2)]) (rest := []) k_L_50_X5 (hC _) ⟨rfl, rfl, Nat.le_of_ble_eq_true rfl, Nat.le_of_ble_eq_true rfl⟩ ⟨Nat.le_refl _, Nat.le_refl _⟩ 0 4 rfl rfl at_arr rfl rfl (Nat.le_of_ble_eq_true rfl) dL_law_457 (fun v w' q => ?_)
  obtain ⟨hv, σ', hw, ok⟩ := q
  subst hv hw
  refine l_swap ?_
  refine l_aload_n (pc := 460) dL_law_460 1 rfl ?_
  refine l_arg (pc := 461) (k := 1) hi hLn (by omega) e1 3 0 rfl rfl dL_law_461 dL_law_462 dL_law_463 dL_law_464 dL_law_465 ?_
  refine l_arg (pc := 466) (k := 2) hi hLn (by omega) e2 3 0 rfl rfl dL_law_466 dL_law_467 dL_law_468 dL_law_469 dL_law_470 ?_
  refine l_callV (pc := 471) (As := [.int (zI z1), .int (zI z2)]) (rest := [_]) k_L_53_X6 (hM σ' ok _) ⟨rfl, rfl, Nat.le_of_ble_eq_true rfl, Nat.le_of_ble_eq_true rfl⟩ ⟨Nat.le_refl _, Nat.le_refl _⟩ 0 5 rfl rfl am_obj rfl rfl (Nat.le_of_ble_eq_true rfl) dL_law_471 (fun v w' q => ?_)
  obtain ⟨hv, τ', hw, hI', hR'⟩ := q
  subst hv hw
  refine l_swap ?_
  exact l_same (pc := 474) 1044 dL_law_474 rfl (kk σ' τ' hI' hR')
theorem law_c9 (hi : 0 ≤ i ∧ i + 5 ≤ Ln) (hLn : Ln ≤ 2560) (hI : Inv σ) (hR : Rel σ τ) (kk : ∀ σ' τ', Inv σ' → Rel σ' τ' → GL D cy l b Ln xs (CW cy ad σ' ++ MW cy bd τ') 600000 7302250 1044 [(3, .int (zI i)), (2, .ref (bd 0)), (1, .ref (ad 0)), (0, .ref b)] []) : GL D cy l b Ln xs (CW cy ad σ ++ MW cy bd τ) 600000 7302250 479 [(3, .int (zI i)), (2, .ref (bd 0)), (1, .ref (ad 0)), (0, .ref b)] [] := by
  obtain ⟨z1, hz1, e1⟩ := zI_ex (xs (zI (i + 1)).toNatClampNeg)
  obtain ⟨OK, hC, hM⟩ := p_stringOf (D := D) (cy := cy) (l := l) (ad := ad) (bd := bd) hI hR z1 hz1
  refine l_aload_n (pc := 479) dL_law_479 2 rfl ?_
  refine l_arg (pc := 480) (k := 1) hi hLn (by omega) e1 3 0 rfl rfl dL_law_480 dL_law_481 dL_law_482 dL_law_483 dL_law_484 ?_
  refine l_callV (pc := 485) (As := [.int (zI z1)]) (rest := []) k_L_54_X5 (hC _) ⟨rfl, rfl, Nat.le_of_ble_eq_true rfl, Nat.le_of_ble_eq_true rfl⟩ ⟨Nat.le_refl _, Nat.le_refl _⟩ 0 4 rfl rfl at_arr rfl rfl (Nat.le_of_ble_eq_true rfl) dL_law_485 (fun v w' q => ?_)
  obtain ⟨hv, σ', hw, ok⟩ := q
  subst hv hw
  refine l_swap ?_
  refine l_aload_n (pc := 488) dL_law_488 1 rfl ?_
  refine l_arg (pc := 489) (k := 1) hi hLn (by omega) e1 3 0 rfl rfl dL_law_489 dL_law_490 dL_law_491 dL_law_492 dL_law_493 ?_
  refine l_callV (pc := 494) (As := [.int (zI z1)]) (rest := [_]) k_L_57_X6 (hM σ' ok _) ⟨rfl, rfl, Nat.le_of_ble_eq_true rfl, Nat.le_of_ble_eq_true rfl⟩ ⟨Nat.le_refl _, Nat.le_refl _⟩ 0 5 rfl rfl am_obj rfl rfl (Nat.le_of_ble_eq_true rfl) dL_law_494 (fun v w' q => ?_)
  obtain ⟨hv, τ', hw, hI', hR'⟩ := q
  subst hv hw
  refine l_swap ?_
  exact l_same (pc := 497) 1044 dL_law_497 rfl (kk σ' τ' hI' hR')
theorem law_c10 (hi : 0 ≤ i ∧ i + 5 ≤ Ln) (hLn : Ln ≤ 2560) (hI : Inv σ) (hR : Rel σ τ) (kk : ∀ σ' τ', Inv σ' → Rel σ' τ' → GL D cy l b Ln xs (CW cy ad σ' ++ MW cy bd τ') 600000 7302250 1044 [(3, .int (zI i)), (2, .ref (bd 0)), (1, .ref (ad 0)), (0, .ref b)] []) : GL D cy l b Ln xs (CW cy ad σ ++ MW cy bd τ) 600000 7302250 502 [(3, .int (zI i)), (2, .ref (bd 0)), (1, .ref (ad 0)), (0, .ref b)] [] := by
  obtain ⟨z1, hz1, e1⟩ := zI_ex (xs (zI (i + 1)).toNatClampNeg)
  obtain ⟨z2, hz2, e2⟩ := zI_ex (xs (zI (i + 2)).toNatClampNeg)
  obtain ⟨OK, hC, hM⟩ := p_moduleAt (D := D) (cy := cy) (l := l) (ad := ad) (bd := bd) hI hR z1 hz1 z2 hz2
  refine l_aload_n (pc := 502) dL_law_502 2 rfl ?_
  refine l_arg (pc := 503) (k := 1) hi hLn (by omega) e1 3 0 rfl rfl dL_law_503 dL_law_504 dL_law_505 dL_law_506 dL_law_507 ?_
  refine l_arg (pc := 508) (k := 2) hi hLn (by omega) e2 3 0 rfl rfl dL_law_508 dL_law_509 dL_law_510 dL_law_511 dL_law_512 ?_
  refine l_callV (pc := 513) (As := [.int (zI z1), .int (zI z2)]) (rest := []) k_L_58_X5 (hC _) ⟨rfl, rfl, Nat.le_of_ble_eq_true rfl, Nat.le_of_ble_eq_true rfl⟩ ⟨Nat.le_refl _, Nat.le_refl _⟩ 0 4 rfl rfl at_arr rfl rfl (Nat.le_of_ble_eq_true rfl) dL_law_513 (fun v w' q => ?_)
  obtain ⟨hv, σ', hw, ok⟩ := q
  subst hv hw
  refine l_swap ?_
  refine l_aload_n (pc := 516) dL_law_516 1 rfl ?_
  refine l_arg (pc := 517) (k := 1) hi hLn (by omega) e1 3 0 rfl rfl dL_law_517 dL_law_518 dL_law_519 dL_law_520 dL_law_521 ?_
  refine l_arg (pc := 522) (k := 2) hi hLn (by omega) e2 3 0 rfl rfl dL_law_522 dL_law_523 dL_law_524 dL_law_525 dL_law_526 ?_
  refine l_callV (pc := 527) (As := [.int (zI z1), .int (zI z2)]) (rest := [_]) k_L_61_X6 (hM σ' ok _) ⟨rfl, rfl, Nat.le_of_ble_eq_true rfl, Nat.le_of_ble_eq_true rfl⟩ ⟨Nat.le_refl _, Nat.le_refl _⟩ 0 5 rfl rfl am_obj rfl rfl (Nat.le_of_ble_eq_true rfl) dL_law_527 (fun v w' q => ?_)
  obtain ⟨hv, τ', hw, hI', hR'⟩ := q
  subst hv hw
  refine l_swap ?_
  exact l_same (pc := 530) 1044 dL_law_530 rfl (kk σ' τ' hI' hR')
theorem law_c11 (hi : 0 ≤ i ∧ i + 5 ≤ Ln) (hLn : Ln ≤ 2560) (hI : Inv σ) (hR : Rel σ τ) (kk : ∀ σ' τ', Inv σ' → Rel σ' τ' → GL D cy l b Ln xs (CW cy ad σ' ++ MW cy bd τ') 600000 7302250 1044 [(3, .int (zI i)), (2, .ref (bd 0)), (1, .ref (ad 0)), (0, .ref b)] []) : GL D cy l b Ln xs (CW cy ad σ ++ MW cy bd τ) 600000 7302250 535 [(3, .int (zI i)), (2, .ref (bd 0)), (1, .ref (ad 0)), (0, .ref b)] [] := by
  obtain ⟨z1, hz1, e1⟩ := zI_ex (xs (zI (i + 1)).toNatClampNeg)
  obtain ⟨OK, hC, hM⟩ := p_photocurrent (D := D) (cy := cy) (l := l) (ad := ad) (bd := bd) hI hR z1 hz1
  refine l_aload_n (pc := 535) dL_law_535 2 rfl ?_
  refine l_arg (pc := 536) (k := 1) hi hLn (by omega) e1 3 0 rfl rfl dL_law_536 dL_law_537 dL_law_538 dL_law_539 dL_law_540 ?_
  refine l_callV (pc := 541) (As := [.int (zI z1)]) (rest := []) k_L_62_X5 (hC _) ⟨rfl, rfl, Nat.le_of_ble_eq_true rfl, Nat.le_of_ble_eq_true rfl⟩ ⟨Nat.le_refl _, Nat.le_refl _⟩ 0 4 rfl rfl at_arr rfl rfl (Nat.le_of_ble_eq_true rfl) dL_law_541 (fun v w' q => ?_)
  obtain ⟨hv, σ', hw, ok⟩ := q
  subst hv hw
  refine l_swap ?_
  refine l_aload_n (pc := 544) dL_law_544 1 rfl ?_
  refine l_arg (pc := 545) (k := 1) hi hLn (by omega) e1 3 0 rfl rfl dL_law_545 dL_law_546 dL_law_547 dL_law_548 dL_law_549 ?_
  refine l_callV (pc := 550) (As := [.int (zI z1)]) (rest := [_]) k_L_65_X6 (hM σ' ok _) ⟨rfl, rfl, Nat.le_of_ble_eq_true rfl, Nat.le_of_ble_eq_true rfl⟩ ⟨Nat.le_refl _, Nat.le_refl _⟩ 0 5 rfl rfl am_obj rfl rfl (Nat.le_of_ble_eq_true rfl) dL_law_550 (fun v w' q => ?_)
  obtain ⟨hv, τ', hw, hI', hR'⟩ := q
  subst hv hw
  refine l_swap ?_
  exact l_same (pc := 553) 1044 dL_law_553 rfl (kk σ' τ' hI' hR')
theorem law_c12 (hi : 0 ≤ i ∧ i + 5 ≤ Ln) (hLn : Ln ≤ 2560) (hI : Inv σ) (hR : Rel σ τ) (kk : ∀ σ' τ', Inv σ' → Rel σ' τ' → GL D cy l b Ln xs (CW cy ad σ' ++ MW cy bd τ') 600000 7302250 1044 [(3, .int (zI i)), (2, .ref (bd 0)), (1, .ref (ad 0)), (0, .ref b)] []) : GL D cy l b Ln xs (CW cy ad σ ++ MW cy bd τ) 600000 7302250 558 [(3, .int (zI i)), (2, .ref (bd 0)), (1, .ref (ad 0)), (0, .ref b)] [] := by
  obtain ⟨z1, hz1, e1⟩ := zI_ex (xs (zI (i + 1)).toNatClampNeg)
  obtain ⟨z2, hz2, e2⟩ := zI_ex (xs (zI (i + 2)).toNatClampNeg)
  obtain ⟨OK, hC, hM⟩ := p_moduleVoltage (D := D) (cy := cy) (l := l) (ad := ad) (bd := bd) hI hR z1 hz1 z2 hz2
  refine l_aload_n (pc := 558) dL_law_558 2 rfl ?_
  refine l_arg (pc := 559) (k := 1) hi hLn (by omega) e1 3 0 rfl rfl dL_law_559 dL_law_560 dL_law_561 dL_law_562 dL_law_563 ?_
  refine l_arg (pc := 564) (k := 2) hi hLn (by omega) e2 3 0 rfl rfl dL_law_564 dL_law_565 dL_law_566 dL_law_567 dL_law_568 ?_
  refine l_callV (pc := 569) (As := [.int (zI z1), .int (zI z2)]) (rest := []) k_L_66_X5 (hC _) ⟨rfl, rfl, Nat.le_of_ble_eq_true rfl, Nat.le_of_ble_eq_true rfl⟩ ⟨Nat.le_refl _, Nat.le_refl _⟩ 0 4 rfl rfl at_arr rfl rfl (Nat.le_of_ble_eq_true rfl) dL_law_569 (fun v w' q => ?_)
  obtain ⟨hv, σ', hw, ok⟩ := q
  subst hv hw
  refine l_swap ?_
  refine l_aload_n (pc := 572) dL_law_572 1 rfl ?_
  refine l_arg (pc := 573) (k := 1) hi hLn (by omega) e1 3 0 rfl rfl dL_law_573 dL_law_574 dL_law_575 dL_law_576 dL_law_577 ?_
  refine l_arg (pc := 578) (k := 2) hi hLn (by omega) e2 3 0 rfl rfl dL_law_578 dL_law_579 dL_law_580 dL_law_581 dL_law_582 ?_
  refine l_callV (pc := 583) (As := [.int (zI z1), .int (zI z2)]) (rest := [_]) k_L_69_X6 (hM σ' ok _) ⟨rfl, rfl, Nat.le_of_ble_eq_true rfl, Nat.le_of_ble_eq_true rfl⟩ ⟨Nat.le_refl _, Nat.le_refl _⟩ 0 5 rfl rfl am_obj rfl rfl (Nat.le_of_ble_eq_true rfl) dL_law_583 (fun v w' q => ?_)
  obtain ⟨hv, τ', hw, hI', hR'⟩ := q
  subst hv hw
  refine l_swap ?_
  exact l_same (pc := 586) 1044 dL_law_586 rfl (kk σ' τ' hI' hR')
theorem law_c13 (hi : 0 ≤ i ∧ i + 5 ≤ Ln) (hLn : Ln ≤ 2560) (hI : Inv σ) (hR : Rel σ τ) (kk : ∀ σ' τ', Inv σ' → Rel σ' τ' → GL D cy l b Ln xs (CW cy ad σ' ++ MW cy bd τ') 600000 7302250 1044 [(3, .int (zI i)), (2, .ref (bd 0)), (1, .ref (ad 0)), (0, .ref b)] []) : GL D cy l b Ln xs (CW cy ad σ ++ MW cy bd τ) 600000 7302250 591 [(3, .int (zI i)), (2, .ref (bd 0)), (1, .ref (ad 0)), (0, .ref b)] [] := by
  obtain ⟨z1, hz1, e1⟩ := zI_ex (xs (zI (i + 1)).toNatClampNeg)
  obtain ⟨OK, hC, hM⟩ := p_modulePeakPower (D := D) (cy := cy) (l := l) (ad := ad) (bd := bd) hI hR z1 hz1
  refine l_aload_n (pc := 591) dL_law_591 2 rfl ?_
  refine l_arg (pc := 592) (k := 1) hi hLn (by omega) e1 3 0 rfl rfl dL_law_592 dL_law_593 dL_law_594 dL_law_595 dL_law_596 ?_
  refine l_callV (pc := 597) (As := [.int (zI z1)]) (rest := []) k_L_70_X5 (hC _) ⟨rfl, rfl, Nat.le_of_ble_eq_true rfl, Nat.le_of_ble_eq_true rfl⟩ ⟨Nat.le_refl _, Nat.le_refl _⟩ 0 4 rfl rfl at_arr rfl rfl (Nat.le_of_ble_eq_true rfl) dL_law_597 (fun v w' q => ?_)
  obtain ⟨hv, σ', hw, ok⟩ := q
  subst hv hw
  refine l_swap ?_
  refine l_aload_n (pc := 600) dL_law_600 1 rfl ?_
  refine l_arg (pc := 601) (k := 1) hi hLn (by omega) e1 3 0 rfl rfl dL_law_601 dL_law_602 dL_law_603 dL_law_604 dL_law_605 ?_
  refine l_callV (pc := 606) (As := [.int (zI z1)]) (rest := [_]) k_L_74_X6 (hM σ' ok _) ⟨rfl, rfl, Nat.le_of_ble_eq_true rfl, Nat.le_of_ble_eq_true rfl⟩ ⟨Nat.le_refl _, Nat.le_refl _⟩ 0 5 rfl rfl am_obj rfl rfl (Nat.le_of_ble_eq_true rfl) dL_law_606 (fun v w' q => ?_)
  obtain ⟨hv, τ', hw, hI', hR'⟩ := q
  subst hv hw
  refine l_swap ?_
  exact l_sameJ (pc := 609) 1044 dL_law_609 dL_law_610 rfl (kk σ' τ' hI' hR')
theorem law_c14 (hi : 0 ≤ i ∧ i + 5 ≤ Ln) (hLn : Ln ≤ 2560) (hI : Inv σ) (hR : Rel σ τ) (kk : ∀ σ' τ', Inv σ' → Rel σ' τ' → GL D cy l b Ln xs (CW cy ad σ' ++ MW cy bd τ') 600000 7302250 1044 [(3, .int (zI i)), (2, .ref (bd 0)), (1, .ref (ad 0)), (0, .ref b)] []) : GL D cy l b Ln xs (CW cy ad σ ++ MW cy bd τ) 600000 7302250 615 [(3, .int (zI i)), (2, .ref (bd 0)), (1, .ref (ad 0)), (0, .ref b)] [] := by
  obtain ⟨z1, hz1, e1⟩ := zI_ex (xs (zI (i + 1)).toNatClampNeg)
  obtain ⟨OK, hC, hM⟩ := p_currentLimit (D := D) (cy := cy) (l := l) (ad := ad) (bd := bd) hI hR z1 hz1
  refine l_aload_n (pc := 615) dL_law_615 2 rfl ?_
  refine l_arg (pc := 616) (k := 1) hi hLn (by omega) e1 3 0 rfl rfl dL_law_616 dL_law_617 dL_law_618 dL_law_619 dL_law_620 ?_
  refine l_callV (pc := 621) (As := [.int (zI z1)]) (rest := []) k_L_75_X5 (hC _) ⟨rfl, rfl, Nat.le_of_ble_eq_true rfl, Nat.le_of_ble_eq_true rfl⟩ ⟨Nat.le_refl _, Nat.le_refl _⟩ 0 4 rfl rfl at_arr rfl rfl (Nat.le_of_ble_eq_true rfl) dL_law_621 (fun v w' q => ?_)
  obtain ⟨hv, σ', hw, ok⟩ := q
  subst hv hw
  refine l_swap ?_
  refine l_aload_n (pc := 624) dL_law_624 1 rfl ?_
  refine l_arg (pc := 625) (k := 1) hi hLn (by omega) e1 3 0 rfl rfl dL_law_625 dL_law_626 dL_law_627 dL_law_628 dL_law_629 ?_
  refine l_callV (pc := 630) (As := [.int (zI z1)]) (rest := [_]) k_L_78_X6 (hM σ' ok _) ⟨rfl, rfl, Nat.le_of_ble_eq_true rfl, Nat.le_of_ble_eq_true rfl⟩ ⟨Nat.le_refl _, Nat.le_refl _⟩ 0 5 rfl rfl am_obj rfl rfl (Nat.le_of_ble_eq_true rfl) dL_law_630 (fun v w' q => ?_)
  obtain ⟨hv, τ', hw, hI', hR'⟩ := q
  subst hv hw
  refine l_swap ?_
  exact l_same (pc := 633) 1044 dL_law_633 rfl (kk σ' τ' hI' hR')
theorem law_c15 (hi : 0 ≤ i ∧ i + 5 ≤ Ln) (hLn : Ln ≤ 2560) (hI : Inv σ) (hR : Rel σ τ) (kk : ∀ σ' τ', Inv σ' → Rel σ' τ' → GL D cy l b Ln xs (CW cy ad σ' ++ MW cy bd τ') 600000 7302250 1044 [(3, .int (zI i)), (2, .ref (bd 0)), (1, .ref (ad 0)), (0, .ref b)] []) : GL D cy l b Ln xs (CW cy ad σ ++ MW cy bd τ) 600000 7302250 638 [(3, .int (zI i)), (2, .ref (bd 0)), (1, .ref (ad 0)), (0, .ref b)] [] := by
  obtain ⟨z1, hz1, e1⟩ := zI_ex (xs (zI (i + 1)).toNatClampNeg)
  obtain ⟨z2, hz2, e2⟩ := zI_ex (xs (zI (i + 2)).toNatClampNeg)
  obtain ⟨OK, hC, hM⟩ := p_stringVoltage (D := D) (cy := cy) (l := l) (ad := ad) (bd := bd) hI hR z1 hz1 z2 hz2
  refine l_aload_n (pc := 638) dL_law_638 2 rfl ?_
  refine l_arg (pc := 639) (k := 1) hi hLn (by omega) e1 3 0 rfl rfl dL_law_639 dL_law_640 dL_law_641 dL_law_642 dL_law_643 ?_
  refine l_arg (pc := 644) (k := 2) hi hLn (by omega) e2 3 0 rfl rfl dL_law_644 dL_law_645 dL_law_646 dL_law_647 dL_law_648 ?_
  refine l_callV (pc := 649) (As := [.int (zI z1), .int (zI z2)]) (rest := []) k_L_79_X5 (hC _) ⟨rfl, rfl, Nat.le_of_ble_eq_true rfl, Nat.le_of_ble_eq_true rfl⟩ ⟨Nat.le_refl _, Nat.le_refl _⟩ 0 4 rfl rfl at_arr rfl rfl (Nat.le_of_ble_eq_true rfl) dL_law_649 (fun v w' q => ?_)
  obtain ⟨hv, σ', hw, ok⟩ := q
  subst hv hw
  refine l_swap ?_
  refine l_aload_n (pc := 652) dL_law_652 1 rfl ?_
  refine l_arg (pc := 653) (k := 1) hi hLn (by omega) e1 3 0 rfl rfl dL_law_653 dL_law_654 dL_law_655 dL_law_656 dL_law_657 ?_
  refine l_arg (pc := 658) (k := 2) hi hLn (by omega) e2 3 0 rfl rfl dL_law_658 dL_law_659 dL_law_660 dL_law_661 dL_law_662 ?_
  refine l_callV (pc := 663) (As := [.int (zI z1), .int (zI z2)]) (rest := [_]) k_L_82_X6 (hM σ' ok _) ⟨rfl, rfl, Nat.le_of_ble_eq_true rfl, Nat.le_of_ble_eq_true rfl⟩ ⟨Nat.le_refl _, Nat.le_refl _⟩ 0 5 rfl rfl am_obj rfl rfl (Nat.le_of_ble_eq_true rfl) dL_law_663 (fun v w' q => ?_)
  obtain ⟨hv, τ', hw, hI', hR'⟩ := q
  subst hv hw
  refine l_swap ?_
  exact l_same (pc := 666) 1044 dL_law_666 rfl (kk σ' τ' hI' hR')
theorem law_c16 (hi : 0 ≤ i ∧ i + 5 ≤ Ln) (hLn : Ln ≤ 2560) (hI : Inv σ) (hR : Rel σ τ) (kk : ∀ σ' τ', Inv σ' → Rel σ' τ' → GL D cy l b Ln xs (CW cy ad σ' ++ MW cy bd τ') 600000 7302250 1044 [(3, .int (zI i)), (2, .ref (bd 0)), (1, .ref (ad 0)), (0, .ref b)] []) : GL D cy l b Ln xs (CW cy ad σ ++ MW cy bd τ) 600000 7302250 671 [(3, .int (zI i)), (2, .ref (bd 0)), (1, .ref (ad 0)), (0, .ref b)] [] := by
  obtain ⟨z1, hz1, e1⟩ := zI_ex (xs (zI (i + 1)).toNatClampNeg)
  obtain ⟨z2, hz2, e2⟩ := zI_ex (xs (zI (i + 2)).toNatClampNeg)
  obtain ⟨OK, hC, hM⟩ := p_stringPower (D := D) (cy := cy) (l := l) (ad := ad) (bd := bd) hI hR z1 hz1 z2 hz2
  refine l_aload_n (pc := 671) dL_law_671 2 rfl ?_
  refine l_arg (pc := 672) (k := 1) hi hLn (by omega) e1 3 0 rfl rfl dL_law_672 dL_law_673 dL_law_674 dL_law_675 dL_law_676 ?_
  refine l_arg (pc := 677) (k := 2) hi hLn (by omega) e2 3 0 rfl rfl dL_law_677 dL_law_678 dL_law_679 dL_law_680 dL_law_681 ?_
  refine l_callV (pc := 682) (As := [.int (zI z1), .int (zI z2)]) (rest := []) k_L_83_X5 (hC _) ⟨rfl, rfl, Nat.le_of_ble_eq_true rfl, Nat.le_of_ble_eq_true rfl⟩ ⟨Nat.le_refl _, Nat.le_refl _⟩ 0 4 rfl rfl at_arr rfl rfl (Nat.le_of_ble_eq_true rfl) dL_law_682 (fun v w' q => ?_)
  obtain ⟨hv, σ', hw, ok⟩ := q
  subst hv hw
  refine l_swap ?_
  refine l_aload_n (pc := 685) dL_law_685 1 rfl ?_
  refine l_arg (pc := 686) (k := 1) hi hLn (by omega) e1 3 0 rfl rfl dL_law_686 dL_law_687 dL_law_688 dL_law_689 dL_law_690 ?_
  refine l_arg (pc := 691) (k := 2) hi hLn (by omega) e2 3 0 rfl rfl dL_law_691 dL_law_692 dL_law_693 dL_law_694 dL_law_695 ?_
  refine l_callV (pc := 696) (As := [.int (zI z1), .int (zI z2)]) (rest := [_]) k_L_87_X6 (hM σ' ok _) ⟨rfl, rfl, Nat.le_of_ble_eq_true rfl, Nat.le_of_ble_eq_true rfl⟩ ⟨Nat.le_refl _, Nat.le_refl _⟩ 0 5 rfl rfl am_obj rfl rfl (Nat.le_of_ble_eq_true rfl) dL_law_696 (fun v w' q => ?_)
  obtain ⟨hv, τ', hw, hI', hR'⟩ := q
  subst hv hw
  refine l_swap ?_
  exact l_sameJ (pc := 699) 1044 dL_law_699 dL_law_700 rfl (kk σ' τ' hI' hR')
theorem law_c17 (hi : 0 ≤ i ∧ i + 5 ≤ Ln) (hLn : Ln ≤ 2560) (hI : Inv σ) (hR : Rel σ τ) (kk : ∀ σ' τ', Inv σ' → Rel σ' τ' → GL D cy l b Ln xs (CW cy ad σ' ++ MW cy bd τ') 600000 7302250 1044 [(3, .int (zI i)), (2, .ref (bd 0)), (1, .ref (ad 0)), (0, .ref b)] []) : GL D cy l b Ln xs (CW cy ad σ ++ MW cy bd τ) 600000 7302250 705 [(3, .int (zI i)), (2, .ref (bd 0)), (1, .ref (ad 0)), (0, .ref b)] [] := by
  obtain ⟨z1, hz1, e1⟩ := zI_ex (xs (zI (i + 1)).toNatClampNeg)
  obtain ⟨z2, hz2, e2⟩ := zI_ex (xs (zI (i + 2)).toNatClampNeg)
  obtain ⟨OK, hC, hM⟩ := p_bypassedModules (D := D) (cy := cy) (l := l) (ad := ad) (bd := bd) hI hR z1 hz1 z2 hz2
  refine l_aload_n (pc := 705) dL_law_705 2 rfl ?_
  refine l_arg (pc := 706) (k := 1) hi hLn (by omega) e1 3 0 rfl rfl dL_law_706 dL_law_707 dL_law_708 dL_law_709 dL_law_710 ?_
  refine l_arg (pc := 711) (k := 2) hi hLn (by omega) e2 3 0 rfl rfl dL_law_711 dL_law_712 dL_law_713 dL_law_714 dL_law_715 ?_
  refine l_callV (pc := 716) (As := [.int (zI z1), .int (zI z2)]) (rest := []) k_L_88_X5 (hC _) ⟨rfl, rfl, Nat.le_of_ble_eq_true rfl, Nat.le_of_ble_eq_true rfl⟩ ⟨Nat.le_refl _, Nat.le_refl _⟩ 0 4 rfl rfl at_arr rfl rfl (Nat.le_of_ble_eq_true rfl) dL_law_716 (fun v w' q => ?_)
  obtain ⟨hv, σ', hw, ok⟩ := q
  subst hv hw
  refine l_swap ?_
  refine l_aload_n (pc := 719) dL_law_719 1 rfl ?_
  refine l_arg (pc := 720) (k := 1) hi hLn (by omega) e1 3 0 rfl rfl dL_law_720 dL_law_721 dL_law_722 dL_law_723 dL_law_724 ?_
  refine l_arg (pc := 725) (k := 2) hi hLn (by omega) e2 3 0 rfl rfl dL_law_725 dL_law_726 dL_law_727 dL_law_728 dL_law_729 ?_
  refine l_callV (pc := 730) (As := [.int (zI z1), .int (zI z2)]) (rest := [_]) k_L_91_X6 (hM σ' ok _) ⟨rfl, rfl, Nat.le_of_ble_eq_true rfl, Nat.le_of_ble_eq_true rfl⟩ ⟨Nat.le_refl _, Nat.le_refl _⟩ 0 5 rfl rfl am_obj rfl rfl (Nat.le_of_ble_eq_true rfl) dL_law_730 (fun v w' q => ?_)
  obtain ⟨hv, τ', hw, hI', hR'⟩ := q
  subst hv hw
  refine l_swap ?_
  exact l_same (pc := 733) 1044 dL_law_733 rfl (kk σ' τ' hI' hR')
theorem law_c18 (hi : 0 ≤ i ∧ i + 5 ≤ Ln) (hLn : Ln ≤ 2560) (hI : Inv σ) (hR : Rel σ τ) (kk : ∀ σ' τ', Inv σ' → Rel σ' τ' → GL D cy l b Ln xs (CW cy ad σ' ++ MW cy bd τ') 600000 7302250 1044 [(3, .int (zI i)), (2, .ref (bd 0)), (1, .ref (ad 0)), (0, .ref b)] []) : GL D cy l b Ln xs (CW cy ad σ ++ MW cy bd τ) 600000 7302250 738 [(3, .int (zI i)), (2, .ref (bd 0)), (1, .ref (ad 0)), (0, .ref b)] [] := by
  obtain ⟨z1, hz1, e1⟩ := zI_ex (xs (zI (i + 1)).toNatClampNeg)
  obtain ⟨OK, hC, hM⟩ := p_peakCount (D := D) (cy := cy) (l := l) (ad := ad) (bd := bd) hI hR z1 hz1
  refine l_aload_n (pc := 738) dL_law_738 2 rfl ?_
  refine l_arg (pc := 739) (k := 1) hi hLn (by omega) e1 3 0 rfl rfl dL_law_739 dL_law_740 dL_law_741 dL_law_742 dL_law_743 ?_
  refine l_callV (pc := 744) (As := [.int (zI z1)]) (rest := []) k_L_92_X5 (hC _) ⟨rfl, rfl, Nat.le_of_ble_eq_true rfl, Nat.le_of_ble_eq_true rfl⟩ ⟨Nat.le_refl _, Nat.le_refl _⟩ 0 4 rfl rfl at_arr rfl rfl (Nat.le_of_ble_eq_true rfl) dL_law_744 (fun v w' q => ?_)
  obtain ⟨hv, σ', hw, ok⟩ := q
  subst hv hw
  refine l_swap ?_
  refine l_aload_n (pc := 747) dL_law_747 1 rfl ?_
  refine l_arg (pc := 748) (k := 1) hi hLn (by omega) e1 3 0 rfl rfl dL_law_748 dL_law_749 dL_law_750 dL_law_751 dL_law_752 ?_
  refine l_callV (pc := 753) (As := [.int (zI z1)]) (rest := [_]) k_L_95_X6 (hM σ' ok _) ⟨rfl, rfl, Nat.le_of_ble_eq_true rfl, Nat.le_of_ble_eq_true rfl⟩ ⟨Nat.le_refl _, Nat.le_refl _⟩ 0 5 rfl rfl am_obj rfl rfl (Nat.le_of_ble_eq_true rfl) dL_law_753 (fun v w' q => ?_)
  obtain ⟨hv, τ', hw, hI', hR'⟩ := q
  subst hv hw
  refine l_swap ?_
  exact l_same (pc := 756) 1044 dL_law_756 rfl (kk σ' τ' hI' hR')
theorem law_c19 (hi : 0 ≤ i ∧ i + 5 ≤ Ln) (hLn : Ln ≤ 2560) (hI : Inv σ) (hR : Rel σ τ) (kk : ∀ σ' τ', Inv σ' → Rel σ' τ' → GL D cy l b Ln xs (CW cy ad σ' ++ MW cy bd τ') 600000 7302250 1044 [(3, .int (zI i)), (2, .ref (bd 0)), (1, .ref (ad 0)), (0, .ref b)] []) : GL D cy l b Ln xs (CW cy ad σ ++ MW cy bd τ) 600000 7302250 761 [(3, .int (zI i)), (2, .ref (bd 0)), (1, .ref (ad 0)), (0, .ref b)] [] := by
  obtain ⟨z1, hz1, e1⟩ := zI_ex (xs (zI (i + 1)).toNatClampNeg)
  obtain ⟨z2, hz2, e2⟩ := zI_ex (xs (zI (i + 2)).toNatClampNeg)
  obtain ⟨OK, hC, hM⟩ := p_peakCurrent (D := D) (cy := cy) (l := l) (ad := ad) (bd := bd) hI hR z1 hz1 z2 hz2
  refine l_aload_n (pc := 761) dL_law_761 2 rfl ?_
  refine l_arg (pc := 762) (k := 1) hi hLn (by omega) e1 3 0 rfl rfl dL_law_762 dL_law_763 dL_law_764 dL_law_765 dL_law_766 ?_
  refine l_arg (pc := 767) (k := 2) hi hLn (by omega) e2 3 0 rfl rfl dL_law_767 dL_law_768 dL_law_769 dL_law_770 dL_law_771 ?_
  refine l_callV (pc := 772) (As := [.int (zI z1), .int (zI z2)]) (rest := []) k_L_96_X5 (hC _) ⟨rfl, rfl, Nat.le_of_ble_eq_true rfl, Nat.le_of_ble_eq_true rfl⟩ ⟨Nat.le_refl _, Nat.le_refl _⟩ 0 4 rfl rfl at_arr rfl rfl (Nat.le_of_ble_eq_true rfl) dL_law_772 (fun v w' q => ?_)
  obtain ⟨hv, σ', hw, ok⟩ := q
  subst hv hw
  refine l_swap ?_
  refine l_aload_n (pc := 775) dL_law_775 1 rfl ?_
  refine l_arg (pc := 776) (k := 1) hi hLn (by omega) e1 3 0 rfl rfl dL_law_776 dL_law_777 dL_law_778 dL_law_779 dL_law_780 ?_
  refine l_arg (pc := 781) (k := 2) hi hLn (by omega) e2 3 0 rfl rfl dL_law_781 dL_law_782 dL_law_783 dL_law_784 dL_law_785 ?_
  refine l_callV (pc := 786) (As := [.int (zI z1), .int (zI z2)]) (rest := [_]) k_L_99_X6 (hM σ' ok _) ⟨rfl, rfl, Nat.le_of_ble_eq_true rfl, Nat.le_of_ble_eq_true rfl⟩ ⟨Nat.le_refl _, Nat.le_refl _⟩ 0 5 rfl rfl am_obj rfl rfl (Nat.le_of_ble_eq_true rfl) dL_law_786 (fun v w' q => ?_)
  obtain ⟨hv, τ', hw, hI', hR'⟩ := q
  subst hv hw
  refine l_swap ?_
  exact l_same (pc := 789) 1044 dL_law_789 rfl (kk σ' τ' hI' hR')
theorem law_c20 (hi : 0 ≤ i ∧ i + 5 ≤ Ln) (hLn : Ln ≤ 2560) (hI : Inv σ) (hR : Rel σ τ) (kk : ∀ σ' τ', Inv σ' → Rel σ' τ' → GL D cy l b Ln xs (CW cy ad σ' ++ MW cy bd τ') 600000 7302250 1044 [(3, .int (zI i)), (2, .ref (bd 0)), (1, .ref (ad 0)), (0, .ref b)] []) : GL D cy l b Ln xs (CW cy ad σ ++ MW cy bd τ) 600000 7302250 794 [(3, .int (zI i)), (2, .ref (bd 0)), (1, .ref (ad 0)), (0, .ref b)] [] := by
  obtain ⟨z1, hz1, e1⟩ := zI_ex (xs (zI (i + 1)).toNatClampNeg)
  obtain ⟨OK, hC, hM⟩ := p_bestCurrent (D := D) (cy := cy) (l := l) (ad := ad) (bd := bd) hI hR z1 hz1
  refine l_aload_n (pc := 794) dL_law_794 2 rfl ?_
  refine l_arg (pc := 795) (k := 1) hi hLn (by omega) e1 3 0 rfl rfl dL_law_795 dL_law_796 dL_law_797 dL_law_798 dL_law_799 ?_
  refine l_callV (pc := 800) (As := [.int (zI z1)]) (rest := []) k_L_100_X5 (hC _) ⟨rfl, rfl, Nat.le_of_ble_eq_true rfl, Nat.le_of_ble_eq_true rfl⟩ ⟨Nat.le_refl _, Nat.le_refl _⟩ 0 4 rfl rfl at_arr rfl rfl (Nat.le_of_ble_eq_true rfl) dL_law_800 (fun v w' q => ?_)
  obtain ⟨hv, σ', hw, ok⟩ := q
  subst hv hw
  refine l_swap ?_
  refine l_aload_n (pc := 803) dL_law_803 1 rfl ?_
  refine l_arg (pc := 804) (k := 1) hi hLn (by omega) e1 3 0 rfl rfl dL_law_804 dL_law_805 dL_law_806 dL_law_807 dL_law_808 ?_
  refine l_callV (pc := 809) (As := [.int (zI z1)]) (rest := [_]) k_L_103_X6 (hM σ' ok _) ⟨rfl, rfl, Nat.le_of_ble_eq_true rfl, Nat.le_of_ble_eq_true rfl⟩ ⟨Nat.le_refl _, Nat.le_refl _⟩ 0 5 rfl rfl am_obj rfl rfl (Nat.le_of_ble_eq_true rfl) dL_law_809 (fun v w' q => ?_)
  obtain ⟨hv, τ', hw, hI', hR'⟩ := q
  subst hv hw
  refine l_swap ?_
  exact l_same (pc := 812) 1044 dL_law_812 rfl (kk σ' τ' hI' hR')
theorem law_c21 (hi : 0 ≤ i ∧ i + 5 ≤ Ln) (hLn : Ln ≤ 2560) (hI : Inv σ) (hR : Rel σ τ) (kk : ∀ σ' τ', Inv σ' → Rel σ' τ' → GL D cy l b Ln xs (CW cy ad σ' ++ MW cy bd τ') 600000 7302250 1044 [(3, .int (zI i)), (2, .ref (bd 0)), (1, .ref (ad 0)), (0, .ref b)] []) : GL D cy l b Ln xs (CW cy ad σ ++ MW cy bd τ) 600000 7302250 817 [(3, .int (zI i)), (2, .ref (bd 0)), (1, .ref (ad 0)), (0, .ref b)] [] := by
  obtain ⟨z1, hz1, e1⟩ := zI_ex (xs (zI (i + 1)).toNatClampNeg)
  obtain ⟨OK, hC, hM⟩ := p_bestPower (D := D) (cy := cy) (l := l) (ad := ad) (bd := bd) hI hR z1 hz1
  refine l_aload_n (pc := 817) dL_law_817 2 rfl ?_
  refine l_arg (pc := 818) (k := 1) hi hLn (by omega) e1 3 0 rfl rfl dL_law_818 dL_law_819 dL_law_820 dL_law_821 dL_law_822 ?_
  refine l_callV (pc := 823) (As := [.int (zI z1)]) (rest := []) k_L_104_X5 (hC _) ⟨rfl, rfl, Nat.le_of_ble_eq_true rfl, Nat.le_of_ble_eq_true rfl⟩ ⟨Nat.le_refl _, Nat.le_refl _⟩ 0 4 rfl rfl at_arr rfl rfl (Nat.le_of_ble_eq_true rfl) dL_law_823 (fun v w' q => ?_)
  obtain ⟨hv, σ', hw, ok⟩ := q
  subst hv hw
  refine l_swap ?_
  refine l_aload_n (pc := 826) dL_law_826 1 rfl ?_
  refine l_arg (pc := 827) (k := 1) hi hLn (by omega) e1 3 0 rfl rfl dL_law_827 dL_law_828 dL_law_829 dL_law_830 dL_law_831 ?_
  refine l_callV (pc := 832) (As := [.int (zI z1)]) (rest := [_]) k_L_107_X6 (hM σ' ok _) ⟨rfl, rfl, Nat.le_of_ble_eq_true rfl, Nat.le_of_ble_eq_true rfl⟩ ⟨Nat.le_refl _, Nat.le_refl _⟩ 0 5 rfl rfl am_obj rfl rfl (Nat.le_of_ble_eq_true rfl) dL_law_832 (fun v w' q => ?_)
  obtain ⟨hv, τ', hw, hI', hR'⟩ := q
  subst hv hw
  refine l_swap ?_
  exact l_sameJ (pc := 835) 1044 dL_law_835 dL_law_836 rfl (kk σ' τ' hI' hR')
theorem law_c22 (hi : 0 ≤ i ∧ i + 5 ≤ Ln) (hLn : Ln ≤ 2560) (hI : Inv σ) (hR : Rel σ τ) (kk : ∀ σ' τ', Inv σ' → Rel σ' τ' → GL D cy l b Ln xs (CW cy ad σ' ++ MW cy bd τ') 600000 7302250 1044 [(3, .int (zI i)), (2, .ref (bd 0)), (1, .ref (ad 0)), (0, .ref b)] []) : GL D cy l b Ln xs (CW cy ad σ ++ MW cy bd τ) 600000 7302250 841 [(3, .int (zI i)), (2, .ref (bd 0)), (1, .ref (ad 0)), (0, .ref b)] [] := by
  obtain ⟨z1, hz1, e1⟩ := zI_ex (xs (zI (i + 1)).toNatClampNeg)
  obtain ⟨z2, hz2, e2⟩ := zI_ex (xs (zI (i + 2)).toNatClampNeg)
  obtain ⟨z3, hz3, e3⟩ := zI_ex (xs (zI (i + 3)).toNatClampNeg)
  obtain ⟨z4, hz4, e4⟩ := zI_ex (xs (zI (i + 4)).toNatClampNeg)
  obtain ⟨OK, hC, hM⟩ := p_perturbAndObserve (D := D) (cy := cy) (l := l) (ad := ad) (bd := bd) hI hR z1 hz1 z2 hz2 z3 hz3 z4 hz4
  refine l_aload_n (pc := 841) dL_law_841 2 rfl ?_
  refine l_arg (pc := 842) (k := 1) hi hLn (by omega) e1 3 0 rfl rfl dL_law_842 dL_law_843 dL_law_844 dL_law_845 dL_law_846 ?_
  refine l_arg (pc := 847) (k := 2) hi hLn (by omega) e2 3 0 rfl rfl dL_law_847 dL_law_848 dL_law_849 dL_law_850 dL_law_851 ?_
  refine l_arg (pc := 852) (k := 3) hi hLn (by omega) e3 3 0 rfl rfl dL_law_852 dL_law_853 dL_law_854 dL_law_855 dL_law_856 ?_
  refine l_arg (pc := 857) (k := 4) hi hLn (by omega) e4 3 0 rfl rfl dL_law_857 dL_law_858 dL_law_859 dL_law_860 dL_law_861 ?_
  refine l_callV (pc := 862) (As := [.int (zI z1), .int (zI z2), .int (zI z3), .int (zI z4)]) (rest := []) k_L_108_X5 (hC _) ⟨rfl, rfl, Nat.le_of_ble_eq_true rfl, Nat.le_of_ble_eq_true rfl⟩ ⟨Nat.le_refl _, Nat.le_refl _⟩ 0 4 rfl rfl at_arr rfl rfl (Nat.le_of_ble_eq_true rfl) dL_law_862 (fun v w' q => ?_)
  obtain ⟨hv, σ', hw, ok⟩ := q
  subst hv hw
  refine l_swap ?_
  refine l_aload_n (pc := 865) dL_law_865 1 rfl ?_
  refine l_arg (pc := 866) (k := 1) hi hLn (by omega) e1 3 0 rfl rfl dL_law_866 dL_law_867 dL_law_868 dL_law_869 dL_law_870 ?_
  refine l_arg (pc := 871) (k := 2) hi hLn (by omega) e2 3 0 rfl rfl dL_law_871 dL_law_872 dL_law_873 dL_law_874 dL_law_875 ?_
  refine l_arg (pc := 876) (k := 3) hi hLn (by omega) e3 3 0 rfl rfl dL_law_876 dL_law_877 dL_law_878 dL_law_879 dL_law_880 ?_
  refine l_arg (pc := 881) (k := 4) hi hLn (by omega) e4 3 0 rfl rfl dL_law_881 dL_law_882 dL_law_883 dL_law_884 dL_law_885 ?_
  refine l_callV (pc := 886) (As := [.int (zI z1), .int (zI z2), .int (zI z3), .int (zI z4)]) (rest := [_]) k_L_112_X6 (hM σ' ok _) ⟨rfl, rfl, Nat.le_of_ble_eq_true rfl, Nat.le_of_ble_eq_true rfl⟩ ⟨Nat.le_refl _, Nat.le_refl _⟩ 0 5 rfl rfl am_obj rfl rfl (Nat.le_of_ble_eq_true rfl) dL_law_886 (fun v w' q => ?_)
  obtain ⟨hv, τ', hw, hI', hR'⟩ := q
  subst hv hw
  refine l_swap ?_
  exact l_same (pc := 889) 1044 dL_law_889 rfl (kk σ' τ' hI' hR')
theorem law_c23 (hi : 0 ≤ i ∧ i + 5 ≤ Ln) (hLn : Ln ≤ 2560) (hI : Inv σ) (hR : Rel σ τ) (kk : ∀ σ' τ', Inv σ' → Rel σ' τ' → GL D cy l b Ln xs (CW cy ad σ' ++ MW cy bd τ') 600000 7302250 1044 [(3, .int (zI i)), (2, .ref (bd 0)), (1, .ref (ad 0)), (0, .ref b)] []) : GL D cy l b Ln xs (CW cy ad σ ++ MW cy bd τ) 600000 7302250 894 [(3, .int (zI i)), (2, .ref (bd 0)), (1, .ref (ad 0)), (0, .ref b)] [] := by
  obtain ⟨z1, hz1, e1⟩ := zI_ex (xs (zI (i + 1)).toNatClampNeg)
  obtain ⟨z2, hz2, e2⟩ := zI_ex (xs (zI (i + 2)).toNatClampNeg)
  obtain ⟨OK, hC, hM⟩ := p_scanAndClimb (D := D) (cy := cy) (l := l) (ad := ad) (bd := bd) hI hR z1 hz1 z2 hz2
  refine l_aload_n (pc := 894) dL_law_894 2 rfl ?_
  refine l_arg (pc := 895) (k := 1) hi hLn (by omega) e1 3 0 rfl rfl dL_law_895 dL_law_896 dL_law_897 dL_law_898 dL_law_899 ?_
  refine l_arg (pc := 900) (k := 2) hi hLn (by omega) e2 3 0 rfl rfl dL_law_900 dL_law_901 dL_law_902 dL_law_903 dL_law_904 ?_
  refine l_callV (pc := 905) (As := [.int (zI z1), .int (zI z2)]) (rest := []) k_L_113_X5 (hC _) ⟨rfl, rfl, Nat.le_of_ble_eq_true rfl, Nat.le_of_ble_eq_true rfl⟩ ⟨Nat.le_refl _, Nat.le_refl _⟩ 0 4 rfl rfl at_arr rfl rfl (Nat.le_of_ble_eq_true rfl) dL_law_905 (fun v w' q => ?_)
  obtain ⟨hv, σ', hw, ok⟩ := q
  subst hv hw
  refine l_swap ?_
  refine l_aload_n (pc := 908) dL_law_908 1 rfl ?_
  refine l_arg (pc := 909) (k := 1) hi hLn (by omega) e1 3 0 rfl rfl dL_law_909 dL_law_910 dL_law_911 dL_law_912 dL_law_913 ?_
  refine l_arg (pc := 914) (k := 2) hi hLn (by omega) e2 3 0 rfl rfl dL_law_914 dL_law_915 dL_law_916 dL_law_917 dL_law_918 ?_
  refine l_callV (pc := 919) (As := [.int (zI z1), .int (zI z2)]) (rest := [_]) k_L_116_X6 (hM σ' ok _) ⟨rfl, rfl, Nat.le_of_ble_eq_true rfl, Nat.le_of_ble_eq_true rfl⟩ ⟨Nat.le_refl _, Nat.le_refl _⟩ 0 5 rfl rfl am_obj rfl rfl (Nat.le_of_ble_eq_true rfl) dL_law_919 (fun v w' q => ?_)
  obtain ⟨hv, τ', hw, hI', hR'⟩ := q
  subst hv hw
  refine l_swap ?_
  exact l_same (pc := 922) 1044 dL_law_922 rfl (kk σ' τ' hI' hR')
theorem law_c24 (hi : 0 ≤ i ∧ i + 5 ≤ Ln) (hLn : Ln ≤ 2560) (hI : Inv σ) (hR : Rel σ τ) (kk : ∀ σ' τ', Inv σ' → Rel σ' τ' → GL D cy l b Ln xs (CW cy ad σ' ++ MW cy bd τ') 600000 7302250 1044 [(3, .int (zI i)), (2, .ref (bd 0)), (1, .ref (ad 0)), (0, .ref b)] []) : GL D cy l b Ln xs (CW cy ad σ ++ MW cy bd τ) 600000 7302250 927 [(3, .int (zI i)), (2, .ref (bd 0)), (1, .ref (ad 0)), (0, .ref b)] [] := by
  obtain ⟨z1, hz1, e1⟩ := zI_ex (xs (zI (i + 1)).toNatClampNeg)
  obtain ⟨OK, hC, hM⟩ := p_arrayCurrent (D := D) (cy := cy) (l := l) (ad := ad) (bd := bd) hI hR z1 hz1
  refine l_aload_n (pc := 927) dL_law_927 2 rfl ?_
  refine l_arg (pc := 928) (k := 1) hi hLn (by omega) e1 3 0 rfl rfl dL_law_928 dL_law_929 dL_law_930 dL_law_931 dL_law_932 ?_
  refine l_callV (pc := 933) (As := [.int (zI z1)]) (rest := []) k_L_117_X5 (hC _) ⟨rfl, rfl, Nat.le_of_ble_eq_true rfl, Nat.le_of_ble_eq_true rfl⟩ ⟨Nat.le_refl _, Nat.le_refl _⟩ 0 4 rfl rfl at_arr rfl rfl (Nat.le_of_ble_eq_true rfl) dL_law_933 (fun v w' q => ?_)
  obtain ⟨hv, σ', hw, ok⟩ := q
  subst hv hw
  refine l_swap ?_
  refine l_aload_n (pc := 936) dL_law_936 1 rfl ?_
  refine l_arg (pc := 937) (k := 1) hi hLn (by omega) e1 3 0 rfl rfl dL_law_937 dL_law_938 dL_law_939 dL_law_940 dL_law_941 ?_
  refine l_callV (pc := 942) (As := [.int (zI z1)]) (rest := [_]) k_L_120_X6 (hM σ' ok _) ⟨rfl, rfl, Nat.le_of_ble_eq_true rfl, Nat.le_of_ble_eq_true rfl⟩ ⟨Nat.le_refl _, Nat.le_refl _⟩ 0 5 rfl rfl am_obj rfl rfl (Nat.le_of_ble_eq_true rfl) dL_law_942 (fun v w' q => ?_)
  obtain ⟨hv, τ', hw, hI', hR'⟩ := q
  subst hv hw
  refine l_swap ?_
  exact l_same (pc := 945) 1044 dL_law_945 rfl (kk σ' τ' hI' hR')
theorem law_c25 (hi : 0 ≤ i ∧ i + 5 ≤ Ln) (hLn : Ln ≤ 2560) (hI : Inv σ) (hR : Rel σ τ) (kk : ∀ σ' τ', Inv σ' → Rel σ' τ' → GL D cy l b Ln xs (CW cy ad σ' ++ MW cy bd τ') 600000 7302250 1044 [(3, .int (zI i)), (2, .ref (bd 0)), (1, .ref (ad 0)), (0, .ref b)] []) : GL D cy l b Ln xs (CW cy ad σ ++ MW cy bd τ) 600000 7302250 950 [(3, .int (zI i)), (2, .ref (bd 0)), (1, .ref (ad 0)), (0, .ref b)] [] := by
  obtain ⟨OK, hC, hM⟩ := p_bestArrayVoltage (D := D) (cy := cy) (l := l) (ad := ad) (bd := bd) hI hR 
  refine l_aload_n (pc := 950) dL_law_950 2 rfl ?_
  refine l_callV (pc := 951) (As := []) (rest := []) k_L_121_X5 (hC _) ⟨rfl, rfl, Nat.le_of_ble_eq_true rfl, Nat.le_of_ble_eq_true rfl⟩ ⟨Nat.le_refl _, Nat.le_refl _⟩ 0 4 rfl rfl at_arr rfl rfl (Nat.le_of_ble_eq_true rfl) dL_law_951 (fun v w' q => ?_)
  obtain ⟨hv, σ', hw, ok⟩ := q
  subst hv hw
  refine l_swap ?_
  refine l_aload_n (pc := 954) dL_law_954 1 rfl ?_
  refine l_callV (pc := 955) (As := []) (rest := [_]) k_L_124_X6 (hM σ' ok _) ⟨rfl, rfl, Nat.le_of_ble_eq_true rfl, Nat.le_of_ble_eq_true rfl⟩ ⟨Nat.le_refl _, Nat.le_refl _⟩ 0 5 rfl rfl am_obj rfl rfl (Nat.le_of_ble_eq_true rfl) dL_law_955 (fun v w' q => ?_)
  obtain ⟨hv, τ', hw, hI', hR'⟩ := q
  subst hv hw
  refine l_swap ?_
  exact l_same (pc := 958) 1044 dL_law_958 rfl (kk σ' τ' hI' hR')
theorem law_c26 (hi : 0 ≤ i ∧ i + 5 ≤ Ln) (hLn : Ln ≤ 2560) (hI : Inv σ) (hR : Rel σ τ) (kk : ∀ σ' τ', Inv σ' → Rel σ' τ' → GL D cy l b Ln xs (CW cy ad σ' ++ MW cy bd τ') 600000 7302250 1044 [(3, .int (zI i)), (2, .ref (bd 0)), (1, .ref (ad 0)), (0, .ref b)] []) : GL D cy l b Ln xs (CW cy ad σ ++ MW cy bd τ) 600000 7302250 963 [(3, .int (zI i)), (2, .ref (bd 0)), (1, .ref (ad 0)), (0, .ref b)] [] := by
  obtain ⟨OK, hC, hM⟩ := p_totalBestPower (D := D) (cy := cy) (l := l) (ad := ad) (bd := bd) hI hR 
  refine l_aload_n (pc := 963) dL_law_963 2 rfl ?_
  refine l_callV (pc := 964) (As := []) (rest := []) k_L_125_X5 (hC _) ⟨rfl, rfl, Nat.le_of_ble_eq_true rfl, Nat.le_of_ble_eq_true rfl⟩ ⟨Nat.le_refl _, Nat.le_refl _⟩ 0 4 rfl rfl at_arr rfl rfl (Nat.le_of_ble_eq_true rfl) dL_law_964 (fun v w' q => ?_)
  obtain ⟨hv, σ', hw, ok⟩ := q
  subst hv hw
  refine l_swap ?_
  refine l_aload_n (pc := 967) dL_law_967 1 rfl ?_
  refine l_callV (pc := 968) (As := []) (rest := [_]) k_L_129_X6 (hM σ' ok _) ⟨rfl, rfl, Nat.le_of_ble_eq_true rfl, Nat.le_of_ble_eq_true rfl⟩ ⟨Nat.le_refl _, Nat.le_refl _⟩ 0 5 rfl rfl am_obj rfl rfl (Nat.le_of_ble_eq_true rfl) dL_law_968 (fun v w' q => ?_)
  obtain ⟨hv, τ', hw, hI', hR'⟩ := q
  subst hv hw
  refine l_swap ?_
  exact l_sameJ (pc := 971) 1044 dL_law_971 dL_law_972 rfl (kk σ' τ' hI' hR')
theorem law_c27 (hi : 0 ≤ i ∧ i + 5 ≤ Ln) (hLn : Ln ≤ 2560) (hI : Inv σ) (hR : Rel σ τ) (kk : ∀ σ' τ', Inv σ' → Rel σ' τ' → GL D cy l b Ln xs (CW cy ad σ' ++ MW cy bd τ') 600000 7302250 1044 [(3, .int (zI i)), (2, .ref (bd 0)), (1, .ref (ad 0)), (0, .ref b)] []) : GL D cy l b Ln xs (CW cy ad σ ++ MW cy bd τ) 600000 7302250 977 [(3, .int (zI i)), (2, .ref (bd 0)), (1, .ref (ad 0)), (0, .ref b)] [] := by
  obtain ⟨OK, hC, hM⟩ := p_mismatchLoss (D := D) (cy := cy) (l := l) (ad := ad) (bd := bd) hI hR 
  refine l_aload_n (pc := 977) dL_law_977 2 rfl ?_
  refine l_callV (pc := 978) (As := []) (rest := []) k_L_130_X5 (hC _) ⟨rfl, rfl, Nat.le_of_ble_eq_true rfl, Nat.le_of_ble_eq_true rfl⟩ ⟨Nat.le_refl _, Nat.le_refl _⟩ 0 4 rfl rfl at_arr rfl rfl (Nat.le_of_ble_eq_true rfl) dL_law_978 (fun v w' q => ?_)
  obtain ⟨hv, σ', hw, ok⟩ := q
  subst hv hw
  refine l_swap ?_
  refine l_aload_n (pc := 981) dL_law_981 1 rfl ?_
  refine l_callV (pc := 982) (As := []) (rest := [_]) k_L_133_X6 (hM σ' ok _) ⟨rfl, rfl, Nat.le_of_ble_eq_true rfl, Nat.le_of_ble_eq_true rfl⟩ ⟨Nat.le_refl _, Nat.le_refl _⟩ 0 5 rfl rfl am_obj rfl rfl (Nat.le_of_ble_eq_true rfl) dL_law_982 (fun v w' q => ?_)
  obtain ⟨hv, τ', hw, hI', hR'⟩ := q
  subst hv hw
  refine l_swap ?_
  exact l_sameJ (pc := 985) 1044 dL_law_985 dL_law_986 rfl (kk σ' τ' hI' hR')
theorem law_c28 (hi : 0 ≤ i ∧ i + 5 ≤ Ln) (hLn : Ln ≤ 2560) (hI : Inv σ) (hR : Rel σ τ) (kk : ∀ σ' τ', Inv σ' → Rel σ' τ' → GL D cy l b Ln xs (CW cy ad σ' ++ MW cy bd τ') 600000 7302250 1044 [(3, .int (zI i)), (2, .ref (bd 0)), (1, .ref (ad 0)), (0, .ref b)] []) : GL D cy l b Ln xs (CW cy ad σ ++ MW cy bd τ) 600000 7302250 991 [(3, .int (zI i)), (2, .ref (bd 0)), (1, .ref (ad 0)), (0, .ref b)] [] := by
  obtain ⟨OK, hC, hM⟩ := p_bestSwapGain (D := D) (cy := cy) (l := l) (ad := ad) (bd := bd) hI hR 
  refine l_aload_n (pc := 991) dL_law_991 2 rfl ?_
  refine l_callV (pc := 992) (As := []) (rest := []) k_L_134_X5 (hC _) ⟨rfl, rfl, Nat.le_of_ble_eq_true rfl, Nat.le_of_ble_eq_true rfl⟩ ⟨Nat.le_refl _, Nat.le_refl _⟩ 0 4 rfl rfl at_arr rfl rfl (Nat.le_of_ble_eq_true rfl) dL_law_992 (fun v w' q => ?_)
  obtain ⟨hv, σ', hw, ok⟩ := q
  subst hv hw
  refine l_swap ?_
  refine l_aload_n (pc := 995) dL_law_995 1 rfl ?_
  refine l_callV (pc := 996) (As := []) (rest := [_]) k_L_137_X6 (hM σ' ok _) ⟨rfl, rfl, Nat.le_of_ble_eq_true rfl, Nat.le_of_ble_eq_true rfl⟩ ⟨Nat.le_refl _, Nat.le_refl _⟩ 0 5 rfl rfl am_obj rfl rfl (Nat.le_of_ble_eq_true rfl) dL_law_996 (fun v w' q => ?_)
  obtain ⟨hv, τ', hw, hI', hR'⟩ := q
  subst hv hw
  refine l_swap ?_
  exact l_sameJ (pc := 999) 1044 dL_law_999 dL_law_1000 rfl (kk σ' τ' hI' hR')
theorem law_c29 (hi : 0 ≤ i ∧ i + 5 ≤ Ln) (hLn : Ln ≤ 2560) (hI : Inv σ) (hR : Rel σ τ) (kk : ∀ σ' τ', Inv σ' → Rel σ' τ' → GL D cy l b Ln xs (CW cy ad σ' ++ MW cy bd τ') 600000 7302250 1044 [(3, .int (zI i)), (2, .ref (bd 0)), (1, .ref (ad 0)), (0, .ref b)] []) : GL D cy l b Ln xs (CW cy ad σ ++ MW cy bd τ) 600000 7302250 1005 [(3, .int (zI i)), (2, .ref (bd 0)), (1, .ref (ad 0)), (0, .ref b)] [] := by
  obtain ⟨OK, hC, hM⟩ := p_bestSwapLower (D := D) (cy := cy) (l := l) (ad := ad) (bd := bd) hI hR 
  refine l_aload_n (pc := 1005) dL_law_1005 2 rfl ?_
  refine l_callV (pc := 1006) (As := []) (rest := []) k_L_138_X5 (hC _) ⟨rfl, rfl, Nat.le_of_ble_eq_true rfl, Nat.le_of_ble_eq_true rfl⟩ ⟨Nat.le_refl _, Nat.le_refl _⟩ 0 4 rfl rfl at_arr rfl rfl (Nat.le_of_ble_eq_true rfl) dL_law_1006 (fun v w' q => ?_)
  obtain ⟨hv, σ', hw, ok⟩ := q
  subst hv hw
  refine l_swap ?_
  refine l_aload_n (pc := 1009) dL_law_1009 1 rfl ?_
  refine l_callV (pc := 1010) (As := []) (rest := [_]) k_L_141_X6 (hM σ' ok _) ⟨rfl, rfl, Nat.le_of_ble_eq_true rfl, Nat.le_of_ble_eq_true rfl⟩ ⟨Nat.le_refl _, Nat.le_refl _⟩ 0 5 rfl rfl am_obj rfl rfl (Nat.le_of_ble_eq_true rfl) dL_law_1010 (fun v w' q => ?_)
  obtain ⟨hv, τ', hw, hI', hR'⟩ := q
  subst hv hw
  refine l_swap ?_
  exact l_same (pc := 1013) 1044 dL_law_1013 rfl (kk σ' τ' hI' hR')
theorem law_c30 (hi : 0 ≤ i ∧ i + 5 ≤ Ln) (hLn : Ln ≤ 2560) (hI : Inv σ) (hR : Rel σ τ) (kk : ∀ σ' τ', Inv σ' → Rel σ' τ' → GL D cy l b Ln xs (CW cy ad σ' ++ MW cy bd τ') 600000 7302250 1044 [(3, .int (zI i)), (2, .ref (bd 0)), (1, .ref (ad 0)), (0, .ref b)] []) : GL D cy l b Ln xs (CW cy ad σ ++ MW cy bd τ) 600000 7302250 1018 [(3, .int (zI i)), (2, .ref (bd 0)), (1, .ref (ad 0)), (0, .ref b)] [] := by
  obtain ⟨OK, hC, hM⟩ := p_bestSwapHigher (D := D) (cy := cy) (l := l) (ad := ad) (bd := bd) hI hR 
  refine l_aload_n (pc := 1018) dL_law_1018 2 rfl ?_
  refine l_callV (pc := 1019) (As := []) (rest := []) k_L_142_X5 (hC _) ⟨rfl, rfl, Nat.le_of_ble_eq_true rfl, Nat.le_of_ble_eq_true rfl⟩ ⟨Nat.le_refl _, Nat.le_refl _⟩ 0 4 rfl rfl at_arr rfl rfl (Nat.le_of_ble_eq_true rfl) dL_law_1019 (fun v w' q => ?_)
  obtain ⟨hv, σ', hw, ok⟩ := q
  subst hv hw
  refine l_swap ?_
  refine l_aload_n (pc := 1022) dL_law_1022 1 rfl ?_
  refine l_callV (pc := 1023) (As := []) (rest := [_]) k_L_145_X6 (hM σ' ok _) ⟨rfl, rfl, Nat.le_of_ble_eq_true rfl, Nat.le_of_ble_eq_true rfl⟩ ⟨Nat.le_refl _, Nat.le_refl _⟩ 0 5 rfl rfl am_obj rfl rfl (Nat.le_of_ble_eq_true rfl) dL_law_1023 (fun v w' q => ?_)
  obtain ⟨hv, τ', hw, hI', hR'⟩ := q
  subst hv hw
  refine l_swap ?_
  exact l_same (pc := 1026) 1044 dL_law_1026 rfl (kk σ' τ' hI' hR')
theorem law_c31 (hi : 0 ≤ i ∧ i + 5 ≤ Ln) (hLn : Ln ≤ 2560) (hI : Inv σ) (hR : Rel σ τ) (kk : ∀ σ' τ', Inv σ' → Rel σ' τ' → GL D cy l b Ln xs (CW cy ad σ' ++ MW cy bd τ') 600000 7302250 1044 [(3, .int (zI i)), (2, .ref (bd 0)), (1, .ref (ad 0)), (0, .ref b)] []) : GL D cy l b Ln xs (CW cy ad σ ++ MW cy bd τ) 600000 7302250 1031 [(3, .int (zI i)), (2, .ref (bd 0)), (1, .ref (ad 0)), (0, .ref b)] [] := by
  obtain ⟨OK, hC, hM⟩ := p_regroup (D := D) (cy := cy) (l := l) (ad := ad) (bd := bd) hI hR 
  refine l_aload_n (pc := 1031) dL_law_1031 2 rfl ?_
  refine l_callV (pc := 1032) (As := []) (rest := []) k_L_146_X5 (hC _) ⟨rfl, rfl, Nat.le_of_ble_eq_true rfl, Nat.le_of_ble_eq_true rfl⟩ ⟨Nat.le_refl _, Nat.le_refl _⟩ 0 4 rfl rfl at_arr rfl rfl (Nat.le_of_ble_eq_true rfl) dL_law_1032 (fun v w' q => ?_)
  obtain ⟨hv, σ', hw, ok⟩ := q
  subst hv hw
  refine l_swap ?_
  refine l_aload_n (pc := 1035) dL_law_1035 1 rfl ?_
  refine l_callV (pc := 1036) (As := []) (rest := [_]) k_L_149_X6 (hM σ' ok _) ⟨rfl, rfl, Nat.le_of_ble_eq_true rfl, Nat.le_of_ble_eq_true rfl⟩ ⟨Nat.le_refl _, Nat.le_refl _⟩ 0 5 rfl rfl am_obj rfl rfl (Nat.le_of_ble_eq_true rfl) dL_law_1036 (fun v w' q => ?_)
  obtain ⟨hv, τ', hw, hI', hR'⟩ := q
  subst hv hw
  refine l_swap ?_
  exact l_same (pc := 1039) 1044 dL_law_1039 rfl (kk σ' τ' hI' hR')
end LAW
