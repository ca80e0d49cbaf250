/-! ===== the law's cases ===== -/
def zSl (J : va_W → Nat → zLV → List Value → Prop) (sb L : Nat) (xs : Nat → Int32) : Prop := ∀ (w : va_W) (pc pc' : Nat) (lv : zLV) (st : List Value) (j : Nat), zd b_Lw_law pc .iaload 1 pc' → j < L → J w pc' lv (.int (xs j) :: st) → J w pc lv (.int (nI j) :: .ref sb :: st)
set_option maxRecDepth 100000 in
theorem lc_fellow {g : Nat → Nat → Nat} {J : va_W → Nat → zLV → List Value → Prop} {a mb : Nat → Nat} {sb L i : Nat} {xs : Nat → Int32} {w : va_W} (hJ : zOK g J b_Lw_law 4 "SixFellowsLaw" room_1) (hsl : zSl J sb L xs) (hi : i + 6 ≤ L) (hw : zLw g a mb w) (k : ∀ w', zLw g a mb w' → J w' 1324 [(0, .ref sb), (1, .ref (a 0)), (2, .ref (mb 0)), (3, .int (nI i))] []) : J w 216 [(0, .ref sb), (1, .ref (a 0)), (2, .ref (mb 0)), (3, .int (nI i))] [] := by
  obtain ⟨r, X, X', M, M', fx, fm, rfl, hX0, hM0, hmx, hmm, hw2⟩ := s_fellow (k := xs (i + 1)) (m := xs (i + 2)) w hw
  refine z_aload_n hJ d_Lw_law_216 1 rfl ?_
  refine z_aload_n hJ d_Lw_law_217 0 rfl ?_
  refine z_iload_n hJ d_Lw_law_218 3 rfl ?_
  refine z_iconst (v := 1) hJ d_Lw_law_219 (by decide) ?_
  refine z_iadd hJ d_Lw_law_220 ?_
  refine z_c (y := nI (i + 1)) (nI_add i 1) ?_
  refine hsl _ _ _ _ _ (i + 1) d_Lw_law_221 (by omega) ?_
  refine z_aload_n hJ d_Lw_law_222 0 rfl ?_
  refine z_iload_n hJ d_Lw_law_223 3 rfl ?_
  refine z_iconst (v := 2) hJ d_Lw_law_224 (by decide) ?_
  refine z_iadd hJ d_Lw_law_225 ?_
  refine z_c (y := nI (i + 2)) (nI_add i 2) ?_
  refine hsl _ _ _ _ _ (i + 2) d_Lw_law_226 (by omega) ?_
  refine z_callVi hJ hmx k_Lw_13 zL.beg d_Lw_law_227 hc_Sx 0 hX0 rfl rfl (Nat.le_of_ble_eq_true rfl) ⟨by decide, by decide⟩ ?_
  refine z_aload_n hJ d_Lw_law_230 2 rfl ?_
  refine z_aload_n hJ d_Lw_law_231 0 rfl ?_
  refine z_iload_n hJ d_Lw_law_232 3 rfl ?_
  refine z_iconst (v := 1) hJ d_Lw_law_233 (by decide) ?_
  refine z_iadd hJ d_Lw_law_234 ?_
  refine z_c (y := nI (i + 1)) (nI_add i 1) ?_
  refine hsl _ _ _ _ _ (i + 1) d_Lw_law_235 (by omega) ?_
  refine z_aload_n hJ d_Lw_law_236 0 rfl ?_
  refine z_iload_n hJ d_Lw_law_237 3 rfl ?_
  refine z_iconst (v := 2) hJ d_Lw_law_238 (by decide) ?_
  refine z_iadd hJ d_Lw_law_239 ?_
  refine z_c (y := nI (i + 2)) (nI_add i 2) ?_
  refine hsl _ _ _ _ _ (i + 2) d_Lw_law_240 (by omega) ?_
  refine z_callVi hJ hmm k_Lw_17 zL.fin d_Lw_law_241 hc_Mo 41 hM0 rfl rfl (Nat.le_of_ble_eq_true rfl) ⟨by decide, by decide⟩ ?_
  exact z_icmp_eq hJ d_Lw_law_244 (fun _ => k _ hw2) (fun c => absurd rfl c)
set_option maxRecDepth 100000 in
theorem lc_of {g : Nat → Nat → Nat} {J : va_W → Nat → zLV → List Value → Prop} {a mb : Nat → Nat} {sb L i : Nat} {xs : Nat → Int32} {w : va_W} (hJ : zOK g J b_Lw_law 4 "SixFellowsLaw" room_1) (hsl : zSl J sb L xs) (hi : i + 6 ≤ L) (hw : zLw g a mb w) (k : ∀ w', zLw g a mb w' → J w' 1324 [(0, .ref sb), (1, .ref (a 0)), (2, .ref (mb 0)), (3, .int (nI i))] []) : J w 249 [(0, .ref sb), (1, .ref (a 0)), (2, .ref (mb 0)), (3, .int (nI i))] [] := by
  obtain ⟨r, X, X', M, M', fx, fm, rfl, hX0, hM0, hmx, hmm, hw2⟩ := s_of (i := xs (i + 1)) (w := xs (i + 2)) w hw
  refine z_aload_n hJ d_Lw_law_249 1 rfl ?_
  refine z_aload_n hJ d_Lw_law_250 0 rfl ?_
  refine z_iload_n hJ d_Lw_law_251 3 rfl ?_
  refine z_iconst (v := 1) hJ d_Lw_law_252 (by decide) ?_
  refine z_iadd hJ d_Lw_law_253 ?_
  refine z_c (y := nI (i + 1)) (nI_add i 1) ?_
  refine hsl _ _ _ _ _ (i + 1) d_Lw_law_254 (by omega) ?_
  refine z_aload_n hJ d_Lw_law_255 0 rfl ?_
  refine z_iload_n hJ d_Lw_law_256 3 rfl ?_
  refine z_iconst (v := 2) hJ d_Lw_law_257 (by decide) ?_
  refine z_iadd hJ d_Lw_law_258 ?_
  refine z_c (y := nI (i + 2)) (nI_add i 2) ?_
  refine hsl _ _ _ _ _ (i + 2) d_Lw_law_259 (by omega) ?_
  refine z_callVi hJ hmx k_Lw_18 zL.beg d_Lw_law_260 hc_Sx 0 hX0 rfl rfl (Nat.le_of_ble_eq_true rfl) ⟨by decide, by decide⟩ ?_
  refine z_aload_n hJ d_Lw_law_263 2 rfl ?_
  refine z_aload_n hJ d_Lw_law_264 0 rfl ?_
  refine z_iload_n hJ d_Lw_law_265 3 rfl ?_
  refine z_iconst (v := 1) hJ d_Lw_law_266 (by decide) ?_
  refine z_iadd hJ d_Lw_law_267 ?_
  refine z_c (y := nI (i + 1)) (nI_add i 1) ?_
  refine hsl _ _ _ _ _ (i + 1) d_Lw_law_268 (by omega) ?_
  refine z_aload_n hJ d_Lw_law_269 0 rfl ?_
  refine z_iload_n hJ d_Lw_law_270 3 rfl ?_
  refine z_iconst (v := 2) hJ d_Lw_law_271 (by decide) ?_
  refine z_iadd hJ d_Lw_law_272 ?_
  refine z_c (y := nI (i + 2)) (nI_add i 2) ?_
  refine hsl _ _ _ _ _ (i + 2) d_Lw_law_273 (by omega) ?_
  refine z_callVi hJ hmm k_Lw_21 zL.fin d_Lw_law_274 hc_Mo 41 hM0 rfl rfl (Nat.le_of_ble_eq_true rfl) ⟨by decide, by decide⟩ ?_
  exact z_icmp_eq hJ d_Lw_law_277 (fun _ => k _ hw2) (fun c => absurd rfl c)
set_option maxRecDepth 100000 in
theorem lc_set {g : Nat → Nat → Nat} {J : va_W → Nat → zLV → List Value → Prop} {a mb : Nat → Nat} {sb L i : Nat} {xs : Nat → Int32} {w : va_W} (hJ : zOK g J b_Lw_law 4 "SixFellowsLaw" room_1) (hsl : zSl J sb L xs) (hi : i + 6 ≤ L) (hw : zLw g a mb w) (k : ∀ w', zLw g a mb w' → J w' 1324 [(0, .ref sb), (1, .ref (a 0)), (2, .ref (mb 0)), (3, .int (nI i))] []) : J w 282 [(0, .ref sb), (1, .ref (a 0)), (2, .ref (mb 0)), (3, .int (nI i))] [] := by
  obtain ⟨r, X, X', M, M', fx, fm, rfl, hX0, hM0, hmx, hmm, hw2⟩ := s_set (i := xs (i + 1)) (w := xs (i + 2)) (v := xs (i + 3)) w hw
  refine z_aload_n hJ d_Lw_law_282 1 rfl ?_
  refine z_aload_n hJ d_Lw_law_283 0 rfl ?_
  refine z_iload_n hJ d_Lw_law_284 3 rfl ?_
  refine z_iconst (v := 1) hJ d_Lw_law_285 (by decide) ?_
  refine z_iadd hJ d_Lw_law_286 ?_
  refine z_c (y := nI (i + 1)) (nI_add i 1) ?_
  refine hsl _ _ _ _ _ (i + 1) d_Lw_law_287 (by omega) ?_
  refine z_aload_n hJ d_Lw_law_288 0 rfl ?_
  refine z_iload_n hJ d_Lw_law_289 3 rfl ?_
  refine z_iconst (v := 2) hJ d_Lw_law_290 (by decide) ?_
  refine z_iadd hJ d_Lw_law_291 ?_
  refine z_c (y := nI (i + 2)) (nI_add i 2) ?_
  refine hsl _ _ _ _ _ (i + 2) d_Lw_law_292 (by omega) ?_
  refine z_aload_n hJ d_Lw_law_293 0 rfl ?_
  refine z_iload_n hJ d_Lw_law_294 3 rfl ?_
  refine z_iconst (v := 3) hJ d_Lw_law_295 (by decide) ?_
  refine z_iadd hJ d_Lw_law_296 ?_
  refine z_c (y := nI (i + 3)) (nI_add i 3) ?_
  refine hsl _ _ _ _ _ (i + 3) d_Lw_law_297 (by omega) ?_
  refine z_callVi hJ hmx k_Lw_22 zL.beg d_Lw_law_298 hc_Sx 0 hX0 rfl rfl (Nat.le_of_ble_eq_true rfl) ⟨by decide, by decide⟩ ?_
  refine z_aload_n hJ d_Lw_law_301 2 rfl ?_
  refine z_aload_n hJ d_Lw_law_302 0 rfl ?_
  refine z_iload_n hJ d_Lw_law_303 3 rfl ?_
  refine z_iconst (v := 1) hJ d_Lw_law_304 (by decide) ?_
  refine z_iadd hJ d_Lw_law_305 ?_
  refine z_c (y := nI (i + 1)) (nI_add i 1) ?_
  refine hsl _ _ _ _ _ (i + 1) d_Lw_law_306 (by omega) ?_
  refine z_aload_n hJ d_Lw_law_307 0 rfl ?_
  refine z_iload_n hJ d_Lw_law_308 3 rfl ?_
  refine z_iconst (v := 2) hJ d_Lw_law_309 (by decide) ?_
  refine z_iadd hJ d_Lw_law_310 ?_
  refine z_c (y := nI (i + 2)) (nI_add i 2) ?_
  refine hsl _ _ _ _ _ (i + 2) d_Lw_law_311 (by omega) ?_
  refine z_aload_n hJ d_Lw_law_312 0 rfl ?_
  refine z_iload_n hJ d_Lw_law_313 3 rfl ?_
  refine z_iconst (v := 3) hJ d_Lw_law_314 (by decide) ?_
  refine z_iadd hJ d_Lw_law_315 ?_
  refine z_c (y := nI (i + 3)) (nI_add i 3) ?_
  refine hsl _ _ _ _ _ (i + 3) d_Lw_law_316 (by omega) ?_
  refine z_callVi hJ hmm k_Lw_26 zL.fin d_Lw_law_317 hc_Mo 41 hM0 rfl rfl (Nat.le_of_ble_eq_true rfl) ⟨by decide, by decide⟩ ?_
  exact z_icmp_eq hJ d_Lw_law_320 (fun _ => k _ hw2) (fun c => absurd rfl c)
set_option maxRecDepth 100000 in
theorem lc_turn {g : Nat → Nat → Nat} {J : va_W → Nat → zLV → List Value → Prop} {a mb : Nat → Nat} {sb L i : Nat} {xs : Nat → Int32} {w : va_W} (hJ : zOK g J b_Lw_law 4 "SixFellowsLaw" room_1) (hsl : zSl J sb L xs) (hi : i + 6 ≤ L) (hw : zLw g a mb w) (k : ∀ w', zLw g a mb w' → J w' 1324 [(0, .ref sb), (1, .ref (a 0)), (2, .ref (mb 0)), (3, .int (nI i))] []) : J w 325 [(0, .ref sb), (1, .ref (a 0)), (2, .ref (mb 0)), (3, .int (nI i))] [] := by
  obtain ⟨r, X, X', M, M', fx, fm, rfl, hX0, hM0, hmx, hmm, hw2⟩ := s_turn (i := xs (i + 1)) (k := xs (i + 2)) w hw
  refine z_aload_n hJ d_Lw_law_325 1 rfl ?_
  refine z_aload_n hJ d_Lw_law_326 0 rfl ?_
  refine z_iload_n hJ d_Lw_law_327 3 rfl ?_
  refine z_iconst (v := 1) hJ d_Lw_law_328 (by decide) ?_
  refine z_iadd hJ d_Lw_law_329 ?_
  refine z_c (y := nI (i + 1)) (nI_add i 1) ?_
  refine hsl _ _ _ _ _ (i + 1) d_Lw_law_330 (by omega) ?_
  refine z_aload_n hJ d_Lw_law_331 0 rfl ?_
  refine z_iload_n hJ d_Lw_law_332 3 rfl ?_
  refine z_iconst (v := 2) hJ d_Lw_law_333 (by decide) ?_
  refine z_iadd hJ d_Lw_law_334 ?_
  refine z_c (y := nI (i + 2)) (nI_add i 2) ?_
  refine hsl _ _ _ _ _ (i + 2) d_Lw_law_335 (by omega) ?_
  refine z_callVi hJ hmx k_Lw_27 zL.beg d_Lw_law_336 hc_Sx 0 hX0 rfl rfl (Nat.le_of_ble_eq_true rfl) ⟨by decide, by decide⟩ ?_
  refine z_aload_n hJ d_Lw_law_339 2 rfl ?_
  refine z_aload_n hJ d_Lw_law_340 0 rfl ?_
  refine z_iload_n hJ d_Lw_law_341 3 rfl ?_
  refine z_iconst (v := 1) hJ d_Lw_law_342 (by decide) ?_
  refine z_iadd hJ d_Lw_law_343 ?_
  refine z_c (y := nI (i + 1)) (nI_add i 1) ?_
  refine hsl _ _ _ _ _ (i + 1) d_Lw_law_344 (by omega) ?_
  refine z_aload_n hJ d_Lw_law_345 0 rfl ?_
  refine z_iload_n hJ d_Lw_law_346 3 rfl ?_
  refine z_iconst (v := 2) hJ d_Lw_law_347 (by decide) ?_
  refine z_iadd hJ d_Lw_law_348 ?_
  refine z_c (y := nI (i + 2)) (nI_add i 2) ?_
  refine hsl _ _ _ _ _ (i + 2) d_Lw_law_349 (by omega) ?_
  refine z_callVi hJ hmm k_Lw_30 zL.fin d_Lw_law_350 hc_Mo 41 hM0 rfl rfl (Nat.le_of_ble_eq_true rfl) ⟨by decide, by decide⟩ ?_
  exact z_icmp_eq hJ d_Lw_law_353 (fun _ => k _ hw2) (fun c => absurd rfl c)
set_option maxRecDepth 100000 in
theorem lc_as {g : Nat → Nat → Nat} {J : va_W → Nat → zLV → List Value → Prop} {a mb : Nat → Nat} {sb L i : Nat} {xs : Nat → Int32} {w : va_W} (hJ : zOK g J b_Lw_law 4 "SixFellowsLaw" room_1) (hsl : zSl J sb L xs) (hi : i + 6 ≤ L) (hw : zLw g a mb w) (k : ∀ w', zLw g a mb w' → J w' 1324 [(0, .ref sb), (1, .ref (a 0)), (2, .ref (mb 0)), (3, .int (nI i))] []) : J w 358 [(0, .ref sb), (1, .ref (a 0)), (2, .ref (mb 0)), (3, .int (nI i))] [] := by
  obtain ⟨r, X, X', M, M', fx, fm, rfl, hX0, hM0, hmx, hmm, hw2⟩ := s_as (i := xs (i + 1)) (k := xs (i + 2)) w hw
  refine z_aload_n hJ d_Lw_law_358 1 rfl ?_
  refine z_aload_n hJ d_Lw_law_359 0 rfl ?_
  refine z_iload_n hJ d_Lw_law_360 3 rfl ?_
  refine z_iconst (v := 1) hJ d_Lw_law_361 (by decide) ?_
  refine z_iadd hJ d_Lw_law_362 ?_
  refine z_c (y := nI (i + 1)) (nI_add i 1) ?_
  refine hsl _ _ _ _ _ (i + 1) d_Lw_law_363 (by omega) ?_
  refine z_aload_n hJ d_Lw_law_364 0 rfl ?_
  refine z_iload_n hJ d_Lw_law_365 3 rfl ?_
  refine z_iconst (v := 2) hJ d_Lw_law_366 (by decide) ?_
  refine z_iadd hJ d_Lw_law_367 ?_
  refine z_c (y := nI (i + 2)) (nI_add i 2) ?_
  refine hsl _ _ _ _ _ (i + 2) d_Lw_law_368 (by omega) ?_
  refine z_callVi hJ hmx k_Lw_31 zL.beg d_Lw_law_369 hc_Sx 0 hX0 rfl rfl (Nat.le_of_ble_eq_true rfl) ⟨by decide, by decide⟩ ?_
  refine z_aload_n hJ d_Lw_law_372 2 rfl ?_
  refine z_aload_n hJ d_Lw_law_373 0 rfl ?_
  refine z_iload_n hJ d_Lw_law_374 3 rfl ?_
  refine z_iconst (v := 1) hJ d_Lw_law_375 (by decide) ?_
  refine z_iadd hJ d_Lw_law_376 ?_
  refine z_c (y := nI (i + 1)) (nI_add i 1) ?_
  refine hsl _ _ _ _ _ (i + 1) d_Lw_law_377 (by omega) ?_
  refine z_aload_n hJ d_Lw_law_378 0 rfl ?_
  refine z_iload_n hJ d_Lw_law_379 3 rfl ?_
  refine z_iconst (v := 2) hJ d_Lw_law_380 (by decide) ?_
  refine z_iadd hJ d_Lw_law_381 ?_
  refine z_c (y := nI (i + 2)) (nI_add i 2) ?_
  refine hsl _ _ _ _ _ (i + 2) d_Lw_law_382 (by omega) ?_
  refine z_callVi hJ hmm k_Lw_34 zL.fin d_Lw_law_383 hc_Mo 41 hM0 rfl rfl (Nat.le_of_ble_eq_true rfl) ⟨by decide, by decide⟩ ?_
  exact z_icmp_eq hJ d_Lw_law_386 (fun _ => k _ hw2) (fun c => absurd rfl c)
set_option maxRecDepth 100000 in
theorem lc_does {g : Nat → Nat → Nat} {J : va_W → Nat → zLV → List Value → Prop} {a mb : Nat → Nat} {sb L i : Nat} {xs : Nat → Int32} {w : va_W} (hJ : zOK g J b_Lw_law 4 "SixFellowsLaw" room_1) (hsl : zSl J sb L xs) (hi : i + 6 ≤ L) (hw : zLw g a mb w) (k : ∀ w', zLw g a mb w' → J w' 1324 [(0, .ref sb), (1, .ref (a 0)), (2, .ref (mb 0)), (3, .int (nI i))] []) : J w 391 [(0, .ref sb), (1, .ref (a 0)), (2, .ref (mb 0)), (3, .int (nI i))] [] := by
  obtain ⟨r, X, X', M, M', fx, fm, rfl, hX0, hM0, hmx, hmm, hw2⟩ := s_does (i := xs (i + 1)) (k := xs (i + 2)) w hw
  refine z_aload_n hJ d_Lw_law_391 1 rfl ?_
  refine z_aload_n hJ d_Lw_law_392 0 rfl ?_
  refine z_iload_n hJ d_Lw_law_393 3 rfl ?_
  refine z_iconst (v := 1) hJ d_Lw_law_394 (by decide) ?_
  refine z_iadd hJ d_Lw_law_395 ?_
  refine z_c (y := nI (i + 1)) (nI_add i 1) ?_
  refine hsl _ _ _ _ _ (i + 1) d_Lw_law_396 (by omega) ?_
  refine z_aload_n hJ d_Lw_law_397 0 rfl ?_
  refine z_iload_n hJ d_Lw_law_398 3 rfl ?_
  refine z_iconst (v := 2) hJ d_Lw_law_399 (by decide) ?_
  refine z_iadd hJ d_Lw_law_400 ?_
  refine z_c (y := nI (i + 2)) (nI_add i 2) ?_
  refine hsl _ _ _ _ _ (i + 2) d_Lw_law_401 (by omega) ?_
  refine z_callVi hJ hmx k_Lw_35 zL.beg d_Lw_law_402 hc_Sx 0 hX0 rfl rfl (Nat.le_of_ble_eq_true rfl) ⟨by decide, by decide⟩ ?_
  refine z_aload_n hJ d_Lw_law_405 2 rfl ?_
  refine z_aload_n hJ d_Lw_law_406 0 rfl ?_
  refine z_iload_n hJ d_Lw_law_407 3 rfl ?_
  refine z_iconst (v := 1) hJ d_Lw_law_408 (by decide) ?_
  refine z_iadd hJ d_Lw_law_409 ?_
  refine z_c (y := nI (i + 1)) (nI_add i 1) ?_
  refine hsl _ _ _ _ _ (i + 1) d_Lw_law_410 (by omega) ?_
  refine z_aload_n hJ d_Lw_law_411 0 rfl ?_
  refine z_iload_n hJ d_Lw_law_412 3 rfl ?_
  refine z_iconst (v := 2) hJ d_Lw_law_413 (by decide) ?_
  refine z_iadd hJ d_Lw_law_414 ?_
  refine z_c (y := nI (i + 2)) (nI_add i 2) ?_
  refine hsl _ _ _ _ _ (i + 2) d_Lw_law_415 (by omega) ?_
  refine z_callVi hJ hmm k_Lw_38 zL.fin d_Lw_law_416 hc_Mo 41 hM0 rfl rfl (Nat.le_of_ble_eq_true rfl) ⟨by decide, by decide⟩ ?_
  exact z_icmp_eq hJ d_Lw_law_419 (fun _ => k _ hw2) (fun c => absurd rfl c)
set_option maxRecDepth 100000 in
theorem lc_task {g : Nat → Nat → Nat} {J : va_W → Nat → zLV → List Value → Prop} {a mb : Nat → Nat} {sb L i : Nat} {xs : Nat → Int32} {w : va_W} (hJ : zOK g J b_Lw_law 4 "SixFellowsLaw" room_1) (hsl : zSl J sb L xs) (hi : i + 6 ≤ L) (hw : zLw g a mb w) (k : ∀ w', zLw g a mb w' → J w' 1324 [(0, .ref sb), (1, .ref (a 0)), (2, .ref (mb 0)), (3, .int (nI i))] []) : J w 424 [(0, .ref sb), (1, .ref (a 0)), (2, .ref (mb 0)), (3, .int (nI i))] [] := by
  obtain ⟨r, X, X', M, M', fx, fm, rfl, hX0, hM0, hmx, hmm, hw2⟩ := s_task (so := xs (i + 1)) (m := xs (i + 2)) (ne := xs (i + 3)) (pa := xs (i + 4)) w hw
  refine z_aload_n hJ d_Lw_law_424 1 rfl ?_
  refine z_aload_n hJ d_Lw_law_425 0 rfl ?_
  refine z_iload_n hJ d_Lw_law_426 3 rfl ?_
  refine z_iconst (v := 1) hJ d_Lw_law_427 (by decide) ?_
  refine z_iadd hJ d_Lw_law_428 ?_
  refine z_c (y := nI (i + 1)) (nI_add i 1) ?_
  refine hsl _ _ _ _ _ (i + 1) d_Lw_law_429 (by omega) ?_
  refine z_aload_n hJ d_Lw_law_430 0 rfl ?_
  refine z_iload_n hJ d_Lw_law_431 3 rfl ?_
  refine z_iconst (v := 2) hJ d_Lw_law_432 (by decide) ?_
  refine z_iadd hJ d_Lw_law_433 ?_
  refine z_c (y := nI (i + 2)) (nI_add i 2) ?_
  refine hsl _ _ _ _ _ (i + 2) d_Lw_law_434 (by omega) ?_
  refine z_aload_n hJ d_Lw_law_435 0 rfl ?_
  refine z_iload_n hJ d_Lw_law_436 3 rfl ?_
  refine z_iconst (v := 3) hJ d_Lw_law_437 (by decide) ?_
  refine z_iadd hJ d_Lw_law_438 ?_
  refine z_c (y := nI (i + 3)) (nI_add i 3) ?_
  refine hsl _ _ _ _ _ (i + 3) d_Lw_law_439 (by omega) ?_
  refine z_aload_n hJ d_Lw_law_440 0 rfl ?_
  refine z_iload_n hJ d_Lw_law_441 3 rfl ?_
  refine z_iconst (v := 4) hJ d_Lw_law_442 (by decide) ?_
  refine z_iadd hJ d_Lw_law_443 ?_
  refine z_c (y := nI (i + 4)) (nI_add i 4) ?_
  refine hsl _ _ _ _ _ (i + 4) d_Lw_law_444 (by omega) ?_
  refine z_callVi hJ hmx k_Lw_39 zL.beg d_Lw_law_445 hc_Sx 0 hX0 rfl rfl (Nat.le_of_ble_eq_true rfl) ⟨by decide, by decide⟩ ?_
  refine z_aload_n hJ d_Lw_law_448 2 rfl ?_
  refine z_aload_n hJ d_Lw_law_449 0 rfl ?_
  refine z_iload_n hJ d_Lw_law_450 3 rfl ?_
  refine z_iconst (v := 1) hJ d_Lw_law_451 (by decide) ?_
  refine z_iadd hJ d_Lw_law_452 ?_
  refine z_c (y := nI (i + 1)) (nI_add i 1) ?_
  refine hsl _ _ _ _ _ (i + 1) d_Lw_law_453 (by omega) ?_
  refine z_aload_n hJ d_Lw_law_454 0 rfl ?_
  refine z_iload_n hJ d_Lw_law_455 3 rfl ?_
  refine z_iconst (v := 2) hJ d_Lw_law_456 (by decide) ?_
  refine z_iadd hJ d_Lw_law_457 ?_
  refine z_c (y := nI (i + 2)) (nI_add i 2) ?_
  refine hsl _ _ _ _ _ (i + 2) d_Lw_law_458 (by omega) ?_
  refine z_aload_n hJ d_Lw_law_459 0 rfl ?_
  refine z_iload_n hJ d_Lw_law_460 3 rfl ?_
  refine z_iconst (v := 3) hJ d_Lw_law_461 (by decide) ?_
  refine z_iadd hJ d_Lw_law_462 ?_
  refine z_c (y := nI (i + 3)) (nI_add i 3) ?_
  refine hsl _ _ _ _ _ (i + 3) d_Lw_law_463 (by omega) ?_
  refine z_aload_n hJ d_Lw_law_464 0 rfl ?_
  refine z_iload_n hJ d_Lw_law_465 3 rfl ?_
  refine z_iconst (v := 4) hJ d_Lw_law_466 (by decide) ?_
  refine z_iadd hJ d_Lw_law_467 ?_
  refine z_c (y := nI (i + 4)) (nI_add i 4) ?_
  refine hsl _ _ _ _ _ (i + 4) d_Lw_law_468 (by omega) ?_
  refine z_callVi hJ hmm k_Lw_43 zL.fin d_Lw_law_469 hc_Mo 41 hM0 rfl rfl (Nat.le_of_ble_eq_true rfl) ⟨by decide, by decide⟩ ?_
  exact z_icmp_eq hJ d_Lw_law_472 (fun _ => k _ hw2) (fun c => absurd rfl c)
set_option maxRecDepth 100000 in
theorem lc_taskOf {g : Nat → Nat → Nat} {J : va_W → Nat → zLV → List Value → Prop} {a mb : Nat → Nat} {sb L i : Nat} {xs : Nat → Int32} {w : va_W} (hJ : zOK g J b_Lw_law 4 "SixFellowsLaw" room_1) (hsl : zSl J sb L xs) (hi : i + 6 ≤ L) (hw : zLw g a mb w) (k : ∀ w', zLw g a mb w' → J w' 1324 [(0, .ref sb), (1, .ref (a 0)), (2, .ref (mb 0)), (3, .int (nI i))] []) : J w 477 [(0, .ref sb), (1, .ref (a 0)), (2, .ref (mb 0)), (3, .int (nI i))] [] := by
  obtain ⟨r, X, X', M, M', fx, fm, rfl, hX0, hM0, hmx, hmm, hw2⟩ := s_taskOf (i := xs (i + 1)) (w := xs (i + 2)) w hw
  refine z_aload_n hJ d_Lw_law_477 1 rfl ?_
  refine z_aload_n hJ d_Lw_law_478 0 rfl ?_
  refine z_iload_n hJ d_Lw_law_479 3 rfl ?_
  refine z_iconst (v := 1) hJ d_Lw_law_480 (by decide) ?_
  refine z_iadd hJ d_Lw_law_481 ?_
  refine z_c (y := nI (i + 1)) (nI_add i 1) ?_
  refine hsl _ _ _ _ _ (i + 1) d_Lw_law_482 (by omega) ?_
  refine z_aload_n hJ d_Lw_law_483 0 rfl ?_
  refine z_iload_n hJ d_Lw_law_484 3 rfl ?_
  refine z_iconst (v := 2) hJ d_Lw_law_485 (by decide) ?_
  refine z_iadd hJ d_Lw_law_486 ?_
  refine z_c (y := nI (i + 2)) (nI_add i 2) ?_
  refine hsl _ _ _ _ _ (i + 2) d_Lw_law_487 (by omega) ?_
  refine z_callVi hJ hmx k_Lw_44 zL.beg d_Lw_law_488 hc_Sx 0 hX0 rfl rfl (Nat.le_of_ble_eq_true rfl) ⟨by decide, by decide⟩ ?_
  refine z_aload_n hJ d_Lw_law_491 2 rfl ?_
  refine z_aload_n hJ d_Lw_law_492 0 rfl ?_
  refine z_iload_n hJ d_Lw_law_493 3 rfl ?_
  refine z_iconst (v := 1) hJ d_Lw_law_494 (by decide) ?_
  refine z_iadd hJ d_Lw_law_495 ?_
  refine z_c (y := nI (i + 1)) (nI_add i 1) ?_
  refine hsl _ _ _ _ _ (i + 1) d_Lw_law_496 (by omega) ?_
  refine z_aload_n hJ d_Lw_law_497 0 rfl ?_
  refine z_iload_n hJ d_Lw_law_498 3 rfl ?_
  refine z_iconst (v := 2) hJ d_Lw_law_499 (by decide) ?_
  refine z_iadd hJ d_Lw_law_500 ?_
  refine z_c (y := nI (i + 2)) (nI_add i 2) ?_
  refine hsl _ _ _ _ _ (i + 2) d_Lw_law_501 (by omega) ?_
  refine z_callVi hJ hmm k_Lw_47 zL.fin d_Lw_law_502 hc_Mo 41 hM0 rfl rfl (Nat.le_of_ble_eq_true rfl) ⟨by decide, by decide⟩ ?_
  exact z_icmp_eq hJ d_Lw_law_505 (fun _ => k _ hw2) (fun c => absurd rfl c)
set_option maxRecDepth 100000 in
theorem lc_helps {g : Nat → Nat → Nat} {J : va_W → Nat → zLV → List Value → Prop} {a mb : Nat → Nat} {sb L i : Nat} {xs : Nat → Int32} {w : va_W} (hJ : zOK g J b_Lw_law 4 "SixFellowsLaw" room_1) (hsl : zSl J sb L xs) (hi : i + 6 ≤ L) (hw : zLw g a mb w) (k : ∀ w', zLw g a mb w' → J w' 1324 [(0, .ref sb), (1, .ref (a 0)), (2, .ref (mb 0)), (3, .int (nI i))] []) : J w 510 [(0, .ref sb), (1, .ref (a 0)), (2, .ref (mb 0)), (3, .int (nI i))] [] := by
  obtain ⟨r, X, X', M, M', fx, fm, rfl, hX0, hM0, hmx, hmm, hw2⟩ := s_helps (i := xs (i + 1)) (u := xs (i + 2)) w hw
  refine z_aload_n hJ d_Lw_law_510 1 rfl ?_
  refine z_aload_n hJ d_Lw_law_511 0 rfl ?_
  refine z_iload_n hJ d_Lw_law_512 3 rfl ?_
  refine z_iconst (v := 1) hJ d_Lw_law_513 (by decide) ?_
  refine z_iadd hJ d_Lw_law_514 ?_
  refine z_c (y := nI (i + 1)) (nI_add i 1) ?_
  refine hsl _ _ _ _ _ (i + 1) d_Lw_law_515 (by omega) ?_
  refine z_aload_n hJ d_Lw_law_516 0 rfl ?_
  refine z_iload_n hJ d_Lw_law_517 3 rfl ?_
  refine z_iconst (v := 2) hJ d_Lw_law_518 (by decide) ?_
  refine z_iadd hJ d_Lw_law_519 ?_
  refine z_c (y := nI (i + 2)) (nI_add i 2) ?_
  refine hsl _ _ _ _ _ (i + 2) d_Lw_law_520 (by omega) ?_
  refine z_callVi hJ hmx k_Lw_48 zL.beg d_Lw_law_521 hc_Sx 0 hX0 rfl rfl (Nat.le_of_ble_eq_true rfl) ⟨by decide, by decide⟩ ?_
  refine z_aload_n hJ d_Lw_law_524 2 rfl ?_
  refine z_aload_n hJ d_Lw_law_525 0 rfl ?_
  refine z_iload_n hJ d_Lw_law_526 3 rfl ?_
  refine z_iconst (v := 1) hJ d_Lw_law_527 (by decide) ?_
  refine z_iadd hJ d_Lw_law_528 ?_
  refine z_c (y := nI (i + 1)) (nI_add i 1) ?_
  refine hsl _ _ _ _ _ (i + 1) d_Lw_law_529 (by omega) ?_
  refine z_aload_n hJ d_Lw_law_530 0 rfl ?_
  refine z_iload_n hJ d_Lw_law_531 3 rfl ?_
  refine z_iconst (v := 2) hJ d_Lw_law_532 (by decide) ?_
  refine z_iadd hJ d_Lw_law_533 ?_
  refine z_c (y := nI (i + 2)) (nI_add i 2) ?_
  refine hsl _ _ _ _ _ (i + 2) d_Lw_law_534 (by omega) ?_
  refine z_callVi hJ hmm k_Lw_51 zL.fin d_Lw_law_535 hc_Mo 41 hM0 rfl rfl (Nat.le_of_ble_eq_true rfl) ⟨by decide, by decide⟩ ?_
  exact z_icmp_eq hJ d_Lw_law_538 (fun _ => k _ hw2) (fun c => absurd rfl c)
set_option maxRecDepth 100000 in
theorem lc_done {g : Nat → Nat → Nat} {J : va_W → Nat → zLV → List Value → Prop} {a mb : Nat → Nat} {sb L i : Nat} {xs : Nat → Int32} {w : va_W} (hJ : zOK g J b_Lw_law 4 "SixFellowsLaw" room_1) (hsl : zSl J sb L xs) (hi : i + 6 ≤ L) (hw : zLw g a mb w) (k : ∀ w', zLw g a mb w' → J w' 1324 [(0, .ref sb), (1, .ref (a 0)), (2, .ref (mb 0)), (3, .int (nI i))] []) : J w 543 [(0, .ref sb), (1, .ref (a 0)), (2, .ref (mb 0)), (3, .int (nI i))] [] := by
  obtain ⟨r, X, X', M, M', fx, fm, rfl, hX0, hM0, hmx, hmm, hw2⟩ := s_done (i := xs (i + 1)) w hw
  refine z_aload_n hJ d_Lw_law_543 1 rfl ?_
  refine z_aload_n hJ d_Lw_law_544 0 rfl ?_
  refine z_iload_n hJ d_Lw_law_545 3 rfl ?_
  refine z_iconst (v := 1) hJ d_Lw_law_546 (by decide) ?_
  refine z_iadd hJ d_Lw_law_547 ?_
  refine z_c (y := nI (i + 1)) (nI_add i 1) ?_
  refine hsl _ _ _ _ _ (i + 1) d_Lw_law_548 (by omega) ?_
  refine z_callVi hJ hmx k_Lw_52 zL.beg d_Lw_law_549 hc_Sx 0 hX0 rfl rfl (Nat.le_of_ble_eq_true rfl) ⟨by decide, by decide⟩ ?_
  refine z_aload_n hJ d_Lw_law_552 2 rfl ?_
  refine z_aload_n hJ d_Lw_law_553 0 rfl ?_
  refine z_iload_n hJ d_Lw_law_554 3 rfl ?_
  refine z_iconst (v := 1) hJ d_Lw_law_555 (by decide) ?_
  refine z_iadd hJ d_Lw_law_556 ?_
  refine z_c (y := nI (i + 1)) (nI_add i 1) ?_
  refine hsl _ _ _ _ _ (i + 1) d_Lw_law_557 (by omega) ?_
  refine z_callVi hJ hmm k_Lw_56 zL.fin d_Lw_law_558 hc_Mo 41 hM0 rfl rfl (Nat.le_of_ble_eq_true rfl) ⟨by decide, by decide⟩ ?_
  exact z_icmp_eq hJ d_Lw_law_561 (fun _ => k _ hw2) (fun c => absurd rfl c)
set_option maxRecDepth 100000 in
theorem lc_hours {g : Nat → Nat → Nat} {J : va_W → Nat → zLV → List Value → Prop} {a mb : Nat → Nat} {sb L i : Nat} {xs : Nat → Int32} {w : va_W} (hJ : zOK g J b_Lw_law 4 "SixFellowsLaw" room_1) (hsl : zSl J sb L xs) (hi : i + 6 ≤ L) (hw : zLw g a mb w) (k : ∀ w', zLw g a mb w' → J w' 1324 [(0, .ref sb), (1, .ref (a 0)), (2, .ref (mb 0)), (3, .int (nI i))] []) : J w 566 [(0, .ref sb), (1, .ref (a 0)), (2, .ref (mb 0)), (3, .int (nI i))] [] := by
  obtain ⟨r, X, X', M, M', fx, fm, rfl, hX0, hM0, hmx, hmm, hw2⟩ := s_hours (n := xs (i + 1)) w hw
  refine z_aload_n hJ d_Lw_law_566 1 rfl ?_
  refine z_aload_n hJ d_Lw_law_567 0 rfl ?_
  refine z_iload_n hJ d_Lw_law_568 3 rfl ?_
  refine z_iconst (v := 1) hJ d_Lw_law_569 (by decide) ?_
  refine z_iadd hJ d_Lw_law_570 ?_
  refine z_c (y := nI (i + 1)) (nI_add i 1) ?_
  refine hsl _ _ _ _ _ (i + 1) d_Lw_law_571 (by omega) ?_
  refine z_callVi hJ hmx k_Lw_57 zL.beg d_Lw_law_572 hc_Sx 0 hX0 rfl rfl (Nat.le_of_ble_eq_true rfl) ⟨by decide, by decide⟩ ?_
  refine z_aload_n hJ d_Lw_law_575 2 rfl ?_
  refine z_aload_n hJ d_Lw_law_576 0 rfl ?_
  refine z_iload_n hJ d_Lw_law_577 3 rfl ?_
  refine z_iconst (v := 1) hJ d_Lw_law_578 (by decide) ?_
  refine z_iadd hJ d_Lw_law_579 ?_
  refine z_c (y := nI (i + 1)) (nI_add i 1) ?_
  refine hsl _ _ _ _ _ (i + 1) d_Lw_law_580 (by omega) ?_
  refine z_callVi hJ hmm k_Lw_60 zL.fin d_Lw_law_581 hc_Mo 41 hM0 rfl rfl (Nat.le_of_ble_eq_true rfl) ⟨by decide, by decide⟩ ?_
  exact z_icmp_eq hJ d_Lw_law_584 (fun _ => k _ hw2) (fun c => absurd rfl c)
set_option maxRecDepth 100000 in
theorem lc_now {g : Nat → Nat → Nat} {J : va_W → Nat → zLV → List Value → Prop} {a mb : Nat → Nat} {sb L i : Nat} {xs : Nat → Int32} {w : va_W} (hJ : zOK g J b_Lw_law 4 "SixFellowsLaw" room_1) (hsl : zSl J sb L xs) (hi : i + 6 ≤ L) (hw : zLw g a mb w) (k : ∀ w', zLw g a mb w' → J w' 1324 [(0, .ref sb), (1, .ref (a 0)), (2, .ref (mb 0)), (3, .int (nI i))] []) : J w 589 [(0, .ref sb), (1, .ref (a 0)), (2, .ref (mb 0)), (3, .int (nI i))] [] := by
  obtain ⟨r, X, X', M, M', fx, fm, rfl, hX0, hM0, hmx, hmm, hw2⟩ := s_now (w := xs (i + 1)) w hw
  refine z_aload_n hJ d_Lw_law_589 1 rfl ?_
  refine z_aload_n hJ d_Lw_law_590 0 rfl ?_
  refine z_iload_n hJ d_Lw_law_591 3 rfl ?_
  refine z_iconst (v := 1) hJ d_Lw_law_592 (by decide) ?_
  refine z_iadd hJ d_Lw_law_593 ?_
  refine z_c (y := nI (i + 1)) (nI_add i 1) ?_
  refine hsl _ _ _ _ _ (i + 1) d_Lw_law_594 (by omega) ?_
  refine z_callVi hJ hmx k_Lw_61 zL.beg d_Lw_law_595 hc_Sx 0 hX0 rfl rfl (Nat.le_of_ble_eq_true rfl) ⟨by decide, by decide⟩ ?_
  refine z_aload_n hJ d_Lw_law_598 2 rfl ?_
  refine z_aload_n hJ d_Lw_law_599 0 rfl ?_
  refine z_iload_n hJ d_Lw_law_600 3 rfl ?_
  refine z_iconst (v := 1) hJ d_Lw_law_601 (by decide) ?_
  refine z_iadd hJ d_Lw_law_602 ?_
  refine z_c (y := nI (i + 1)) (nI_add i 1) ?_
  refine hsl _ _ _ _ _ (i + 1) d_Lw_law_603 (by omega) ?_
  refine z_callVi hJ hmm k_Lw_64 zL.fin d_Lw_law_604 hc_Mo 41 hM0 rfl rfl (Nat.le_of_ble_eq_true rfl) ⟨by decide, by decide⟩ ?_
  exact z_icmp_eq hJ d_Lw_law_607 (fun _ => k _ hw2) (fun c => absurd rfl c)
set_option maxRecDepth 100000 in
theorem lc_on {g : Nat → Nat → Nat} {J : va_W → Nat → zLV → List Value → Prop} {a mb : Nat → Nat} {sb L i : Nat} {xs : Nat → Int32} {w : va_W} (hJ : zOK g J b_Lw_law 4 "SixFellowsLaw" room_1) (hsl : zSl J sb L xs) (hi : i + 6 ≤ L) (hw : zLw g a mb w) (k : ∀ w', zLw g a mb w' → J w' 1324 [(0, .ref sb), (1, .ref (a 0)), (2, .ref (mb 0)), (3, .int (nI i))] []) : J w 612 [(0, .ref sb), (1, .ref (a 0)), (2, .ref (mb 0)), (3, .int (nI i))] [] := by
  obtain ⟨r, X, X', M, M', fx, fm, rfl, hX0, hM0, hmx, hmm, hw2⟩ := s_on (n := xs (i + 1)) w hw
  refine z_aload_n hJ d_Lw_law_612 1 rfl ?_
  refine z_aload_n hJ d_Lw_law_613 0 rfl ?_
  refine z_iload_n hJ d_Lw_law_614 3 rfl ?_
  refine z_iconst (v := 1) hJ d_Lw_law_615 (by decide) ?_
  refine z_iadd hJ d_Lw_law_616 ?_
  refine z_c (y := nI (i + 1)) (nI_add i 1) ?_
  refine hsl _ _ _ _ _ (i + 1) d_Lw_law_617 (by omega) ?_
  refine z_callVi hJ hmx k_Lw_65 zL.beg d_Lw_law_618 hc_Sx 0 hX0 rfl rfl (Nat.le_of_ble_eq_true rfl) ⟨by decide, by decide⟩ ?_
  refine z_aload_n hJ d_Lw_law_621 2 rfl ?_
  refine z_aload_n hJ d_Lw_law_622 0 rfl ?_
  refine z_iload_n hJ d_Lw_law_623 3 rfl ?_
  refine z_iconst (v := 1) hJ d_Lw_law_624 (by decide) ?_
  refine z_iadd hJ d_Lw_law_625 ?_
  refine z_c (y := nI (i + 1)) (nI_add i 1) ?_
  refine hsl _ _ _ _ _ (i + 1) d_Lw_law_626 (by omega) ?_
  refine z_callVi hJ hmm k_Lw_68 zL.fin d_Lw_law_627 hc_Mo 41 hM0 rfl rfl (Nat.le_of_ble_eq_true rfl) ⟨by decide, by decide⟩ ?_
  exact z_icmp_eq hJ d_Lw_law_630 (fun _ => k _ hw2) (fun c => absurd rfl c)
set_option maxRecDepth 100000 in
theorem lc_when {g : Nat → Nat → Nat} {J : va_W → Nat → zLV → List Value → Prop} {a mb : Nat → Nat} {sb L i : Nat} {xs : Nat → Int32} {w : va_W} (hJ : zOK g J b_Lw_law 4 "SixFellowsLaw" room_1) (hsl : zSl J sb L xs) (hi : i + 6 ≤ L) (hw : zLw g a mb w) (k : ∀ w', zLw g a mb w' → J w' 1324 [(0, .ref sb), (1, .ref (a 0)), (2, .ref (mb 0)), (3, .int (nI i))] []) : J w 635 [(0, .ref sb), (1, .ref (a 0)), (2, .ref (mb 0)), (3, .int (nI i))] [] := by
  obtain ⟨r, X, X', M, M', fx, fm, rfl, hX0, hM0, hmx, hmm, hw2⟩ := s_when (i := xs (i + 1)) w hw
  refine z_aload_n hJ d_Lw_law_635 1 rfl ?_
  refine z_aload_n hJ d_Lw_law_636 0 rfl ?_
  refine z_iload_n hJ d_Lw_law_637 3 rfl ?_
  refine z_iconst (v := 1) hJ d_Lw_law_638 (by decide) ?_
  refine z_iadd hJ d_Lw_law_639 ?_
  refine z_c (y := nI (i + 1)) (nI_add i 1) ?_
  refine hsl _ _ _ _ _ (i + 1) d_Lw_law_640 (by omega) ?_
  refine z_callVi hJ hmx k_Lw_69 zL.beg d_Lw_law_641 hc_Sx 0 hX0 rfl rfl (Nat.le_of_ble_eq_true rfl) ⟨by decide, by decide⟩ ?_
  refine z_aload_n hJ d_Lw_law_644 2 rfl ?_
  refine z_aload_n hJ d_Lw_law_645 0 rfl ?_
  refine z_iload_n hJ d_Lw_law_646 3 rfl ?_
  refine z_iconst (v := 1) hJ d_Lw_law_647 (by decide) ?_
  refine z_iadd hJ d_Lw_law_648 ?_
  refine z_c (y := nI (i + 1)) (nI_add i 1) ?_
  refine hsl _ _ _ _ _ (i + 1) d_Lw_law_649 (by omega) ?_
  refine z_callVi hJ hmm k_Lw_72 zL.fin d_Lw_law_650 hc_Mo 41 hM0 rfl rfl (Nat.le_of_ble_eq_true rfl) ⟨by decide, by decide⟩ ?_
  exact z_icmp_eq hJ d_Lw_law_653 (fun _ => k _ hw2) (fun c => absurd rfl c)
set_option maxRecDepth 100000 in
theorem lc_best {g : Nat → Nat → Nat} {J : va_W → Nat → zLV → List Value → Prop} {a mb : Nat → Nat} {sb L i : Nat} {xs : Nat → Int32} {w : va_W} (hJ : zOK g J b_Lw_law 4 "SixFellowsLaw" room_1) (hsl : zSl J sb L xs) (hi : i + 6 ≤ L) (hw : zLw g a mb w) (k : ∀ w', zLw g a mb w' → J w' 1324 [(0, .ref sb), (1, .ref (a 0)), (2, .ref (mb 0)), (3, .int (nI i))] []) : J w 658 [(0, .ref sb), (1, .ref (a 0)), (2, .ref (mb 0)), (3, .int (nI i))] [] := by
  obtain ⟨r, X, X', M, M', fx, fm, rfl, hX0, hM0, hmx, hmm, hw2⟩ := s_best  w hw
  refine z_aload_n hJ d_Lw_law_658 1 rfl ?_
  refine z_callVi hJ hmx k_Lw_73 zL.beg d_Lw_law_659 hc_Sx 0 hX0 rfl rfl (Nat.le_of_ble_eq_true rfl) ⟨by decide, by decide⟩ ?_
  refine z_aload_n hJ d_Lw_law_662 2 rfl ?_
  refine z_callVi hJ hmm k_Lw_77 zL.fin d_Lw_law_663 hc_Mo 41 hM0 rfl rfl (Nat.le_of_ble_eq_true rfl) ⟨by decide, by decide⟩ ?_
  exact z_icmp_eq hJ d_Lw_law_666 (fun _ => k _ hw2) (fun c => absurd rfl c)
set_option maxRecDepth 100000 in
theorem lc_stand {g : Nat → Nat → Nat} {J : va_W → Nat → zLV → List Value → Prop} {a mb : Nat → Nat} {sb L i : Nat} {xs : Nat → Int32} {w : va_W} (hJ : zOK g J b_Lw_law 4 "SixFellowsLaw" room_1) (hsl : zSl J sb L xs) (hi : i + 6 ≤ L) (hw : zLw g a mb w) (k : ∀ w', zLw g a mb w' → J w' 1324 [(0, .ref sb), (1, .ref (a 0)), (2, .ref (mb 0)), (3, .int (nI i))] []) : J w 671 [(0, .ref sb), (1, .ref (a 0)), (2, .ref (mb 0)), (3, .int (nI i))] [] := by
  obtain ⟨r, X, X', M, M', fx, fm, rfl, hX0, hM0, hmx, hmm, hw2⟩ := s_stand (i := xs (i + 1)) w hw
  refine z_aload_n hJ d_Lw_law_671 1 rfl ?_
  refine z_aload_n hJ d_Lw_law_672 0 rfl ?_
  refine z_iload_n hJ d_Lw_law_673 3 rfl ?_
  refine z_iconst (v := 1) hJ d_Lw_law_674 (by decide) ?_
  refine z_iadd hJ d_Lw_law_675 ?_
  refine z_c (y := nI (i + 1)) (nI_add i 1) ?_
  refine hsl _ _ _ _ _ (i + 1) d_Lw_law_676 (by omega) ?_
  refine z_callVi hJ hmx k_Lw_78 zL.beg d_Lw_law_677 hc_Sx 0 hX0 rfl rfl (Nat.le_of_ble_eq_true rfl) ⟨by decide, by decide⟩ ?_
  refine z_aload_n hJ d_Lw_law_680 2 rfl ?_
  refine z_aload_n hJ d_Lw_law_681 0 rfl ?_
  refine z_iload_n hJ d_Lw_law_682 3 rfl ?_
  refine z_iconst (v := 1) hJ d_Lw_law_683 (by decide) ?_
  refine z_iadd hJ d_Lw_law_684 ?_
  refine z_c (y := nI (i + 1)) (nI_add i 1) ?_
  refine hsl _ _ _ _ _ (i + 1) d_Lw_law_685 (by omega) ?_
  refine z_callVi hJ hmm k_Lw_81 zL.fin d_Lw_law_686 hc_Mo 41 hM0 rfl rfl (Nat.le_of_ble_eq_true rfl) ⟨by decide, by decide⟩ ?_
  exact z_icmp_eq hJ d_Lw_law_689 (fun _ => k _ hw2) (fun c => absurd rfl c)
set_option maxRecDepth 100000 in
theorem lc_kind {g : Nat → Nat → Nat} {J : va_W → Nat → zLV → List Value → Prop} {a mb : Nat → Nat} {sb L i : Nat} {xs : Nat → Int32} {w : va_W} (hJ : zOK g J b_Lw_law 4 "SixFellowsLaw" room_1) (hsl : zSl J sb L xs) (hi : i + 6 ≤ L) (hw : zLw g a mb w) (k : ∀ w', zLw g a mb w' → J w' 1324 [(0, .ref sb), (1, .ref (a 0)), (2, .ref (mb 0)), (3, .int (nI i))] []) : J w 694 [(0, .ref sb), (1, .ref (a 0)), (2, .ref (mb 0)), (3, .int (nI i))] [] := by
  obtain ⟨r, X, X', M, M', fx, fm, rfl, hX0, hM0, hmx, hmm, hw2⟩ := s_kind (i := xs (i + 1)) w hw
  refine z_aload_n hJ d_Lw_law_694 1 rfl ?_
  refine z_aload_n hJ d_Lw_law_695 0 rfl ?_
  refine z_iload_n hJ d_Lw_law_696 3 rfl ?_
  refine z_iconst (v := 1) hJ d_Lw_law_697 (by decide) ?_
  refine z_iadd hJ d_Lw_law_698 ?_
  refine z_c (y := nI (i + 1)) (nI_add i 1) ?_
  refine hsl _ _ _ _ _ (i + 1) d_Lw_law_699 (by omega) ?_
  refine z_callVi hJ hmx k_Lw_82 zL.beg d_Lw_law_700 hc_Sx 0 hX0 rfl rfl (Nat.le_of_ble_eq_true rfl) ⟨by decide, by decide⟩ ?_
  refine z_aload_n hJ d_Lw_law_703 2 rfl ?_
  refine z_aload_n hJ d_Lw_law_704 0 rfl ?_
  refine z_iload_n hJ d_Lw_law_705 3 rfl ?_
  refine z_iconst (v := 1) hJ d_Lw_law_706 (by decide) ?_
  refine z_iadd hJ d_Lw_law_707 ?_
  refine z_c (y := nI (i + 1)) (nI_add i 1) ?_
  refine hsl _ _ _ _ _ (i + 1) d_Lw_law_708 (by omega) ?_
  refine z_callVi hJ hmm k_Lw_85 zL.fin d_Lw_law_709 hc_Mo 41 hM0 rfl rfl (Nat.le_of_ble_eq_true rfl) ⟨by decide, by decide⟩ ?_
  exact z_icmp_eq hJ d_Lw_law_712 (fun _ => k _ hw2) (fun c => absurd rfl c)
set_option maxRecDepth 100000 in
theorem lc_awake {g : Nat → Nat → Nat} {J : va_W → Nat → zLV → List Value → Prop} {a mb : Nat → Nat} {sb L i : Nat} {xs : Nat → Int32} {w : va_W} (hJ : zOK g J b_Lw_law 4 "SixFellowsLaw" room_1) (hsl : zSl J sb L xs) (hi : i + 6 ≤ L) (hw : zLw g a mb w) (k : ∀ w', zLw g a mb w' → J w' 1324 [(0, .ref sb), (1, .ref (a 0)), (2, .ref (mb 0)), (3, .int (nI i))] []) : J w 717 [(0, .ref sb), (1, .ref (a 0)), (2, .ref (mb 0)), (3, .int (nI i))] [] := by
  obtain ⟨r, X, X', M, M', fx, fm, rfl, hX0, hM0, hmx, hmm, hw2⟩ := s_awake  w hw
  refine z_aload_n hJ d_Lw_law_717 1 rfl ?_
  refine z_callVi hJ hmx k_Lw_86 zL.beg d_Lw_law_718 hc_Sx 0 hX0 rfl rfl (Nat.le_of_ble_eq_true rfl) ⟨by decide, by decide⟩ ?_
  refine z_aload_n hJ d_Lw_law_721 2 rfl ?_
  refine z_callVi hJ hmm k_Lw_89 zL.fin d_Lw_law_722 hc_Mo 41 hM0 rfl rfl (Nat.le_of_ble_eq_true rfl) ⟨by decide, by decide⟩ ?_
  exact z_icmp_eq hJ d_Lw_law_725 (fun _ => k _ hw2) (fun c => absurd rfl c)
set_option maxRecDepth 100000 in
theorem lc_most {g : Nat → Nat → Nat} {J : va_W → Nat → zLV → List Value → Prop} {a mb : Nat → Nat} {sb L i : Nat} {xs : Nat → Int32} {w : va_W} (hJ : zOK g J b_Lw_law 4 "SixFellowsLaw" room_1) (hsl : zSl J sb L xs) (hi : i + 6 ≤ L) (hw : zLw g a mb w) (k : ∀ w', zLw g a mb w' → J w' 1324 [(0, .ref sb), (1, .ref (a 0)), (2, .ref (mb 0)), (3, .int (nI i))] []) : J w 730 [(0, .ref sb), (1, .ref (a 0)), (2, .ref (mb 0)), (3, .int (nI i))] [] := by
  obtain ⟨r, X, X', M, M', fx, fm, rfl, hX0, hM0, hmx, hmm, hw2⟩ := s_most  w hw
  refine z_aload_n hJ d_Lw_law_730 1 rfl ?_
  refine z_callVi hJ hmx k_Lw_90 zL.beg d_Lw_law_731 hc_Sx 0 hX0 rfl rfl (Nat.le_of_ble_eq_true rfl) ⟨by decide, by decide⟩ ?_
  refine z_aload_n hJ d_Lw_law_734 2 rfl ?_
  refine z_callVi hJ hmm k_Lw_93 zL.fin d_Lw_law_735 hc_Mo 41 hM0 rfl rfl (Nat.le_of_ble_eq_true rfl) ⟨by decide, by decide⟩ ?_
  exact z_icmp_eq hJ d_Lw_law_738 (fun _ => k _ hw2) (fun c => absurd rfl c)
set_option maxRecDepth 100000 in
theorem lc_fewest {g : Nat → Nat → Nat} {J : va_W → Nat → zLV → List Value → Prop} {a mb : Nat → Nat} {sb L i : Nat} {xs : Nat → Int32} {w : va_W} (hJ : zOK g J b_Lw_law 4 "SixFellowsLaw" room_1) (hsl : zSl J sb L xs) (hi : i + 6 ≤ L) (hw : zLw g a mb w) (k : ∀ w', zLw g a mb w' → J w' 1324 [(0, .ref sb), (1, .ref (a 0)), (2, .ref (mb 0)), (3, .int (nI i))] []) : J w 743 [(0, .ref sb), (1, .ref (a 0)), (2, .ref (mb 0)), (3, .int (nI i))] [] := by
  obtain ⟨r, X, X', M, M', fx, fm, rfl, hX0, hM0, hmx, hmm, hw2⟩ := s_fewest (i := xs (i + 1)) w hw
  refine z_aload_n hJ d_Lw_law_743 1 rfl ?_
  refine z_aload_n hJ d_Lw_law_744 0 rfl ?_
  refine z_iload_n hJ d_Lw_law_745 3 rfl ?_
  refine z_iconst (v := 1) hJ d_Lw_law_746 (by decide) ?_
  refine z_iadd hJ d_Lw_law_747 ?_
  refine z_c (y := nI (i + 1)) (nI_add i 1) ?_
  refine hsl _ _ _ _ _ (i + 1) d_Lw_law_748 (by omega) ?_
  refine z_callVi hJ hmx k_Lw_94 zL.beg d_Lw_law_749 hc_Sx 0 hX0 rfl rfl (Nat.le_of_ble_eq_true rfl) ⟨by decide, by decide⟩ ?_
  refine z_aload_n hJ d_Lw_law_752 2 rfl ?_
  refine z_aload_n hJ d_Lw_law_753 0 rfl ?_
  refine z_iload_n hJ d_Lw_law_754 3 rfl ?_
  refine z_iconst (v := 1) hJ d_Lw_law_755 (by decide) ?_
  refine z_iadd hJ d_Lw_law_756 ?_
  refine z_c (y := nI (i + 1)) (nI_add i 1) ?_
  refine hsl _ _ _ _ _ (i + 1) d_Lw_law_757 (by omega) ?_
  refine z_callVi hJ hmm k_Lw_97 zL.fin d_Lw_law_758 hc_Mo 41 hM0 rfl rfl (Nat.le_of_ble_eq_true rfl) ⟨by decide, by decide⟩ ?_
  exact z_icmp_eq hJ d_Lw_law_761 (fun _ => k _ hw2) (fun c => absurd rfl c)
set_option maxRecDepth 100000 in
theorem lc_who {g : Nat → Nat → Nat} {J : va_W → Nat → zLV → List Value → Prop} {a mb : Nat → Nat} {sb L i : Nat} {xs : Nat → Int32} {w : va_W} (hJ : zOK g J b_Lw_law 4 "SixFellowsLaw" room_1) (hsl : zSl J sb L xs) (hi : i + 6 ≤ L) (hw : zLw g a mb w) (k : ∀ w', zLw g a mb w' → J w' 1324 [(0, .ref sb), (1, .ref (a 0)), (2, .ref (mb 0)), (3, .int (nI i))] []) : J w 766 [(0, .ref sb), (1, .ref (a 0)), (2, .ref (mb 0)), (3, .int (nI i))] [] := by
  obtain ⟨r, X, X', M, M', fx, fm, rfl, hX0, hM0, hmx, hmm, hw2⟩ := s_who (i := xs (i + 1)) w hw
  refine z_aload_n hJ d_Lw_law_766 1 rfl ?_
  refine z_aload_n hJ d_Lw_law_767 0 rfl ?_
  refine z_iload_n hJ d_Lw_law_768 3 rfl ?_
  refine z_iconst (v := 1) hJ d_Lw_law_769 (by decide) ?_
  refine z_iadd hJ d_Lw_law_770 ?_
  refine z_c (y := nI (i + 1)) (nI_add i 1) ?_
  refine hsl _ _ _ _ _ (i + 1) d_Lw_law_771 (by omega) ?_
  refine z_callVi hJ hmx k_Lw_98 zL.beg d_Lw_law_772 hc_Sx 0 hX0 rfl rfl (Nat.le_of_ble_eq_true rfl) ⟨by decide, by decide⟩ ?_
  refine z_aload_n hJ d_Lw_law_775 2 rfl ?_
  refine z_aload_n hJ d_Lw_law_776 0 rfl ?_
  refine z_iload_n hJ d_Lw_law_777 3 rfl ?_
  refine z_iconst (v := 1) hJ d_Lw_law_778 (by decide) ?_
  refine z_iadd hJ d_Lw_law_779 ?_
  refine z_c (y := nI (i + 1)) (nI_add i 1) ?_
  refine hsl _ _ _ _ _ (i + 1) d_Lw_law_780 (by omega) ?_
  refine z_callVi hJ hmm k_Lw_101 zL.fin d_Lw_law_781 hc_Mo 41 hM0 rfl rfl (Nat.le_of_ble_eq_true rfl) ⟨by decide, by decide⟩ ?_
  exact z_icmp_eq hJ d_Lw_law_784 (fun _ => k _ hw2) (fun c => absurd rfl c)
set_option maxRecDepth 100000 in
theorem lc_spoils {g : Nat → Nat → Nat} {J : va_W → Nat → zLV → List Value → Prop} {a mb : Nat → Nat} {sb L i : Nat} {xs : Nat → Int32} {w : va_W} (hJ : zOK g J b_Lw_law 4 "SixFellowsLaw" room_1) (hsl : zSl J sb L xs) (hi : i + 6 ≤ L) (hw : zLw g a mb w) (k : ∀ w', zLw g a mb w' → J w' 1324 [(0, .ref sb), (1, .ref (a 0)), (2, .ref (mb 0)), (3, .int (nI i))] []) : J w 789 [(0, .ref sb), (1, .ref (a 0)), (2, .ref (mb 0)), (3, .int (nI i))] [] := by
  obtain ⟨r, X, X', M, M', fx, fm, rfl, hX0, hM0, hmx, hmm, hw2⟩ := s_spoils  w hw
  refine z_aload_n hJ d_Lw_law_789 1 rfl ?_
  refine z_callVi hJ hmx k_Lw_102 zL.beg d_Lw_law_790 hc_Sx 0 hX0 rfl rfl (Nat.le_of_ble_eq_true rfl) ⟨by decide, by decide⟩ ?_
  refine z_aload_n hJ d_Lw_law_793 2 rfl ?_
  refine z_callVi hJ hmm k_Lw_105 zL.fin d_Lw_law_794 hc_Mo 41 hM0 rfl rfl (Nat.le_of_ble_eq_true rfl) ⟨by decide, by decide⟩ ?_
  exact z_icmp_eq hJ d_Lw_law_797 (fun _ => k _ hw2) (fun c => absurd rfl c)
set_option maxRecDepth 100000 in
theorem lc_learn {g : Nat → Nat → Nat} {J : va_W → Nat → zLV → List Value → Prop} {a mb : Nat → Nat} {sb L i : Nat} {xs : Nat → Int32} {w : va_W} (hJ : zOK g J b_Lw_law 4 "SixFellowsLaw" room_1) (hsl : zSl J sb L xs) (hi : i + 6 ≤ L) (hw : zLw g a mb w) (k : ∀ w', zLw g a mb w' → J w' 1324 [(0, .ref sb), (1, .ref (a 0)), (2, .ref (mb 0)), (3, .int (nI i))] []) : J w 802 [(0, .ref sb), (1, .ref (a 0)), (2, .ref (mb 0)), (3, .int (nI i))] [] := by
  obtain ⟨r, X, X', M, M', fx, fm, rfl, hX0, hM0, hmx, hmm, hw2⟩ := s_learn  w hw
  refine z_aload_n hJ d_Lw_law_802 1 rfl ?_
  refine z_callVi hJ hmx k_Lw_106 zL.beg d_Lw_law_803 hc_Sx 0 hX0 rfl rfl (Nat.le_of_ble_eq_true rfl) ⟨by decide, by decide⟩ ?_
  refine z_aload_n hJ d_Lw_law_806 2 rfl ?_
  refine z_callVi hJ hmm k_Lw_109 zL.fin d_Lw_law_807 hc_Mo 41 hM0 rfl rfl (Nat.le_of_ble_eq_true rfl) ⟨by decide, by decide⟩ ?_
  exact z_icmp_eq hJ d_Lw_law_810 (fun _ => k _ hw2) (fun c => absurd rfl c)
set_option maxRecDepth 100000 in
theorem lc_skill {g : Nat → Nat → Nat} {J : va_W → Nat → zLV → List Value → Prop} {a mb : Nat → Nat} {sb L i : Nat} {xs : Nat → Int32} {w : va_W} (hJ : zOK g J b_Lw_law 4 "SixFellowsLaw" room_1) (hsl : zSl J sb L xs) (hi : i + 6 ≤ L) (hw : zLw g a mb w) (k : ∀ w', zLw g a mb w' → J w' 1324 [(0, .ref sb), (1, .ref (a 0)), (2, .ref (mb 0)), (3, .int (nI i))] []) : J w 815 [(0, .ref sb), (1, .ref (a 0)), (2, .ref (mb 0)), (3, .int (nI i))] [] := by
  obtain ⟨r, X, X', M, M', fx, fm, rfl, hX0, hM0, hmx, hmm, hw2⟩ := s_skill (i := xs (i + 1)) (u := xs (i + 2)) w hw
  refine z_aload_n hJ d_Lw_law_815 1 rfl ?_
  refine z_aload_n hJ d_Lw_law_816 0 rfl ?_
  refine z_iload_n hJ d_Lw_law_817 3 rfl ?_
  refine z_iconst (v := 1) hJ d_Lw_law_818 (by decide) ?_
  refine z_iadd hJ d_Lw_law_819 ?_
  refine z_c (y := nI (i + 1)) (nI_add i 1) ?_
  refine hsl _ _ _ _ _ (i + 1) d_Lw_law_820 (by omega) ?_
  refine z_aload_n hJ d_Lw_law_821 0 rfl ?_
  refine z_iload_n hJ d_Lw_law_822 3 rfl ?_
  refine z_iconst (v := 2) hJ d_Lw_law_823 (by decide) ?_
  refine z_iadd hJ d_Lw_law_824 ?_
  refine z_c (y := nI (i + 2)) (nI_add i 2) ?_
  refine hsl _ _ _ _ _ (i + 2) d_Lw_law_825 (by omega) ?_
  refine z_callVi hJ hmx k_Lw_110 zL.beg d_Lw_law_826 hc_Sx 0 hX0 rfl rfl (Nat.le_of_ble_eq_true rfl) ⟨by decide, by decide⟩ ?_
  refine z_aload_n hJ d_Lw_law_829 2 rfl ?_
  refine z_aload_n hJ d_Lw_law_830 0 rfl ?_
  refine z_iload_n hJ d_Lw_law_831 3 rfl ?_
  refine z_iconst (v := 1) hJ d_Lw_law_832 (by decide) ?_
  refine z_iadd hJ d_Lw_law_833 ?_
  refine z_c (y := nI (i + 1)) (nI_add i 1) ?_
  refine hsl _ _ _ _ _ (i + 1) d_Lw_law_834 (by omega) ?_
  refine z_aload_n hJ d_Lw_law_835 0 rfl ?_
  refine z_iload_n hJ d_Lw_law_836 3 rfl ?_
  refine z_iconst (v := 2) hJ d_Lw_law_837 (by decide) ?_
  refine z_iadd hJ d_Lw_law_838 ?_
  refine z_c (y := nI (i + 2)) (nI_add i 2) ?_
  refine hsl _ _ _ _ _ (i + 2) d_Lw_law_839 (by omega) ?_
  refine z_callVi hJ hmm k_Lw_113 zL.fin d_Lw_law_840 hc_Mo 41 hM0 rfl rfl (Nat.le_of_ble_eq_true rfl) ⟨by decide, by decide⟩ ?_
  exact z_icmp_eq hJ d_Lw_law_843 (fun _ => k _ hw2) (fun c => absurd rfl c)
set_option maxRecDepth 100000 in
theorem lc_missed {g : Nat → Nat → Nat} {J : va_W → Nat → zLV → List Value → Prop} {a mb : Nat → Nat} {sb L i : Nat} {xs : Nat → Int32} {w : va_W} (hJ : zOK g J b_Lw_law 4 "SixFellowsLaw" room_1) (hsl : zSl J sb L xs) (hi : i + 6 ≤ L) (hw : zLw g a mb w) (k : ∀ w', zLw g a mb w' → J w' 1324 [(0, .ref sb), (1, .ref (a 0)), (2, .ref (mb 0)), (3, .int (nI i))] []) : J w 848 [(0, .ref sb), (1, .ref (a 0)), (2, .ref (mb 0)), (3, .int (nI i))] [] := by
  obtain ⟨r, X, X', M, M', fx, fm, rfl, hX0, hM0, hmx, hmm, hw2⟩ := s_missed (i := xs (i + 1)) w hw
  refine z_aload_n hJ d_Lw_law_848 1 rfl ?_
  refine z_aload_n hJ d_Lw_law_849 0 rfl ?_
  refine z_iload_n hJ d_Lw_law_850 3 rfl ?_
  refine z_iconst (v := 1) hJ d_Lw_law_851 (by decide) ?_
  refine z_iadd hJ d_Lw_law_852 ?_
  refine z_c (y := nI (i + 1)) (nI_add i 1) ?_
  refine hsl _ _ _ _ _ (i + 1) d_Lw_law_853 (by omega) ?_
  refine z_callVi hJ hmx k_Lw_114 zL.beg d_Lw_law_854 hc_Sx 0 hX0 rfl rfl (Nat.le_of_ble_eq_true rfl) ⟨by decide, by decide⟩ ?_
  refine z_aload_n hJ d_Lw_law_857 2 rfl ?_
  refine z_aload_n hJ d_Lw_law_858 0 rfl ?_
  refine z_iload_n hJ d_Lw_law_859 3 rfl ?_
  refine z_iconst (v := 1) hJ d_Lw_law_860 (by decide) ?_
  refine z_iadd hJ d_Lw_law_861 ?_
  refine z_c (y := nI (i + 1)) (nI_add i 1) ?_
  refine hsl _ _ _ _ _ (i + 1) d_Lw_law_862 (by omega) ?_
  refine z_callVi hJ hmm k_Lw_117 zL.fin d_Lw_law_863 hc_Mo 41 hM0 rfl rfl (Nat.le_of_ble_eq_true rfl) ⟨by decide, by decide⟩ ?_
  exact z_icmp_eq hJ d_Lw_law_866 (fun _ => k _ hw2) (fun c => absurd rfl c)
set_option maxRecDepth 100000 in
theorem lc_share {g : Nat → Nat → Nat} {J : va_W → Nat → zLV → List Value → Prop} {a mb : Nat → Nat} {sb L i : Nat} {xs : Nat → Int32} {w : va_W} (hJ : zOK g J b_Lw_law 4 "SixFellowsLaw" room_1) (hsl : zSl J sb L xs) (hi : i + 6 ≤ L) (hw : zLw g a mb w) (k : ∀ w', zLw g a mb w' → J w' 1324 [(0, .ref sb), (1, .ref (a 0)), (2, .ref (mb 0)), (3, .int (nI i))] []) : J w 871 [(0, .ref sb), (1, .ref (a 0)), (2, .ref (mb 0)), (3, .int (nI i))] [] := by
  obtain ⟨r, X, X', M, M', fx, fm, rfl, hX0, hM0, hmx, hmm, hw2⟩ := s_share (i := xs (i + 1)) w hw
  refine z_aload_n hJ d_Lw_law_871 1 rfl ?_
  refine z_aload_n hJ d_Lw_law_872 0 rfl ?_
  refine z_iload_n hJ d_Lw_law_873 3 rfl ?_
  refine z_iconst (v := 1) hJ d_Lw_law_874 (by decide) ?_
  refine z_iadd hJ d_Lw_law_875 ?_
  refine z_c (y := nI (i + 1)) (nI_add i 1) ?_
  refine hsl _ _ _ _ _ (i + 1) d_Lw_law_876 (by omega) ?_
  refine z_callVl hJ hmx k_Lw_118 zL.beg d_Lw_law_877 hc_Sx 0 hX0 rfl rfl (Nat.le_of_ble_eq_true rfl) ⟨by decide, by decide⟩ ?_
  refine z_aload_n hJ d_Lw_law_880 2 rfl ?_
  refine z_aload_n hJ d_Lw_law_881 0 rfl ?_
  refine z_iload_n hJ d_Lw_law_882 3 rfl ?_
  refine z_iconst (v := 1) hJ d_Lw_law_883 (by decide) ?_
  refine z_iadd hJ d_Lw_law_884 ?_
  refine z_c (y := nI (i + 1)) (nI_add i 1) ?_
  refine hsl _ _ _ _ _ (i + 1) d_Lw_law_885 (by omega) ?_
  refine z_callVl hJ hmm k_Lw_122 zL.fin d_Lw_law_886 hc_Mo 41 hM0 rfl rfl (Nat.le_of_ble_eq_true rfl) ⟨by decide, by decide⟩ ?_
  refine z_lcmp hJ d_Lw_law_889 ?_
  exact z_if_eq hJ d_Lw_law_890 (fun _ => k _ hw2) (fun c => absurd (q_cmp0.mpr rfl) c)
set_option maxRecDepth 100000 in
theorem lc_first {g : Nat → Nat → Nat} {J : va_W → Nat → zLV → List Value → Prop} {a mb : Nat → Nat} {sb L i : Nat} {xs : Nat → Int32} {w : va_W} (hJ : zOK g J b_Lw_law 4 "SixFellowsLaw" room_1) (hsl : zSl J sb L xs) (hi : i + 6 ≤ L) (hw : zLw g a mb w) (k : ∀ w', zLw g a mb w' → J w' 1324 [(0, .ref sb), (1, .ref (a 0)), (2, .ref (mb 0)), (3, .int (nI i))] []) : J w 895 [(0, .ref sb), (1, .ref (a 0)), (2, .ref (mb 0)), (3, .int (nI i))] [] := by
  obtain ⟨r, X, X', M, M', fx, fm, rfl, hX0, hM0, hmx, hmm, hw2⟩ := s_first  w hw
  refine z_aload_n hJ d_Lw_law_895 1 rfl ?_
  refine z_callVi hJ hmx k_Lw_123 zL.beg d_Lw_law_896 hc_Sx 0 hX0 rfl rfl (Nat.le_of_ble_eq_true rfl) ⟨by decide, by decide⟩ ?_
  refine z_aload_n hJ d_Lw_law_899 2 rfl ?_
  refine z_callVi hJ hmm k_Lw_126 zL.fin d_Lw_law_900 hc_Mo 41 hM0 rfl rfl (Nat.le_of_ble_eq_true rfl) ⟨by decide, by decide⟩ ?_
  exact z_icmp_eq hJ d_Lw_law_903 (fun _ => k _ hw2) (fun c => absurd rfl c)
set_option maxRecDepth 100000 in
theorem lc_sets {g : Nat → Nat → Nat} {J : va_W → Nat → zLV → List Value → Prop} {a mb : Nat → Nat} {sb L i : Nat} {xs : Nat → Int32} {w : va_W} (hJ : zOK g J b_Lw_law 4 "SixFellowsLaw" room_1) (hsl : zSl J sb L xs) (hi : i + 6 ≤ L) (hw : zLw g a mb w) (k : ∀ w', zLw g a mb w' → J w' 1324 [(0, .ref sb), (1, .ref (a 0)), (2, .ref (mb 0)), (3, .int (nI i))] []) : J w 908 [(0, .ref sb), (1, .ref (a 0)), (2, .ref (mb 0)), (3, .int (nI i))] [] := by
  obtain ⟨r, X, X', M, M', fx, fm, rfl, hX0, hM0, hmx, hmm, hw2⟩ := s_sets (v := xs (i + 1)) w hw
  refine z_aload_n hJ d_Lw_law_908 1 rfl ?_
  refine z_aload_n hJ d_Lw_law_909 0 rfl ?_
  refine z_iload_n hJ d_Lw_law_910 3 rfl ?_
  refine z_iconst (v := 1) hJ d_Lw_law_911 (by decide) ?_
  refine z_iadd hJ d_Lw_law_912 ?_
  refine z_c (y := nI (i + 1)) (nI_add i 1) ?_
  refine hsl _ _ _ _ _ (i + 1) d_Lw_law_913 (by omega) ?_
  refine z_callVi hJ hmx k_Lw_127 zL.beg d_Lw_law_914 hc_Sx 0 hX0 rfl rfl (Nat.le_of_ble_eq_true rfl) ⟨by decide, by decide⟩ ?_
  refine z_aload_n hJ d_Lw_law_917 2 rfl ?_
  refine z_aload_n hJ d_Lw_law_918 0 rfl ?_
  refine z_iload_n hJ d_Lw_law_919 3 rfl ?_
  refine z_iconst (v := 1) hJ d_Lw_law_920 (by decide) ?_
  refine z_iadd hJ d_Lw_law_921 ?_
  refine z_c (y := nI (i + 1)) (nI_add i 1) ?_
  refine hsl _ _ _ _ _ (i + 1) d_Lw_law_922 (by omega) ?_
  refine z_callVi hJ hmm k_Lw_130 zL.fin d_Lw_law_923 hc_Mo 41 hM0 rfl rfl (Nat.le_of_ble_eq_true rfl) ⟨by decide, by decide⟩ ?_
  exact z_icmp_eq hJ d_Lw_law_926 (fun _ => k _ hw2) (fun c => absurd rfl c)
set_option maxRecDepth 100000 in
theorem lc_feed {g : Nat → Nat → Nat} {J : va_W → Nat → zLV → List Value → Prop} {a mb : Nat → Nat} {sb L i : Nat} {xs : Nat → Int32} {w : va_W} (hJ : zOK g J b_Lw_law 4 "SixFellowsLaw" room_1) (hsl : zSl J sb L xs) (hi : i + 6 ≤ L) (hw : zLw g a mb w) (k : ∀ w', zLw g a mb w' → J w' 1324 [(0, .ref sb), (1, .ref (a 0)), (2, .ref (mb 0)), (3, .int (nI i))] []) : J w 931 [(0, .ref sb), (1, .ref (a 0)), (2, .ref (mb 0)), (3, .int (nI i))] [] := by
  obtain ⟨r, X, X', M, M', fx, fm, rfl, hX0, hM0, hmx, hmm, hw2⟩ := s_feed (x := xs (i + 1)) (n := xs (i + 2)) w hw
  refine z_aload_n hJ d_Lw_law_931 1 rfl ?_
  refine z_aload_n hJ d_Lw_law_932 0 rfl ?_
  refine z_iload_n hJ d_Lw_law_933 3 rfl ?_
  refine z_iconst (v := 1) hJ d_Lw_law_934 (by decide) ?_
  refine z_iadd hJ d_Lw_law_935 ?_
  refine z_c (y := nI (i + 1)) (nI_add i 1) ?_
  refine hsl _ _ _ _ _ (i + 1) d_Lw_law_936 (by omega) ?_
  refine z_aload_n hJ d_Lw_law_937 0 rfl ?_
  refine z_iload_n hJ d_Lw_law_938 3 rfl ?_
  refine z_iconst (v := 2) hJ d_Lw_law_939 (by decide) ?_
  refine z_iadd hJ d_Lw_law_940 ?_
  refine z_c (y := nI (i + 2)) (nI_add i 2) ?_
  refine hsl _ _ _ _ _ (i + 2) d_Lw_law_941 (by omega) ?_
  refine z_callVi hJ hmx k_Lw_131 zL.beg d_Lw_law_942 hc_Sx 0 hX0 rfl rfl (Nat.le_of_ble_eq_true rfl) ⟨by decide, by decide⟩ ?_
  refine z_aload_n hJ d_Lw_law_945 2 rfl ?_
  refine z_aload_n hJ d_Lw_law_946 0 rfl ?_
  refine z_iload_n hJ d_Lw_law_947 3 rfl ?_
  refine z_iconst (v := 1) hJ d_Lw_law_948 (by decide) ?_
  refine z_iadd hJ d_Lw_law_949 ?_
  refine z_c (y := nI (i + 1)) (nI_add i 1) ?_
  refine hsl _ _ _ _ _ (i + 1) d_Lw_law_950 (by omega) ?_
  refine z_aload_n hJ d_Lw_law_951 0 rfl ?_
  refine z_iload_n hJ d_Lw_law_952 3 rfl ?_
  refine z_iconst (v := 2) hJ d_Lw_law_953 (by decide) ?_
  refine z_iadd hJ d_Lw_law_954 ?_
  refine z_c (y := nI (i + 2)) (nI_add i 2) ?_
  refine hsl _ _ _ _ _ (i + 2) d_Lw_law_955 (by omega) ?_
  refine z_callVi hJ hmm k_Lw_134 zL.fin d_Lw_law_956 hc_Mo 41 hM0 rfl rfl (Nat.le_of_ble_eq_true rfl) ⟨by decide, by decide⟩ ?_
  exact z_icmp_eq hJ d_Lw_law_959 (fun _ => k _ hw2) (fun c => absurd rfl c)
set_option maxRecDepth 100000 in
theorem lc_wipe {g : Nat → Nat → Nat} {J : va_W → Nat → zLV → List Value → Prop} {a mb : Nat → Nat} {sb L i : Nat} {xs : Nat → Int32} {w : va_W} (hJ : zOK g J b_Lw_law 4 "SixFellowsLaw" room_1) (hsl : zSl J sb L xs) (hi : i + 6 ≤ L) (hw : zLw g a mb w) (k : ∀ w', zLw g a mb w' → J w' 1324 [(0, .ref sb), (1, .ref (a 0)), (2, .ref (mb 0)), (3, .int (nI i))] []) : J w 964 [(0, .ref sb), (1, .ref (a 0)), (2, .ref (mb 0)), (3, .int (nI i))] [] := by
  obtain ⟨r, X, X', M, M', fx, fm, rfl, hX0, hM0, hmx, hmm, hw2⟩ := s_wipe  w hw
  refine z_aload_n hJ d_Lw_law_964 1 rfl ?_
  refine z_callVi hJ hmx k_Lw_135 zL.beg d_Lw_law_965 hc_Sx 0 hX0 rfl rfl (Nat.le_of_ble_eq_true rfl) ⟨by decide, by decide⟩ ?_
  refine z_aload_n hJ d_Lw_law_968 2 rfl ?_
  refine z_callVi hJ hmm k_Lw_138 zL.fin d_Lw_law_969 hc_Mo 41 hM0 rfl rfl (Nat.le_of_ble_eq_true rfl) ⟨by decide, by decide⟩ ?_
  exact z_icmp_eq hJ d_Lw_law_972 (fun _ => k _ hw2) (fun c => absurd rfl c)
set_option maxRecDepth 100000 in
theorem lc_road {g : Nat → Nat → Nat} {J : va_W → Nat → zLV → List Value → Prop} {a mb : Nat → Nat} {sb L i : Nat} {xs : Nat → Int32} {w : va_W} (hJ : zOK g J b_Lw_law 4 "SixFellowsLaw" room_1) (hsl : zSl J sb L xs) (hi : i + 6 ≤ L) (hw : zLw g a mb w) (k : ∀ w', zLw g a mb w' → J w' 1324 [(0, .ref sb), (1, .ref (a 0)), (2, .ref (mb 0)), (3, .int (nI i))] []) : J w 977 [(0, .ref sb), (1, .ref (a 0)), (2, .ref (mb 0)), (3, .int (nI i))] [] := by
  obtain ⟨r, X, X', M, M', fx, fm, rfl, hX0, hM0, hmx, hmm, hw2⟩ := s_road  w hw
  refine z_aload_n hJ d_Lw_law_977 1 rfl ?_
  refine z_callVi hJ hmx k_Lw_139 zL.beg d_Lw_law_978 hc_Sx 0 hX0 rfl rfl (Nat.le_of_ble_eq_true rfl) ⟨by decide, by decide⟩ ?_
  refine z_aload_n hJ d_Lw_law_981 2 rfl ?_
  refine z_callVi hJ hmm k_Lw_142 zL.fin d_Lw_law_982 hc_Mo 41 hM0 rfl rfl (Nat.le_of_ble_eq_true rfl) ⟨by decide, by decide⟩ ?_
  exact z_icmp_eq hJ d_Lw_law_985 (fun _ => k _ hw2) (fun c => absurd rfl c)
set_option maxRecDepth 100000 in
theorem lc_sheet {g : Nat → Nat → Nat} {J : va_W → Nat → zLV → List Value → Prop} {a mb : Nat → Nat} {sb L i : Nat} {xs : Nat → Int32} {w : va_W} (hJ : zOK g J b_Lw_law 4 "SixFellowsLaw" room_1) (hsl : zSl J sb L xs) (hi : i + 6 ≤ L) (hw : zLw g a mb w) (k : ∀ w', zLw g a mb w' → J w' 1324 [(0, .ref sb), (1, .ref (a 0)), (2, .ref (mb 0)), (3, .int (nI i))] []) : J w 990 [(0, .ref sb), (1, .ref (a 0)), (2, .ref (mb 0)), (3, .int (nI i))] [] := by
  obtain ⟨r, X, X', M, M', fx, fm, rfl, hX0, hM0, hmx, hmm, hw2⟩ := s_sheet (s := xs (i + 1)) (b := xs (i + 2)) (n := xs (i + 3)) w hw
  refine z_aload_n hJ d_Lw_law_990 1 rfl ?_
  refine z_aload_n hJ d_Lw_law_991 0 rfl ?_
  refine z_iload_n hJ d_Lw_law_992 3 rfl ?_
  refine z_iconst (v := 1) hJ d_Lw_law_993 (by decide) ?_
  refine z_iadd hJ d_Lw_law_994 ?_
  refine z_c (y := nI (i + 1)) (nI_add i 1) ?_
  refine hsl _ _ _ _ _ (i + 1) d_Lw_law_995 (by omega) ?_
  refine z_aload_n hJ d_Lw_law_996 0 rfl ?_
  refine z_iload_n hJ d_Lw_law_997 3 rfl ?_
  refine z_iconst (v := 2) hJ d_Lw_law_998 (by decide) ?_
  refine z_iadd hJ d_Lw_law_999 ?_
  refine z_c (y := nI (i + 2)) (nI_add i 2) ?_
  refine hsl _ _ _ _ _ (i + 2) d_Lw_law_1000 (by omega) ?_
  refine z_aload_n hJ d_Lw_law_1001 0 rfl ?_
  refine z_iload_n hJ d_Lw_law_1002 3 rfl ?_
  refine z_iconst (v := 3) hJ d_Lw_law_1003 (by decide) ?_
  refine z_iadd hJ d_Lw_law_1004 ?_
  refine z_c (y := nI (i + 3)) (nI_add i 3) ?_
  refine hsl _ _ _ _ _ (i + 3) d_Lw_law_1005 (by omega) ?_
  refine z_callVi hJ hmx k_Lw_143 zL.beg d_Lw_law_1006 hc_Sx 0 hX0 rfl rfl (Nat.le_of_ble_eq_true rfl) ⟨by decide, by decide⟩ ?_
  refine z_aload_n hJ d_Lw_law_1009 2 rfl ?_
  refine z_aload_n hJ d_Lw_law_1010 0 rfl ?_
  refine z_iload_n hJ d_Lw_law_1011 3 rfl ?_
  refine z_iconst (v := 1) hJ d_Lw_law_1012 (by decide) ?_
  refine z_iadd hJ d_Lw_law_1013 ?_
  refine z_c (y := nI (i + 1)) (nI_add i 1) ?_
  refine hsl _ _ _ _ _ (i + 1) d_Lw_law_1014 (by omega) ?_
  refine z_aload_n hJ d_Lw_law_1015 0 rfl ?_
  refine z_iload_n hJ d_Lw_law_1016 3 rfl ?_
  refine z_iconst (v := 2) hJ d_Lw_law_1017 (by decide) ?_
  refine z_iadd hJ d_Lw_law_1018 ?_
  refine z_c (y := nI (i + 2)) (nI_add i 2) ?_
  refine hsl _ _ _ _ _ (i + 2) d_Lw_law_1019 (by omega) ?_
  refine z_aload_n hJ d_Lw_law_1020 0 rfl ?_
  refine z_iload_n hJ d_Lw_law_1021 3 rfl ?_
  refine z_iconst (v := 3) hJ d_Lw_law_1022 (by decide) ?_
  refine z_iadd hJ d_Lw_law_1023 ?_
  refine z_c (y := nI (i + 3)) (nI_add i 3) ?_
  refine hsl _ _ _ _ _ (i + 3) d_Lw_law_1024 (by omega) ?_
  refine z_callVi hJ hmm k_Lw_146 zL.fin d_Lw_law_1025 hc_Mo 41 hM0 rfl rfl (Nat.le_of_ble_eq_true rfl) ⟨by decide, by decide⟩ ?_
  exact z_icmp_eq hJ d_Lw_law_1028 (fun _ => k _ hw2) (fun c => absurd rfl c)
set_option maxRecDepth 100000 in
theorem lc_write {g : Nat → Nat → Nat} {J : va_W → Nat → zLV → List Value → Prop} {a mb : Nat → Nat} {sb L i : Nat} {xs : Nat → Int32} {w : va_W} (hJ : zOK g J b_Lw_law 4 "SixFellowsLaw" room_1) (hsl : zSl J sb L xs) (hi : i + 6 ≤ L) (hw : zLw g a mb w) (k : ∀ w', zLw g a mb w' → J w' 1324 [(0, .ref sb), (1, .ref (a 0)), (2, .ref (mb 0)), (3, .int (nI i))] []) : J w 1033 [(0, .ref sb), (1, .ref (a 0)), (2, .ref (mb 0)), (3, .int (nI i))] [] := by
  obtain ⟨r, X, X', M, M', fx, fm, rfl, hX0, hM0, hmx, hmm, hw2⟩ := s_write (s := xs (i + 1)) (i := xs (i + 2)) (v := (((xs (i + 3)).toInt64 <<< ((32 : Int32).toInt64 &&& 63)) ||| ((xs (i + 4)).toInt64 &&& (4294967295 : Int64)))) w hw
  refine z_aload_n hJ d_Lw_law_1033 1 rfl ?_
  refine z_aload_n hJ d_Lw_law_1034 0 rfl ?_
  refine z_iload_n hJ d_Lw_law_1035 3 rfl ?_
  refine z_iconst (v := 1) hJ d_Lw_law_1036 (by decide) ?_
  refine z_iadd hJ d_Lw_law_1037 ?_
  refine z_c (y := nI (i + 1)) (nI_add i 1) ?_
  refine hsl _ _ _ _ _ (i + 1) d_Lw_law_1038 (by omega) ?_
  refine z_aload_n hJ d_Lw_law_1039 0 rfl ?_
  refine z_iload_n hJ d_Lw_law_1040 3 rfl ?_
  refine z_iconst (v := 2) hJ d_Lw_law_1041 (by decide) ?_
  refine z_iadd hJ d_Lw_law_1042 ?_
  refine z_c (y := nI (i + 2)) (nI_add i 2) ?_
  refine hsl _ _ _ _ _ (i + 2) d_Lw_law_1043 (by omega) ?_
  refine z_aload_n hJ d_Lw_law_1044 0 rfl ?_
  refine z_iload_n hJ d_Lw_law_1045 3 rfl ?_
  refine z_iconst (v := 3) hJ d_Lw_law_1046 (by decide) ?_
  refine z_iadd hJ d_Lw_law_1047 ?_
  refine z_c (y := nI (i + 3)) (nI_add i 3) ?_
  refine hsl _ _ _ _ _ (i + 3) d_Lw_law_1048 (by omega) ?_
  refine z_i2l hJ d_Lw_law_1049 ?_
  refine z_bipush (v := 32) hJ d_Lw_law_1050 (by decide) ?_
  refine z_lshl hJ d_Lw_law_1052 ?_
  refine z_aload_n hJ d_Lw_law_1053 0 rfl ?_
  refine z_iload_n hJ d_Lw_law_1054 3 rfl ?_
  refine z_iconst (v := 4) hJ d_Lw_law_1055 (by decide) ?_
  refine z_iadd hJ d_Lw_law_1056 ?_
  refine z_c (y := nI (i + 4)) (nI_add i 4) ?_
  refine hsl _ _ _ _ _ (i + 4) d_Lw_law_1057 (by omega) ?_
  refine z_i2l hJ d_Lw_law_1058 ?_
  refine z_ldc2 hJ d_Lw_law_1059 c_Lw_147 ?_
  refine z_land hJ d_Lw_law_1062 ?_
  refine z_lor hJ d_Lw_law_1063 ?_
  refine z_callVl hJ hmx k_Lw_149 zL.beg d_Lw_law_1064 hc_Sx 0 hX0 rfl rfl (Nat.le_of_ble_eq_true rfl) ⟨by decide, by decide⟩ ?_
  refine z_aload_n hJ d_Lw_law_1067 2 rfl ?_
  refine z_aload_n hJ d_Lw_law_1068 0 rfl ?_
  refine z_iload_n hJ d_Lw_law_1069 3 rfl ?_
  refine z_iconst (v := 1) hJ d_Lw_law_1070 (by decide) ?_
  refine z_iadd hJ d_Lw_law_1071 ?_
  refine z_c (y := nI (i + 1)) (nI_add i 1) ?_
  refine hsl _ _ _ _ _ (i + 1) d_Lw_law_1072 (by omega) ?_
  refine z_aload_n hJ d_Lw_law_1073 0 rfl ?_
  refine z_iload_n hJ d_Lw_law_1074 3 rfl ?_
  refine z_iconst (v := 2) hJ d_Lw_law_1075 (by decide) ?_
  refine z_iadd hJ d_Lw_law_1076 ?_
  refine z_c (y := nI (i + 2)) (nI_add i 2) ?_
  refine hsl _ _ _ _ _ (i + 2) d_Lw_law_1077 (by omega) ?_
  refine z_aload_n hJ d_Lw_law_1078 0 rfl ?_
  refine z_iload_n hJ d_Lw_law_1079 3 rfl ?_
  refine z_iconst (v := 3) hJ d_Lw_law_1080 (by decide) ?_
  refine z_iadd hJ d_Lw_law_1081 ?_
  refine z_c (y := nI (i + 3)) (nI_add i 3) ?_
  refine hsl _ _ _ _ _ (i + 3) d_Lw_law_1082 (by omega) ?_
  refine z_i2l hJ d_Lw_law_1083 ?_
  refine z_bipush (v := 32) hJ d_Lw_law_1084 (by decide) ?_
  refine z_lshl hJ d_Lw_law_1086 ?_
  refine z_aload_n hJ d_Lw_law_1087 0 rfl ?_
  refine z_iload_n hJ d_Lw_law_1088 3 rfl ?_
  refine z_iconst (v := 4) hJ d_Lw_law_1089 (by decide) ?_
  refine z_iadd hJ d_Lw_law_1090 ?_
  refine z_c (y := nI (i + 4)) (nI_add i 4) ?_
  refine hsl _ _ _ _ _ (i + 4) d_Lw_law_1091 (by omega) ?_
  refine z_i2l hJ d_Lw_law_1092 ?_
  refine z_ldc2 hJ d_Lw_law_1093 c_Lw_147 ?_
  refine z_land hJ d_Lw_law_1096 ?_
  refine z_lor hJ d_Lw_law_1097 ?_
  refine z_callVl hJ hmm k_Lw_153 zL.fin d_Lw_law_1098 hc_Mo 41 hM0 rfl rfl (Nat.le_of_ble_eq_true rfl) ⟨by decide, by decide⟩ ?_
  refine z_lcmp hJ d_Lw_law_1101 ?_
  exact z_if_eq hJ d_Lw_law_1102 (fun _ => k _ hw2) (fun c => absurd (q_cmp0.mpr rfl) c)
set_option maxRecDepth 100000 in
theorem lc_copy {g : Nat → Nat → Nat} {J : va_W → Nat → zLV → List Value → Prop} {a mb : Nat → Nat} {sb L i : Nat} {xs : Nat → Int32} {w : va_W} (hJ : zOK g J b_Lw_law 4 "SixFellowsLaw" room_1) (hsl : zSl J sb L xs) (hi : i + 6 ≤ L) (hw : zLw g a mb w) (k : ∀ w', zLw g a mb w' → J w' 1324 [(0, .ref sb), (1, .ref (a 0)), (2, .ref (mb 0)), (3, .int (nI i))] []) : J w 1107 [(0, .ref sb), (1, .ref (a 0)), (2, .ref (mb 0)), (3, .int (nI i))] [] := by
  obtain ⟨r, X, X', M, M', fx, fm, rfl, hX0, hM0, hmx, hmm, hw2⟩ := s_copy (s := xs (i + 1)) (fr := xs (i + 2)) (t := xs (i + 3)) (to := xs (i + 4)) (n := xs (i + 5)) w hw
  refine z_aload_n hJ d_Lw_law_1107 1 rfl ?_
  refine z_aload_n hJ d_Lw_law_1108 0 rfl ?_
  refine z_iload_n hJ d_Lw_law_1109 3 rfl ?_
  refine z_iconst (v := 1) hJ d_Lw_law_1110 (by decide) ?_
  refine z_iadd hJ d_Lw_law_1111 ?_
  refine z_c (y := nI (i + 1)) (nI_add i 1) ?_
  refine hsl _ _ _ _ _ (i + 1) d_Lw_law_1112 (by omega) ?_
  refine z_aload_n hJ d_Lw_law_1113 0 rfl ?_
  refine z_iload_n hJ d_Lw_law_1114 3 rfl ?_
  refine z_iconst (v := 2) hJ d_Lw_law_1115 (by decide) ?_
  refine z_iadd hJ d_Lw_law_1116 ?_
  refine z_c (y := nI (i + 2)) (nI_add i 2) ?_
  refine hsl _ _ _ _ _ (i + 2) d_Lw_law_1117 (by omega) ?_
  refine z_aload_n hJ d_Lw_law_1118 0 rfl ?_
  refine z_iload_n hJ d_Lw_law_1119 3 rfl ?_
  refine z_iconst (v := 3) hJ d_Lw_law_1120 (by decide) ?_
  refine z_iadd hJ d_Lw_law_1121 ?_
  refine z_c (y := nI (i + 3)) (nI_add i 3) ?_
  refine hsl _ _ _ _ _ (i + 3) d_Lw_law_1122 (by omega) ?_
  refine z_aload_n hJ d_Lw_law_1123 0 rfl ?_
  refine z_iload_n hJ d_Lw_law_1124 3 rfl ?_
  refine z_iconst (v := 4) hJ d_Lw_law_1125 (by decide) ?_
  refine z_iadd hJ d_Lw_law_1126 ?_
  refine z_c (y := nI (i + 4)) (nI_add i 4) ?_
  refine hsl _ _ _ _ _ (i + 4) d_Lw_law_1127 (by omega) ?_
  refine z_aload_n hJ d_Lw_law_1128 0 rfl ?_
  refine z_iload_n hJ d_Lw_law_1129 3 rfl ?_
  refine z_iconst (v := 5) hJ d_Lw_law_1130 (by decide) ?_
  refine z_iadd hJ d_Lw_law_1131 ?_
  refine z_c (y := nI (i + 5)) (nI_add i 5) ?_
  refine hsl _ _ _ _ _ (i + 5) d_Lw_law_1132 (by omega) ?_
  refine z_callVi hJ hmx k_Lw_154 zL.beg d_Lw_law_1133 hc_Sx 0 hX0 rfl rfl (Nat.le_of_ble_eq_true rfl) ⟨by decide, by decide⟩ ?_
  refine z_aload_n hJ d_Lw_law_1136 2 rfl ?_
  refine z_aload_n hJ d_Lw_law_1137 0 rfl ?_
  refine z_iload_n hJ d_Lw_law_1138 3 rfl ?_
  refine z_iconst (v := 1) hJ d_Lw_law_1139 (by decide) ?_
  refine z_iadd hJ d_Lw_law_1140 ?_
  refine z_c (y := nI (i + 1)) (nI_add i 1) ?_
  refine hsl _ _ _ _ _ (i + 1) d_Lw_law_1141 (by omega) ?_
  refine z_aload_n hJ d_Lw_law_1142 0 rfl ?_
  refine z_iload_n hJ d_Lw_law_1143 3 rfl ?_
  refine z_iconst (v := 2) hJ d_Lw_law_1144 (by decide) ?_
  refine z_iadd hJ d_Lw_law_1145 ?_
  refine z_c (y := nI (i + 2)) (nI_add i 2) ?_
  refine hsl _ _ _ _ _ (i + 2) d_Lw_law_1146 (by omega) ?_
  refine z_aload_n hJ d_Lw_law_1147 0 rfl ?_
  refine z_iload_n hJ d_Lw_law_1148 3 rfl ?_
  refine z_iconst (v := 3) hJ d_Lw_law_1149 (by decide) ?_
  refine z_iadd hJ d_Lw_law_1150 ?_
  refine z_c (y := nI (i + 3)) (nI_add i 3) ?_
  refine hsl _ _ _ _ _ (i + 3) d_Lw_law_1151 (by omega) ?_
  refine z_aload_n hJ d_Lw_law_1152 0 rfl ?_
  refine z_iload_n hJ d_Lw_law_1153 3 rfl ?_
  refine z_iconst (v := 4) hJ d_Lw_law_1154 (by decide) ?_
  refine z_iadd hJ d_Lw_law_1155 ?_
  refine z_c (y := nI (i + 4)) (nI_add i 4) ?_
  refine hsl _ _ _ _ _ (i + 4) d_Lw_law_1156 (by omega) ?_
  refine z_aload_n hJ d_Lw_law_1157 0 rfl ?_
  refine z_iload_n hJ d_Lw_law_1158 3 rfl ?_
  refine z_iconst (v := 5) hJ d_Lw_law_1159 (by decide) ?_
  refine z_iadd hJ d_Lw_law_1160 ?_
  refine z_c (y := nI (i + 5)) (nI_add i 5) ?_
  refine hsl _ _ _ _ _ (i + 5) d_Lw_law_1161 (by omega) ?_
  refine z_callVi hJ hmm k_Lw_158 zL.fin d_Lw_law_1162 hc_Mo 41 hM0 rfl rfl (Nat.le_of_ble_eq_true rfl) ⟨by decide, by decide⟩ ?_
  exact z_icmp_eq hJ d_Lw_law_1165 (fun _ => k _ hw2) (fun c => absurd rfl c)
set_option maxRecDepth 100000 in
theorem lc_lays {g : Nat → Nat → Nat} {J : va_W → Nat → zLV → List Value → Prop} {a mb : Nat → Nat} {sb L i : Nat} {xs : Nat → Int32} {w : va_W} (hJ : zOK g J b_Lw_law 4 "SixFellowsLaw" room_1) (hsl : zSl J sb L xs) (hi : i + 6 ≤ L) (hw : zLw g a mb w) (k : ∀ w', zLw g a mb w' → J w' 1324 [(0, .ref sb), (1, .ref (a 0)), (2, .ref (mb 0)), (3, .int (nI i))] []) : J w 1170 [(0, .ref sb), (1, .ref (a 0)), (2, .ref (mb 0)), (3, .int (nI i))] [] := by
  obtain ⟨r, X, X', M, M', fx, fm, rfl, hX0, hM0, hmx, hmm, hw2⟩ := s_lays (s := xs (i + 1)) w hw
  refine z_aload_n hJ d_Lw_law_1170 1 rfl ?_
  refine z_aload_n hJ d_Lw_law_1171 0 rfl ?_
  refine z_iload_n hJ d_Lw_law_1172 3 rfl ?_
  refine z_iconst (v := 1) hJ d_Lw_law_1173 (by decide) ?_
  refine z_iadd hJ d_Lw_law_1174 ?_
  refine z_c (y := nI (i + 1)) (nI_add i 1) ?_
  refine hsl _ _ _ _ _ (i + 1) d_Lw_law_1175 (by omega) ?_
  refine z_callVi hJ hmx k_Lw_159 zL.beg d_Lw_law_1176 hc_Sx 0 hX0 rfl rfl (Nat.le_of_ble_eq_true rfl) ⟨by decide, by decide⟩ ?_
  refine z_aload_n hJ d_Lw_law_1179 2 rfl ?_
  refine z_aload_n hJ d_Lw_law_1180 0 rfl ?_
  refine z_iload_n hJ d_Lw_law_1181 3 rfl ?_
  refine z_iconst (v := 1) hJ d_Lw_law_1182 (by decide) ?_
  refine z_iadd hJ d_Lw_law_1183 ?_
  refine z_c (y := nI (i + 1)) (nI_add i 1) ?_
  refine hsl _ _ _ _ _ (i + 1) d_Lw_law_1184 (by omega) ?_
  refine z_callVi hJ hmm k_Lw_162 zL.fin d_Lw_law_1185 hc_Mo 41 hM0 rfl rfl (Nat.le_of_ble_eq_true rfl) ⟨by decide, by decide⟩ ?_
  exact z_icmp_eq hJ d_Lw_law_1188 (fun _ => k _ hw2) (fun c => absurd rfl c)
set_option maxRecDepth 100000 in
theorem lc_book {g : Nat → Nat → Nat} {J : va_W → Nat → zLV → List Value → Prop} {a mb : Nat → Nat} {sb L i : Nat} {xs : Nat → Int32} {w : va_W} (hJ : zOK g J b_Lw_law 4 "SixFellowsLaw" room_1) (hsl : zSl J sb L xs) (hi : i + 6 ≤ L) (hw : zLw g a mb w) (k : ∀ w', zLw g a mb w' → J w' 1324 [(0, .ref sb), (1, .ref (a 0)), (2, .ref (mb 0)), (3, .int (nI i))] []) : J w 1193 [(0, .ref sb), (1, .ref (a 0)), (2, .ref (mb 0)), (3, .int (nI i))] [] := by
  obtain ⟨r, X, X', M, M', fx, fm, rfl, hX0, hM0, hmx, hmm, hw2⟩ := s_book (s := xs (i + 1)) w hw
  refine z_aload_n hJ d_Lw_law_1193 1 rfl ?_
  refine z_aload_n hJ d_Lw_law_1194 0 rfl ?_
  refine z_iload_n hJ d_Lw_law_1195 3 rfl ?_
  refine z_iconst (v := 1) hJ d_Lw_law_1196 (by decide) ?_
  refine z_iadd hJ d_Lw_law_1197 ?_
  refine z_c (y := nI (i + 1)) (nI_add i 1) ?_
  refine hsl _ _ _ _ _ (i + 1) d_Lw_law_1198 (by omega) ?_
  refine z_callVi hJ hmx k_Lw_163 zL.beg d_Lw_law_1199 hc_Sx 0 hX0 rfl rfl (Nat.le_of_ble_eq_true rfl) ⟨by decide, by decide⟩ ?_
  refine z_aload_n hJ d_Lw_law_1202 2 rfl ?_
  refine z_aload_n hJ d_Lw_law_1203 0 rfl ?_
  refine z_iload_n hJ d_Lw_law_1204 3 rfl ?_
  refine z_iconst (v := 1) hJ d_Lw_law_1205 (by decide) ?_
  refine z_iadd hJ d_Lw_law_1206 ?_
  refine z_c (y := nI (i + 1)) (nI_add i 1) ?_
  refine hsl _ _ _ _ _ (i + 1) d_Lw_law_1207 (by omega) ?_
  refine z_callVi hJ hmm k_Lw_166 zL.fin d_Lw_law_1208 hc_Mo 41 hM0 rfl rfl (Nat.le_of_ble_eq_true rfl) ⟨by decide, by decide⟩ ?_
  exact z_icmp_eq hJ d_Lw_law_1211 (fun _ => k _ hw2) (fun c => absurd rfl c)
set_option maxRecDepth 100000 in
theorem lc_read {g : Nat → Nat → Nat} {J : va_W → Nat → zLV → List Value → Prop} {a mb : Nat → Nat} {sb L i : Nat} {xs : Nat → Int32} {w : va_W} (hJ : zOK g J b_Lw_law 4 "SixFellowsLaw" room_1) (hsl : zSl J sb L xs) (hi : i + 6 ≤ L) (hw : zLw g a mb w) (k : ∀ w', zLw g a mb w' → J w' 1324 [(0, .ref sb), (1, .ref (a 0)), (2, .ref (mb 0)), (3, .int (nI i))] []) : J w 1216 [(0, .ref sb), (1, .ref (a 0)), (2, .ref (mb 0)), (3, .int (nI i))] [] := by
  obtain ⟨r, X, X', M, M', fx, fm, rfl, hX0, hM0, hmx, hmm, hw2⟩ := s_read (s := xs (i + 1)) w hw
  refine z_aload_n hJ d_Lw_law_1216 1 rfl ?_
  refine z_aload_n hJ d_Lw_law_1217 0 rfl ?_
  refine z_iload_n hJ d_Lw_law_1218 3 rfl ?_
  refine z_iconst (v := 1) hJ d_Lw_law_1219 (by decide) ?_
  refine z_iadd hJ d_Lw_law_1220 ?_
  refine z_c (y := nI (i + 1)) (nI_add i 1) ?_
  refine hsl _ _ _ _ _ (i + 1) d_Lw_law_1221 (by omega) ?_
  refine z_callVi hJ hmx k_Lw_167 zL.beg d_Lw_law_1222 hc_Sx 0 hX0 rfl rfl (Nat.le_of_ble_eq_true rfl) ⟨by decide, by decide⟩ ?_
  refine z_aload_n hJ d_Lw_law_1225 2 rfl ?_
  refine z_aload_n hJ d_Lw_law_1226 0 rfl ?_
  refine z_iload_n hJ d_Lw_law_1227 3 rfl ?_
  refine z_iconst (v := 1) hJ d_Lw_law_1228 (by decide) ?_
  refine z_iadd hJ d_Lw_law_1229 ?_
  refine z_c (y := nI (i + 1)) (nI_add i 1) ?_
  refine hsl _ _ _ _ _ (i + 1) d_Lw_law_1230 (by omega) ?_
  refine z_callVi hJ hmm k_Lw_170 zL.fin d_Lw_law_1231 hc_Mo 41 hM0 rfl rfl (Nat.le_of_ble_eq_true rfl) ⟨by decide, by decide⟩ ?_
  exact z_icmp_eq hJ d_Lw_law_1234 (fun _ => k _ hw2) (fun c => absurd rfl c)
set_option maxRecDepth 100000 in
theorem lc_image {g : Nat → Nat → Nat} {J : va_W → Nat → zLV → List Value → Prop} {a mb : Nat → Nat} {sb L i : Nat} {xs : Nat → Int32} {w : va_W} (hJ : zOK g J b_Lw_law 4 "SixFellowsLaw" room_1) (hsl : zSl J sb L xs) (hi : i + 6 ≤ L) (hw : zLw g a mb w) (k : ∀ w', zLw g a mb w' → J w' 1324 [(0, .ref sb), (1, .ref (a 0)), (2, .ref (mb 0)), (3, .int (nI i))] []) : J w 1239 [(0, .ref sb), (1, .ref (a 0)), (2, .ref (mb 0)), (3, .int (nI i))] [] := by
  obtain ⟨r, X, X', M, M', fx, fm, rfl, hX0, hM0, hmx, hmm, hw2⟩ := s_image  w hw
  refine z_aload_n hJ d_Lw_law_1239 1 rfl ?_
  refine z_callVi hJ hmx k_Lw_171 zL.beg d_Lw_law_1240 hc_Sx 0 hX0 rfl rfl (Nat.le_of_ble_eq_true rfl) ⟨by decide, by decide⟩ ?_
  refine z_aload_n hJ d_Lw_law_1243 2 rfl ?_
  refine z_callVi hJ hmm k_Lw_174 zL.fin d_Lw_law_1244 hc_Mo 41 hM0 rfl rfl (Nat.le_of_ble_eq_true rfl) ⟨by decide, by decide⟩ ?_
  exact z_icmp_eq hJ d_Lw_law_1247 (fun _ => k _ hw2) (fun c => absurd rfl c)
set_option maxRecDepth 100000 in
theorem lc_undo {g : Nat → Nat → Nat} {J : va_W → Nat → zLV → List Value → Prop} {a mb : Nat → Nat} {sb L i : Nat} {xs : Nat → Int32} {w : va_W} (hJ : zOK g J b_Lw_law 4 "SixFellowsLaw" room_1) (hsl : zSl J sb L xs) (hi : i + 6 ≤ L) (hw : zLw g a mb w) (k : ∀ w', zLw g a mb w' → J w' 1324 [(0, .ref sb), (1, .ref (a 0)), (2, .ref (mb 0)), (3, .int (nI i))] []) : J w 1252 [(0, .ref sb), (1, .ref (a 0)), (2, .ref (mb 0)), (3, .int (nI i))] [] := by
  obtain ⟨r, X, X', M, M', fx, fm, rfl, hX0, hM0, hmx, hmm, hw2⟩ := s_undo  w hw
  refine z_aload_n hJ d_Lw_law_1252 1 rfl ?_
  refine z_callVi hJ hmx k_Lw_175 zL.beg d_Lw_law_1253 hc_Sx 0 hX0 rfl rfl (Nat.le_of_ble_eq_true rfl) ⟨by decide, by decide⟩ ?_
  refine z_aload_n hJ d_Lw_law_1256 2 rfl ?_
  refine z_callVi hJ hmm k_Lw_178 zL.fin d_Lw_law_1257 hc_Mo 41 hM0 rfl rfl (Nat.le_of_ble_eq_true rfl) ⟨by decide, by decide⟩ ?_
  exact z_icmp_eq hJ d_Lw_law_1260 (fun _ => k _ hw2) (fun c => absurd rfl c)
set_option maxRecDepth 100000 in
theorem lc_tear {g : Nat → Nat → Nat} {J : va_W → Nat → zLV → List Value → Prop} {a mb : Nat → Nat} {sb L i : Nat} {xs : Nat → Int32} {w : va_W} (hJ : zOK g J b_Lw_law 4 "SixFellowsLaw" room_1) (hsl : zSl J sb L xs) (hi : i + 6 ≤ L) (hw : zLw g a mb w) (k : ∀ w', zLw g a mb w' → J w' 1324 [(0, .ref sb), (1, .ref (a 0)), (2, .ref (mb 0)), (3, .int (nI i))] []) : J w 1265 [(0, .ref sb), (1, .ref (a 0)), (2, .ref (mb 0)), (3, .int (nI i))] [] := by
  obtain ⟨r, X, X', M, M', fx, fm, rfl, hX0, hM0, hmx, hmm, hw2⟩ := s_tear  w hw
  refine z_aload_n hJ d_Lw_law_1265 1 rfl ?_
  refine z_callVi hJ hmx k_Lw_179 zL.beg d_Lw_law_1266 hc_Sx 0 hX0 rfl rfl (Nat.le_of_ble_eq_true rfl) ⟨by decide, by decide⟩ ?_
  refine z_aload_n hJ d_Lw_law_1269 2 rfl ?_
  refine z_callVi hJ hmm k_Lw_182 zL.fin d_Lw_law_1270 hc_Mo 41 hM0 rfl rfl (Nat.le_of_ble_eq_true rfl) ⟨by decide, by decide⟩ ?_
  exact z_icmp_eq hJ d_Lw_law_1273 (fun _ => k _ hw2) (fun c => absurd rfl c)
set_option maxRecDepth 100000 in
theorem lc_count {g : Nat → Nat → Nat} {J : va_W → Nat → zLV → List Value → Prop} {a mb : Nat → Nat} {sb L i : Nat} {xs : Nat → Int32} {w : va_W} (hJ : zOK g J b_Lw_law 4 "SixFellowsLaw" room_1) (hsl : zSl J sb L xs) (hi : i + 6 ≤ L) (hw : zLw g a mb w) (k : ∀ w', zLw g a mb w' → J w' 1324 [(0, .ref sb), (1, .ref (a 0)), (2, .ref (mb 0)), (3, .int (nI i))] []) : J w 1278 [(0, .ref sb), (1, .ref (a 0)), (2, .ref (mb 0)), (3, .int (nI i))] [] := by
  obtain ⟨r, X, X', M, M', fx, fm, rfl, hX0, hM0, hmx, hmm, hw2⟩ := s_count (w := xs (i + 1)) w hw
  refine z_aload_n hJ d_Lw_law_1278 1 rfl ?_
  refine z_aload_n hJ d_Lw_law_1279 0 rfl ?_
  refine z_iload_n hJ d_Lw_law_1280 3 rfl ?_
  refine z_iconst (v := 1) hJ d_Lw_law_1281 (by decide) ?_
  refine z_iadd hJ d_Lw_law_1282 ?_
  refine z_c (y := nI (i + 1)) (nI_add i 1) ?_
  refine hsl _ _ _ _ _ (i + 1) d_Lw_law_1283 (by omega) ?_
  refine z_callVi hJ hmx k_Lw_183 zL.beg d_Lw_law_1284 hc_Sx 0 hX0 rfl rfl (Nat.le_of_ble_eq_true rfl) ⟨by decide, by decide⟩ ?_
  refine z_aload_n hJ d_Lw_law_1287 2 rfl ?_
  refine z_aload_n hJ d_Lw_law_1288 0 rfl ?_
  refine z_iload_n hJ d_Lw_law_1289 3 rfl ?_
  refine z_iconst (v := 1) hJ d_Lw_law_1290 (by decide) ?_
  refine z_iadd hJ d_Lw_law_1291 ?_
  refine z_c (y := nI (i + 1)) (nI_add i 1) ?_
  refine hsl _ _ _ _ _ (i + 1) d_Lw_law_1292 (by omega) ?_
  refine z_callVi hJ hmm k_Lw_186 zL.fin d_Lw_law_1293 hc_Mo 41 hM0 rfl rfl (Nat.le_of_ble_eq_true rfl) ⟨by decide, by decide⟩ ?_
  exact z_icmp_eq hJ d_Lw_law_1296 (fun _ => k _ hw2) (fun c => absurd rfl c)
set_option maxRecDepth 100000 in
theorem lc_status {g : Nat → Nat → Nat} {J : va_W → Nat → zLV → List Value → Prop} {a mb : Nat → Nat} {sb L i : Nat} {xs : Nat → Int32} {w : va_W} (hJ : zOK g J b_Lw_law 4 "SixFellowsLaw" room_1) (hsl : zSl J sb L xs) (hi : i + 6 ≤ L) (hw : zLw g a mb w) (k : ∀ w', zLw g a mb w' → J w' 1324 [(0, .ref sb), (1, .ref (a 0)), (2, .ref (mb 0)), (3, .int (nI i))] []) : J w 1301 [(0, .ref sb), (1, .ref (a 0)), (2, .ref (mb 0)), (3, .int (nI i))] [] := by
  obtain ⟨r, X, X', M, M', fx, fm, rfl, hX0, hM0, hmx, hmm, hw2⟩ := s_status (w := xs (i + 1)) w hw
  refine z_aload_n hJ d_Lw_law_1301 1 rfl ?_
  refine z_aload_n hJ d_Lw_law_1302 0 rfl ?_
  refine z_iload_n hJ d_Lw_law_1303 3 rfl ?_
  refine z_iconst (v := 1) hJ d_Lw_law_1304 (by decide) ?_
  refine z_iadd hJ d_Lw_law_1305 ?_
  refine z_c (y := nI (i + 1)) (nI_add i 1) ?_
  refine hsl _ _ _ _ _ (i + 1) d_Lw_law_1306 (by omega) ?_
  refine z_callVi hJ hmx k_Lw_187 zL.beg d_Lw_law_1307 hc_Sx 0 hX0 rfl rfl (Nat.le_of_ble_eq_true rfl) ⟨by decide, by decide⟩ ?_
  refine z_aload_n hJ d_Lw_law_1310 2 rfl ?_
  refine z_aload_n hJ d_Lw_law_1311 0 rfl ?_
  refine z_iload_n hJ d_Lw_law_1312 3 rfl ?_
  refine z_iconst (v := 1) hJ d_Lw_law_1313 (by decide) ?_
  refine z_iadd hJ d_Lw_law_1314 ?_
  refine z_c (y := nI (i + 1)) (nI_add i 1) ?_
  refine hsl _ _ _ _ _ (i + 1) d_Lw_law_1315 (by omega) ?_
  refine z_callVi hJ hmm k_Lw_190 zL.fin d_Lw_law_1316 hc_Mo 41 hM0 rfl rfl (Nat.le_of_ble_eq_true rfl) ⟨by decide, by decide⟩ ?_
  exact z_icmp_eq hJ d_Lw_law_1319 (fun _ => k _ hw2) (fun c => absurd rfl c)
