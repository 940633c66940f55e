/-! the law: each case calls the class, then the reference, and compares -/
theorem ow_Law : ab_own y_Law_law = 9 := by decide +kernel
theorem rt_Law : ab_ret y_Law_law = some .boolean := by decide +kernel
theorem ml_Law : ab_ml y_Law_law = 4 := by decide +kernel
/-- the law's own places at the call that begins at i -/
def lL (i : Nat) : ab_L := [some (.ref 13000), some (.ref 0), some (.ref 91), some (.int (nI i))]
theorem lw_Ki {X : ab_X} {d y pc : Nat} {ls : ab_L} {st : List Value} {S : wp_S} {x : Int32} (k : lw X d y pc ls (.int x :: st) S) : lw_K X d y pc ls st (some (.int x)) S := k
theorem lw_Kl {X : ab_X} {d y pc : Nat} {ls : ab_L} {st : List Value} {S : wp_S} {x : Int64} (k : lw X d y pc ls (.long x :: st) S) : lw_K X d y pc ls st (some (.long x)) S := k
section LC
variable {L : Nat} {xs : Nat → Int32} {i : Nat} {S : wp_S}
theorem lw_nx (K : lw (some (L, xs)) 200 y_Law_law 18 (lL (i + 6)) [] S) : lw (some (L, xs)) 200 y_Law_law 1368 (lL i) [] S := by
  refine lw_iinc (x := nI i) (v := nI (i + 6)) d_Law_law_1368 rfl (nI_add _ 6) rfl ?_
  exact lw_goto (pc' := 18) d_Law_law_1371 (by decide) K
theorem lw_c0 (hL : L ≤ 3072) (hi : i + 6 ≤ L) (K : lP y_Fo_field y_Mo_field [.int (xs (i + 1)), .int (xs (i + 2))] (fun S2 => lw (some (L, xs)) 200 y_Law_law 18 (lL (i + 6)) [] S2) S) : lw (some (L, xs)) 200 y_Law_law 196 (lL i) [] S := by
  refine lw_aload_n d_Law_law_196 rfl rfl ?_
  refine lw_aload_n d_Law_law_197 rfl rfl ?_
  refine lw_iload_n d_Law_law_198 rfl rfl ?_
  refine lw_iconst (x := nI 1) d_Law_law_199 rfl ?_
  refine lw_iadd d_Law_law_200 (nI_add _ _) ?_
  refine lw_iaX d_Law_law_201 (by omega) (by omega) ?_
  refine lw_aload_n d_Law_law_202 rfl rfl ?_
  refine lw_iload_n d_Law_law_203 rfl rfl ?_
  refine lw_iconst (x := nI 2) d_Law_law_204 rfl ?_
  refine lw_iadd d_Law_law_205 (nI_add _ _) ?_
  refine lw_iaX d_Law_law_206 (by omega) (by omega) ?_
  refine lw_invV d_Law_law_207 ow_Law lk_9_13 (by decide) mi_Fo_field rfl rfl (Nat.le_of_ble_eq_true rfl) rfl (wp_isC (O_0 _)) (show 100 ≤ 200 from by decide) ?_
  refine cl_imp K ?_
  rintro _ S1 ⟨v, rfl, K2⟩
  refine lw_Ki ?_
  refine lw_aload_n d_Law_law_210 rfl rfl ?_
  refine lw_aload_n d_Law_law_211 rfl rfl ?_
  refine lw_iload_n d_Law_law_212 rfl rfl ?_
  refine lw_iconst (x := nI 1) d_Law_law_213 rfl ?_
  refine lw_iadd d_Law_law_214 (nI_add _ _) ?_
  refine lw_iaX d_Law_law_215 (by omega) (by omega) ?_
  refine lw_aload_n d_Law_law_216 rfl rfl ?_
  refine lw_iload_n d_Law_law_217 rfl rfl ?_
  refine lw_iconst (x := nI 2) d_Law_law_218 rfl ?_
  refine lw_iadd d_Law_law_219 (nI_add _ _) ?_
  refine lw_iaX d_Law_law_220 (by omega) (by omega) ?_
  refine lw_invV d_Law_law_221 ow_Law lk_9_17 (by decide) mi_Mo_field rfl rfl (Nat.le_of_ble_eq_true rfl) rfl (wp_isC (O_91 _)) (show 100 ≤ 200 from by decide) ?_
  refine cl_imp K2 ?_
  rintro _ S2 ⟨rfl, K3⟩
  refine lw_Ki ?_
  exact lw_ic_eq (pc' := 1368) d_Law_law_224 (by decide) (fun _ => lw_nx K3) (fun z => absurd rfl z)
theorem lw_c1 (hL : L ≤ 3072) (hi : i + 6 ≤ L) (K : lP y_Fo_ofField y_Mo_ofField [.int (xs (i + 1)), .int (xs (i + 2))] (fun S2 => lw (some (L, xs)) 200 y_Law_law 18 (lL (i + 6)) [] S2) S) : lw (some (L, xs)) 200 y_Law_law 229 (lL i) [] S := by
  refine lw_aload_n d_Law_law_229 rfl rfl ?_
  refine lw_aload_n d_Law_law_230 rfl rfl ?_
  refine lw_iload_n d_Law_law_231 rfl rfl ?_
  refine lw_iconst (x := nI 1) d_Law_law_232 rfl ?_
  refine lw_iadd d_Law_law_233 (nI_add _ _) ?_
  refine lw_iaX d_Law_law_234 (by omega) (by omega) ?_
  refine lw_aload_n d_Law_law_235 rfl rfl ?_
  refine lw_iload_n d_Law_law_236 rfl rfl ?_
  refine lw_iconst (x := nI 2) d_Law_law_237 rfl ?_
  refine lw_iadd d_Law_law_238 (nI_add _ _) ?_
  refine lw_iaX d_Law_law_239 (by omega) (by omega) ?_
  refine lw_invV d_Law_law_240 ow_Law lk_9_18 (by decide) mi_Fo_ofField rfl rfl (Nat.le_of_ble_eq_true rfl) rfl (wp_isC (O_0 _)) (show 100 ≤ 200 from by decide) ?_
  refine cl_imp K ?_
  rintro _ S1 ⟨v, rfl, K2⟩
  refine lw_Ki ?_
  refine lw_aload_n d_Law_law_243 rfl rfl ?_
  refine lw_aload_n d_Law_law_244 rfl rfl ?_
  refine lw_iload_n d_Law_law_245 rfl rfl ?_
  refine lw_iconst (x := nI 1) d_Law_law_246 rfl ?_
  refine lw_iadd d_Law_law_247 (nI_add _ _) ?_
  refine lw_iaX d_Law_law_248 (by omega) (by omega) ?_
  refine lw_aload_n d_Law_law_249 rfl rfl ?_
  refine lw_iload_n d_Law_law_250 rfl rfl ?_
  refine lw_iconst (x := nI 2) d_Law_law_251 rfl ?_
  refine lw_iadd d_Law_law_252 (nI_add _ _) ?_
  refine lw_iaX d_Law_law_253 (by omega) (by omega) ?_
  refine lw_invV d_Law_law_254 ow_Law lk_9_21 (by decide) mi_Mo_ofField rfl rfl (Nat.le_of_ble_eq_true rfl) rfl (wp_isC (O_91 _)) (show 100 ≤ 200 from by decide) ?_
  refine cl_imp K2 ?_
  rintro _ S2 ⟨rfl, K3⟩
  refine lw_Ki ?_
  exact lw_ic_eq (pc' := 1368) d_Law_law_257 (by decide) (fun _ => lw_nx K3) (fun z => absurd rfl z)
theorem lw_c2 (hL : L ≤ 3072) (hi : i + 6 ≤ L) (K : lP y_Fo_tellings y_Mo_tellings [.int (xs (i + 1)), .int (xs (i + 2))] (fun S2 => lw (some (L, xs)) 200 y_Law_law 18 (lL (i + 6)) [] S2) S) : lw (some (L, xs)) 200 y_Law_law 262 (lL i) [] S := by
  refine lw_aload_n d_Law_law_262 rfl rfl ?_
  refine lw_aload_n d_Law_law_263 rfl rfl ?_
  refine lw_iload_n d_Law_law_264 rfl rfl ?_
  refine lw_iconst (x := nI 1) d_Law_law_265 rfl ?_
  refine lw_iadd d_Law_law_266 (nI_add _ _) ?_
  refine lw_iaX d_Law_law_267 (by omega) (by omega) ?_
  refine lw_aload_n d_Law_law_268 rfl rfl ?_
  refine lw_iload_n d_Law_law_269 rfl rfl ?_
  refine lw_iconst (x := nI 2) d_Law_law_270 rfl ?_
  refine lw_iadd d_Law_law_271 (nI_add _ _) ?_
  refine lw_iaX d_Law_law_272 (by omega) (by omega) ?_
  refine lw_invV d_Law_law_273 ow_Law lk_9_22 (by decide) mi_Fo_tellings rfl rfl (Nat.le_of_ble_eq_true rfl) rfl (wp_isC (O_0 _)) (show 100 ≤ 200 from by decide) ?_
  refine cl_imp K ?_
  rintro _ S1 ⟨v, rfl, K2⟩
  refine lw_Ki ?_
  refine lw_aload_n d_Law_law_276 rfl rfl ?_
  refine lw_aload_n d_Law_law_277 rfl rfl ?_
  refine lw_iload_n d_Law_law_278 rfl rfl ?_
  refine lw_iconst (x := nI 1) d_Law_law_279 rfl ?_
  refine lw_iadd d_Law_law_280 (nI_add _ _) ?_
  refine lw_iaX d_Law_law_281 (by omega) (by omega) ?_
  refine lw_aload_n d_Law_law_282 rfl rfl ?_
  refine lw_iload_n d_Law_law_283 rfl rfl ?_
  refine lw_iconst (x := nI 2) d_Law_law_284 rfl ?_
  refine lw_iadd d_Law_law_285 (nI_add _ _) ?_
  refine lw_iaX d_Law_law_286 (by omega) (by omega) ?_
  refine lw_invV d_Law_law_287 ow_Law lk_9_25 (by decide) mi_Mo_tellings rfl rfl (Nat.le_of_ble_eq_true rfl) rfl (wp_isC (O_91 _)) (show 100 ≤ 200 from by decide) ?_
  refine cl_imp K2 ?_
  rintro _ S2 ⟨rfl, K3⟩
  refine lw_Ki ?_
  exact lw_ic_eq (pc' := 1368) d_Law_law_290 (by decide) (fun _ => lw_nx K3) (fun z => absurd rfl z)
theorem lw_c3 (hL : L ≤ 3072) (hi : i + 6 ≤ L) (K : lP y_Fo_ofOwner y_Mo_ofOwner [.int (xs (i + 1)), .int (xs (i + 2))] (fun S2 => lw (some (L, xs)) 200 y_Law_law 18 (lL (i + 6)) [] S2) S) : lw (some (L, xs)) 200 y_Law_law 295 (lL i) [] S := by
  refine lw_aload_n d_Law_law_295 rfl rfl ?_
  refine lw_aload_n d_Law_law_296 rfl rfl ?_
  refine lw_iload_n d_Law_law_297 rfl rfl ?_
  refine lw_iconst (x := nI 1) d_Law_law_298 rfl ?_
  refine lw_iadd d_Law_law_299 (nI_add _ _) ?_
  refine lw_iaX d_Law_law_300 (by omega) (by omega) ?_
  refine lw_aload_n d_Law_law_301 rfl rfl ?_
  refine lw_iload_n d_Law_law_302 rfl rfl ?_
  refine lw_iconst (x := nI 2) d_Law_law_303 rfl ?_
  refine lw_iadd d_Law_law_304 (nI_add _ _) ?_
  refine lw_iaX d_Law_law_305 (by omega) (by omega) ?_
  refine lw_invV d_Law_law_306 ow_Law lk_9_26 (by decide) mi_Fo_ofOwner rfl rfl (Nat.le_of_ble_eq_true rfl) rfl (wp_isC (O_0 _)) (show 100 ≤ 200 from by decide) ?_
  refine cl_imp K ?_
  rintro _ S1 ⟨v, rfl, K2⟩
  refine lw_Ki ?_
  refine lw_aload_n d_Law_law_309 rfl rfl ?_
  refine lw_aload_n d_Law_law_310 rfl rfl ?_
  refine lw_iload_n d_Law_law_311 rfl rfl ?_
  refine lw_iconst (x := nI 1) d_Law_law_312 rfl ?_
  refine lw_iadd d_Law_law_313 (nI_add _ _) ?_
  refine lw_iaX d_Law_law_314 (by omega) (by omega) ?_
  refine lw_aload_n d_Law_law_315 rfl rfl ?_
  refine lw_iload_n d_Law_law_316 rfl rfl ?_
  refine lw_iconst (x := nI 2) d_Law_law_317 rfl ?_
  refine lw_iadd d_Law_law_318 (nI_add _ _) ?_
  refine lw_iaX d_Law_law_319 (by omega) (by omega) ?_
  refine lw_invV d_Law_law_320 ow_Law lk_9_29 (by decide) mi_Mo_ofOwner rfl rfl (Nat.le_of_ble_eq_true rfl) rfl (wp_isC (O_91 _)) (show 100 ≤ 200 from by decide) ?_
  refine cl_imp K2 ?_
  rintro _ S2 ⟨rfl, K3⟩
  refine lw_Ki ?_
  exact lw_ic_eq (pc' := 1368) d_Law_law_323 (by decide) (fun _ => lw_nx K3) (fun z => absurd rfl z)
theorem lw_c4 (hL : L ≤ 3072) (hi : i + 6 ≤ L) (K : lP y_Fo_become y_Mo_become [.int (xs (i + 1)), .int (xs (i + 2))] (fun S2 => lw (some (L, xs)) 200 y_Law_law 18 (lL (i + 6)) [] S2) S) : lw (some (L, xs)) 200 y_Law_law 328 (lL i) [] S := by
  refine lw_aload_n d_Law_law_328 rfl rfl ?_
  refine lw_aload_n d_Law_law_329 rfl rfl ?_
  refine lw_iload_n d_Law_law_330 rfl rfl ?_
  refine lw_iconst (x := nI 1) d_Law_law_331 rfl ?_
  refine lw_iadd d_Law_law_332 (nI_add _ _) ?_
  refine lw_iaX d_Law_law_333 (by omega) (by omega) ?_
  refine lw_aload_n d_Law_law_334 rfl rfl ?_
  refine lw_iload_n d_Law_law_335 rfl rfl ?_
  refine lw_iconst (x := nI 2) d_Law_law_336 rfl ?_
  refine lw_iadd d_Law_law_337 (nI_add _ _) ?_
  refine lw_iaX d_Law_law_338 (by omega) (by omega) ?_
  refine lw_invV d_Law_law_339 ow_Law lk_9_30 (by decide) mi_Fo_become rfl rfl (Nat.le_of_ble_eq_true rfl) rfl (wp_isC (O_0 _)) (show 100 ≤ 200 from by decide) ?_
  refine cl_imp K ?_
  rintro _ S1 ⟨v, rfl, K2⟩
  refine lw_Ki ?_
  refine lw_aload_n d_Law_law_342 rfl rfl ?_
  refine lw_aload_n d_Law_law_343 rfl rfl ?_
  refine lw_iload_n d_Law_law_344 rfl rfl ?_
  refine lw_iconst (x := nI 1) d_Law_law_345 rfl ?_
  refine lw_iadd d_Law_law_346 (nI_add _ _) ?_
  refine lw_iaX d_Law_law_347 (by omega) (by omega) ?_
  refine lw_aload_n d_Law_law_348 rfl rfl ?_
  refine lw_iload_n d_Law_law_349 rfl rfl ?_
  refine lw_iconst (x := nI 2) d_Law_law_350 rfl ?_
  refine lw_iadd d_Law_law_351 (nI_add _ _) ?_
  refine lw_iaX d_Law_law_352 (by omega) (by omega) ?_
  refine lw_invV d_Law_law_353 ow_Law lk_9_33 (by decide) mi_Mo_become rfl rfl (Nat.le_of_ble_eq_true rfl) rfl (wp_isC (O_91 _)) (show 100 ≤ 200 from by decide) ?_
  refine cl_imp K2 ?_
  rintro _ S2 ⟨rfl, K3⟩
  refine lw_Ki ?_
  exact lw_ic_eq (pc' := 1368) d_Law_law_356 (by decide) (fun _ => lw_nx K3) (fun z => absurd rfl z)
theorem lw_c5 (hL : L ≤ 3072) (hi : i + 6 ≤ L) (K : lP y_Fo_as y_Mo_as [.int (xs (i + 1)), .int (xs (i + 2))] (fun S2 => lw (some (L, xs)) 200 y_Law_law 18 (lL (i + 6)) [] S2) S) : lw (some (L, xs)) 200 y_Law_law 361 (lL i) [] S := by
  refine lw_aload_n d_Law_law_361 rfl rfl ?_
  refine lw_aload_n d_Law_law_362 rfl rfl ?_
  refine lw_iload_n d_Law_law_363 rfl rfl ?_
  refine lw_iconst (x := nI 1) d_Law_law_364 rfl ?_
  refine lw_iadd d_Law_law_365 (nI_add _ _) ?_
  refine lw_iaX d_Law_law_366 (by omega) (by omega) ?_
  refine lw_aload_n d_Law_law_367 rfl rfl ?_
  refine lw_iload_n d_Law_law_368 rfl rfl ?_
  refine lw_iconst (x := nI 2) d_Law_law_369 rfl ?_
  refine lw_iadd d_Law_law_370 (nI_add _ _) ?_
  refine lw_iaX d_Law_law_371 (by omega) (by omega) ?_
  refine lw_invV d_Law_law_372 ow_Law lk_9_34 (by decide) mi_Fo_as rfl rfl (Nat.le_of_ble_eq_true rfl) rfl (wp_isC (O_0 _)) (show 100 ≤ 200 from by decide) ?_
  refine cl_imp K ?_
  rintro _ S1 ⟨v, rfl, K2⟩
  refine lw_Ki ?_
  refine lw_aload_n d_Law_law_375 rfl rfl ?_
  refine lw_aload_n d_Law_law_376 rfl rfl ?_
  refine lw_iload_n d_Law_law_377 rfl rfl ?_
  refine lw_iconst (x := nI 1) d_Law_law_378 rfl ?_
  refine lw_iadd d_Law_law_379 (nI_add _ _) ?_
  refine lw_iaX d_Law_law_380 (by omega) (by omega) ?_
  refine lw_aload_n d_Law_law_381 rfl rfl ?_
  refine lw_iload_n d_Law_law_382 rfl rfl ?_
  refine lw_iconst (x := nI 2) d_Law_law_383 rfl ?_
  refine lw_iadd d_Law_law_384 (nI_add _ _) ?_
  refine lw_iaX d_Law_law_385 (by omega) (by omega) ?_
  refine lw_invV d_Law_law_386 ow_Law lk_9_37 (by decide) mi_Mo_as rfl rfl (Nat.le_of_ble_eq_true rfl) rfl (wp_isC (O_91 _)) (show 100 ≤ 200 from by decide) ?_
  refine cl_imp K2 ?_
  rintro _ S2 ⟨rfl, K3⟩
  refine lw_Ki ?_
  exact lw_ic_eq (pc' := 1368) d_Law_law_389 (by decide) (fun _ => lw_nx K3) (fun z => absurd rfl z)
theorem lw_c6 (hL : L ≤ 3072) (hi : i + 6 ≤ L) (K : lP y_Fo_set y_Mo_set [.int (xs (i + 1)), .int (xs (i + 2)), .int (xs (i + 3))] (fun S2 => lw (some (L, xs)) 200 y_Law_law 18 (lL (i + 6)) [] S2) S) : lw (some (L, xs)) 200 y_Law_law 394 (lL i) [] S := by
  refine lw_aload_n d_Law_law_394 rfl rfl ?_
  refine lw_aload_n d_Law_law_395 rfl rfl ?_
  refine lw_iload_n d_Law_law_396 rfl rfl ?_
  refine lw_iconst (x := nI 1) d_Law_law_397 rfl ?_
  refine lw_iadd d_Law_law_398 (nI_add _ _) ?_
  refine lw_iaX d_Law_law_399 (by omega) (by omega) ?_
  refine lw_aload_n d_Law_law_400 rfl rfl ?_
  refine lw_iload_n d_Law_law_401 rfl rfl ?_
  refine lw_iconst (x := nI 2) d_Law_law_402 rfl ?_
  refine lw_iadd d_Law_law_403 (nI_add _ _) ?_
  refine lw_iaX d_Law_law_404 (by omega) (by omega) ?_
  refine lw_aload_n d_Law_law_405 rfl rfl ?_
  refine lw_iload_n d_Law_law_406 rfl rfl ?_
  refine lw_iconst (x := nI 3) d_Law_law_407 rfl ?_
  refine lw_iadd d_Law_law_408 (nI_add _ _) ?_
  refine lw_iaX d_Law_law_409 (by omega) (by omega) ?_
  refine lw_invV d_Law_law_410 ow_Law lk_9_38 (by decide) mi_Fo_set rfl rfl (Nat.le_of_ble_eq_true rfl) rfl (wp_isC (O_0 _)) (show 100 ≤ 200 from by decide) ?_
  refine cl_imp K ?_
  rintro _ S1 ⟨v, rfl, K2⟩
  refine lw_Ki ?_
  refine lw_aload_n d_Law_law_413 rfl rfl ?_
  refine lw_aload_n d_Law_law_414 rfl rfl ?_
  refine lw_iload_n d_Law_law_415 rfl rfl ?_
  refine lw_iconst (x := nI 1) d_Law_law_416 rfl ?_
  refine lw_iadd d_Law_law_417 (nI_add _ _) ?_
  refine lw_iaX d_Law_law_418 (by omega) (by omega) ?_
  refine lw_aload_n d_Law_law_419 rfl rfl ?_
  refine lw_iload_n d_Law_law_420 rfl rfl ?_
  refine lw_iconst (x := nI 2) d_Law_law_421 rfl ?_
  refine lw_iadd d_Law_law_422 (nI_add _ _) ?_
  refine lw_iaX d_Law_law_423 (by omega) (by omega) ?_
  refine lw_aload_n d_Law_law_424 rfl rfl ?_
  refine lw_iload_n d_Law_law_425 rfl rfl ?_
  refine lw_iconst (x := nI 3) d_Law_law_426 rfl ?_
  refine lw_iadd d_Law_law_427 (nI_add _ _) ?_
  refine lw_iaX d_Law_law_428 (by omega) (by omega) ?_
  refine lw_invV d_Law_law_429 ow_Law lk_9_42 (by decide) mi_Mo_set rfl rfl (Nat.le_of_ble_eq_true rfl) rfl (wp_isC (O_91 _)) (show 100 ≤ 200 from by decide) ?_
  refine cl_imp K2 ?_
  rintro _ S2 ⟨rfl, K3⟩
  refine lw_Ki ?_
  exact lw_ic_eq (pc' := 1368) d_Law_law_432 (by decide) (fun _ => lw_nx K3) (fun z => absurd rfl z)
theorem lw_c7 (hL : L ≤ 3072) (hi : i + 6 ≤ L) (K : lP y_Fo_fear y_Mo_fear [.int (xs (i + 1)), .int (xs (i + 2))] (fun S2 => lw (some (L, xs)) 200 y_Law_law 18 (lL (i + 6)) [] S2) S) : lw (some (L, xs)) 200 y_Law_law 437 (lL i) [] S := by
  refine lw_aload_n d_Law_law_437 rfl rfl ?_
  refine lw_aload_n d_Law_law_438 rfl rfl ?_
  refine lw_iload_n d_Law_law_439 rfl rfl ?_
  refine lw_iconst (x := nI 1) d_Law_law_440 rfl ?_
  refine lw_iadd d_Law_law_441 (nI_add _ _) ?_
  refine lw_iaX d_Law_law_442 (by omega) (by omega) ?_
  refine lw_aload_n d_Law_law_443 rfl rfl ?_
  refine lw_iload_n d_Law_law_444 rfl rfl ?_
  refine lw_iconst (x := nI 2) d_Law_law_445 rfl ?_
  refine lw_iadd d_Law_law_446 (nI_add _ _) ?_
  refine lw_iaX d_Law_law_447 (by omega) (by omega) ?_
  refine lw_invV d_Law_law_448 ow_Law lk_9_43 (by decide) mi_Fo_fear rfl rfl (Nat.le_of_ble_eq_true rfl) rfl (wp_isC (O_0 _)) (show 100 ≤ 200 from by decide) ?_
  refine cl_imp K ?_
  rintro _ S1 ⟨v, rfl, K2⟩
  refine lw_Ki ?_
  refine lw_aload_n d_Law_law_451 rfl rfl ?_
  refine lw_aload_n d_Law_law_452 rfl rfl ?_
  refine lw_iload_n d_Law_law_453 rfl rfl ?_
  refine lw_iconst (x := nI 1) d_Law_law_454 rfl ?_
  refine lw_iadd d_Law_law_455 (nI_add _ _) ?_
  refine lw_iaX d_Law_law_456 (by omega) (by omega) ?_
  refine lw_aload_n d_Law_law_457 rfl rfl ?_
  refine lw_iload_n d_Law_law_458 rfl rfl ?_
  refine lw_iconst (x := nI 2) d_Law_law_459 rfl ?_
  refine lw_iadd d_Law_law_460 (nI_add _ _) ?_
  refine lw_iaX d_Law_law_461 (by omega) (by omega) ?_
  refine lw_invV d_Law_law_462 ow_Law lk_9_46 (by decide) mi_Mo_fear rfl rfl (Nat.le_of_ble_eq_true rfl) rfl (wp_isC (O_91 _)) (show 100 ≤ 200 from by decide) ?_
  refine cl_imp K2 ?_
  rintro _ S2 ⟨rfl, K3⟩
  refine lw_Ki ?_
  exact lw_ic_eq (pc' := 1368) d_Law_law_465 (by decide) (fun _ => lw_nx K3) (fun z => absurd rfl z)
theorem lw_c8 (hL : L ≤ 3072) (hi : i + 6 ≤ L) (K : lP y_Fo_pace y_Mo_pace [.int (xs (i + 1))] (fun S2 => lw (some (L, xs)) 200 y_Law_law 18 (lL (i + 6)) [] S2) S) : lw (some (L, xs)) 200 y_Law_law 470 (lL i) [] S := by
  refine lw_aload_n d_Law_law_470 rfl rfl ?_
  refine lw_aload_n d_Law_law_471 rfl rfl ?_
  refine lw_iload_n d_Law_law_472 rfl rfl ?_
  refine lw_iconst (x := nI 1) d_Law_law_473 rfl ?_
  refine lw_iadd d_Law_law_474 (nI_add _ _) ?_
  refine lw_iaX d_Law_law_475 (by omega) (by omega) ?_
  refine lw_invV d_Law_law_476 ow_Law lk_9_47 (by decide) mi_Fo_pace rfl rfl (Nat.le_of_ble_eq_true rfl) rfl (wp_isC (O_0 _)) (show 100 ≤ 200 from by decide) ?_
  refine cl_imp K ?_
  rintro _ S1 ⟨v, rfl, K2⟩
  refine lw_Ki ?_
  refine lw_aload_n d_Law_law_479 rfl rfl ?_
  refine lw_aload_n d_Law_law_480 rfl rfl ?_
  refine lw_iload_n d_Law_law_481 rfl rfl ?_
  refine lw_iconst (x := nI 1) d_Law_law_482 rfl ?_
  refine lw_iadd d_Law_law_483 (nI_add _ _) ?_
  refine lw_iaX d_Law_law_484 (by omega) (by omega) ?_
  refine lw_invV d_Law_law_485 ow_Law lk_9_51 (by decide) mi_Mo_pace rfl rfl (Nat.le_of_ble_eq_true rfl) rfl (wp_isC (O_91 _)) (show 100 ≤ 200 from by decide) ?_
  refine cl_imp K2 ?_
  rintro _ S2 ⟨rfl, K3⟩
  refine lw_Ki ?_
  exact lw_ic_eq (pc' := 1368) d_Law_law_488 (by decide) (fun _ => lw_nx K3) (fun z => absurd rfl z)
theorem lw_c9 (hL : L ≤ 3072) (hi : i + 6 ≤ L) (K : lP y_Fo_forgets y_Mo_forgets [.int (xs (i + 1))] (fun S2 => lw (some (L, xs)) 200 y_Law_law 18 (lL (i + 6)) [] S2) S) : lw (some (L, xs)) 200 y_Law_law 493 (lL i) [] S := by
  refine lw_aload_n d_Law_law_493 rfl rfl ?_
  refine lw_aload_n d_Law_law_494 rfl rfl ?_
  refine lw_iload_n d_Law_law_495 rfl rfl ?_
  refine lw_iconst (x := nI 1) d_Law_law_496 rfl ?_
  refine lw_iadd d_Law_law_497 (nI_add _ _) ?_
  refine lw_iaX d_Law_law_498 (by omega) (by omega) ?_
  refine lw_invV d_Law_law_499 ow_Law lk_9_52 (by decide) mi_Fo_forgets rfl rfl (Nat.le_of_ble_eq_true rfl) rfl (wp_isC (O_0 _)) (show 100 ≤ 200 from by decide) ?_
  refine cl_imp K ?_
  rintro _ S1 ⟨v, rfl, K2⟩
  refine lw_Ki ?_
  refine lw_aload_n d_Law_law_502 rfl rfl ?_
  refine lw_aload_n d_Law_law_503 rfl rfl ?_
  refine lw_iload_n d_Law_law_504 rfl rfl ?_
  refine lw_iconst (x := nI 1) d_Law_law_505 rfl ?_
  refine lw_iadd d_Law_law_506 (nI_add _ _) ?_
  refine lw_iaX d_Law_law_507 (by omega) (by omega) ?_
  refine lw_invV d_Law_law_508 ow_Law lk_9_55 (by decide) mi_Mo_forgets rfl rfl (Nat.le_of_ble_eq_true rfl) rfl (wp_isC (O_91 _)) (show 100 ≤ 200 from by decide) ?_
  refine cl_imp K2 ?_
  rintro _ S2 ⟨rfl, K3⟩
  refine lw_Ki ?_
  exact lw_ic_eq (pc' := 1368) d_Law_law_511 (by decide) (fun _ => lw_nx K3) (fun z => absurd rfl z)
theorem lw_c10 (hL : L ≤ 3072) (hi : i + 6 ≤ L) (K : lP y_Fo_tells y_Mo_tells [.int (xs (i + 1)), .int (xs (i + 2))] (fun S2 => lw (some (L, xs)) 200 y_Law_law 18 (lL (i + 6)) [] S2) S) : lw (some (L, xs)) 200 y_Law_law 516 (lL i) [] S := by
  refine lw_aload_n d_Law_law_516 rfl rfl ?_
  refine lw_aload_n d_Law_law_517 rfl rfl ?_
  refine lw_iload_n d_Law_law_518 rfl rfl ?_
  refine lw_iconst (x := nI 1) d_Law_law_519 rfl ?_
  refine lw_iadd d_Law_law_520 (nI_add _ _) ?_
  refine lw_iaX d_Law_law_521 (by omega) (by omega) ?_
  refine lw_aload_n d_Law_law_522 rfl rfl ?_
  refine lw_iload_n d_Law_law_523 rfl rfl ?_
  refine lw_iconst (x := nI 2) d_Law_law_524 rfl ?_
  refine lw_iadd d_Law_law_525 (nI_add _ _) ?_
  refine lw_iaX d_Law_law_526 (by omega) (by omega) ?_
  refine lw_invV d_Law_law_527 ow_Law lk_9_56 (by decide) mi_Fo_tells rfl rfl (Nat.le_of_ble_eq_true rfl) rfl (wp_isC (O_0 _)) (show 100 ≤ 200 from by decide) ?_
  refine cl_imp K ?_
  rintro _ S1 ⟨v, rfl, K2⟩
  refine lw_Ki ?_
  refine lw_aload_n d_Law_law_530 rfl rfl ?_
  refine lw_aload_n d_Law_law_531 rfl rfl ?_
  refine lw_iload_n d_Law_law_532 rfl rfl ?_
  refine lw_iconst (x := nI 1) d_Law_law_533 rfl ?_
  refine lw_iadd d_Law_law_534 (nI_add _ _) ?_
  refine lw_iaX d_Law_law_535 (by omega) (by omega) ?_
  refine lw_aload_n d_Law_law_536 rfl rfl ?_
  refine lw_iload_n d_Law_law_537 rfl rfl ?_
  refine lw_iconst (x := nI 2) d_Law_law_538 rfl ?_
  refine lw_iadd d_Law_law_539 (nI_add _ _) ?_
  refine lw_iaX d_Law_law_540 (by omega) (by omega) ?_
  refine lw_invV d_Law_law_541 ow_Law lk_9_59 (by decide) mi_Mo_tells rfl rfl (Nat.le_of_ble_eq_true rfl) rfl (wp_isC (O_91 _)) (show 100 ≤ 200 from by decide) ?_
  refine cl_imp K2 ?_
  rintro _ S2 ⟨rfl, K3⟩
  refine lw_Ki ?_
  exact lw_ic_eq (pc' := 1368) d_Law_law_544 (by decide) (fun _ => lw_nx K3) (fun z => absurd rfl z)
theorem lw_c11 (hL : L ≤ 3072) (hi : i + 6 ≤ L) (K : lP y_Fo_loose y_Mo_loose [.int (xs (i + 1))] (fun S2 => lw (some (L, xs)) 200 y_Law_law 18 (lL (i + 6)) [] S2) S) : lw (some (L, xs)) 200 y_Law_law 549 (lL i) [] S := by
  refine lw_aload_n d_Law_law_549 rfl rfl ?_
  refine lw_aload_n d_Law_law_550 rfl rfl ?_
  refine lw_iload_n d_Law_law_551 rfl rfl ?_
  refine lw_iconst (x := nI 1) d_Law_law_552 rfl ?_
  refine lw_iadd d_Law_law_553 (nI_add _ _) ?_
  refine lw_iaX d_Law_law_554 (by omega) (by omega) ?_
  refine lw_invV d_Law_law_555 ow_Law lk_9_60 (by decide) mi_Fo_loose rfl rfl (Nat.le_of_ble_eq_true rfl) rfl (wp_isC (O_0 _)) (show 100 ≤ 200 from by decide) ?_
  refine cl_imp K ?_
  rintro _ S1 ⟨v, rfl, K2⟩
  refine lw_Ki ?_
  refine lw_aload_n d_Law_law_558 rfl rfl ?_
  refine lw_aload_n d_Law_law_559 rfl rfl ?_
  refine lw_iload_n d_Law_law_560 rfl rfl ?_
  refine lw_iconst (x := nI 1) d_Law_law_561 rfl ?_
  refine lw_iadd d_Law_law_562 (nI_add _ _) ?_
  refine lw_iaX d_Law_law_563 (by omega) (by omega) ?_
  refine lw_invV d_Law_law_564 ow_Law lk_9_63 (by decide) mi_Mo_loose rfl rfl (Nat.le_of_ble_eq_true rfl) rfl (wp_isC (O_91 _)) (show 100 ≤ 200 from by decide) ?_
  refine cl_imp K2 ?_
  rintro _ S2 ⟨rfl, K3⟩
  refine lw_Ki ?_
  exact lw_ic_eq (pc' := 1368) d_Law_law_567 (by decide) (fun _ => lw_nx K3) (fun z => absurd rfl z)
theorem lw_c12 (hL : L ≤ 3072) (hi : i + 6 ≤ L) (K : ∀ w : Int64, lP y_Fo_feed y_Mo_feed [.long w, .int (xs (i + 3))] (fun S2 => lw (some (L, xs)) 200 y_Law_law 18 (lL (i + 6)) [] S2) S) : lw (some (L, xs)) 200 y_Law_law 572 (lL i) [] S := by
  refine lw_aload_n d_Law_law_572 rfl rfl ?_
  refine lw_aload_n d_Law_law_573 rfl rfl ?_
  refine lw_iload_n d_Law_law_574 rfl rfl ?_
  refine lw_iconst (x := nI 1) d_Law_law_575 rfl ?_
  refine lw_iadd d_Law_law_576 (nI_add _ _) ?_
  refine lw_iaX d_Law_law_577 (by omega) (by omega) ?_
  refine lw_i2l d_Law_law_578 rfl ?_
  refine lw_bipush (x := nI 32) d_Law_law_579 (by decide) ?_
  refine lw_lshl d_Law_law_581 rfl ?_
  refine lw_aload_n d_Law_law_582 rfl rfl ?_
  refine lw_iload_n d_Law_law_583 rfl rfl ?_
  refine lw_iconst (x := nI 2) d_Law_law_584 rfl ?_
  refine lw_iadd d_Law_law_585 (nI_add _ _) ?_
  refine lw_iaX d_Law_law_586 (by omega) (by omega) ?_
  refine lw_i2l d_Law_law_587 rfl ?_
  refine lw_ldc2_w (v := 4294967295) d_Law_law_588 ow_Law (by decide +kernel) ?_
  refine lw_land d_Law_law_591 rfl ?_
  refine lw_lor d_Law_law_592 rfl ?_
  refine lw_aload_n d_Law_law_593 rfl rfl ?_
  refine lw_iload_n d_Law_law_594 rfl rfl ?_
  refine lw_iconst (x := nI 3) d_Law_law_595 rfl ?_
  refine lw_iadd d_Law_law_596 (nI_add _ _) ?_
  refine lw_iaX d_Law_law_597 (by omega) (by omega) ?_
  refine lw_invV d_Law_law_598 ow_Law lk_9_66 (by decide) mi_Fo_feed rfl rfl (Nat.le_of_ble_eq_true rfl) rfl (wp_isC (O_0 _)) (show 100 ≤ 200 from by decide) ?_
  refine cl_imp (K _) ?_
  rintro _ S1 ⟨v, rfl, K2⟩
  refine lw_Ki ?_
  refine lw_aload_n d_Law_law_601 rfl rfl ?_
  refine lw_aload_n d_Law_law_602 rfl rfl ?_
  refine lw_iload_n d_Law_law_603 rfl rfl ?_
  refine lw_iconst (x := nI 1) d_Law_law_604 rfl ?_
  refine lw_iadd d_Law_law_605 (nI_add _ _) ?_
  refine lw_iaX d_Law_law_606 (by omega) (by omega) ?_
  refine lw_i2l d_Law_law_607 rfl ?_
  refine lw_bipush (x := nI 32) d_Law_law_608 (by decide) ?_
  refine lw_lshl d_Law_law_610 rfl ?_
  refine lw_aload_n d_Law_law_611 rfl rfl ?_
  refine lw_iload_n d_Law_law_612 rfl rfl ?_
  refine lw_iconst (x := nI 2) d_Law_law_613 rfl ?_
  refine lw_iadd d_Law_law_614 (nI_add _ _) ?_
  refine lw_iaX d_Law_law_615 (by omega) (by omega) ?_
  refine lw_i2l d_Law_law_616 rfl ?_
  refine lw_ldc2_w (v := 4294967295) d_Law_law_617 ow_Law (by decide +kernel) ?_
  refine lw_land d_Law_law_620 rfl ?_
  refine lw_lor d_Law_law_621 rfl ?_
  refine lw_aload_n d_Law_law_622 rfl rfl ?_
  refine lw_iload_n d_Law_law_623 rfl rfl ?_
  refine lw_iconst (x := nI 3) d_Law_law_624 rfl ?_
  refine lw_iadd d_Law_law_625 (nI_add _ _) ?_
  refine lw_iaX d_Law_law_626 (by omega) (by omega) ?_
  refine lw_invV d_Law_law_627 ow_Law lk_9_70 (by decide) mi_Mo_feed rfl rfl (Nat.le_of_ble_eq_true rfl) rfl (wp_isC (O_91 _)) (show 100 ≤ 200 from by decide) ?_
  refine cl_imp K2 ?_
  rintro _ S2 ⟨rfl, K3⟩
  refine lw_Ki ?_
  exact lw_ic_eq (pc' := 1368) d_Law_law_630 (by decide) (fun _ => lw_nx K3) (fun z => absurd rfl z)
theorem lw_c13 (hL : L ≤ 3072) (hi : i + 6 ≤ L) (K : lP y_Fo_text y_Mo_text [.int (xs (i + 1))] (fun S2 => lw (some (L, xs)) 200 y_Law_law 18 (lL (i + 6)) [] S2) S) : lw (some (L, xs)) 200 y_Law_law 635 (lL i) [] S := by
  refine lw_aload_n d_Law_law_635 rfl rfl ?_
  refine lw_aload_n d_Law_law_636 rfl rfl ?_
  refine lw_iload_n d_Law_law_637 rfl rfl ?_
  refine lw_iconst (x := nI 1) d_Law_law_638 rfl ?_
  refine lw_iadd d_Law_law_639 (nI_add _ _) ?_
  refine lw_iaX d_Law_law_640 (by omega) (by omega) ?_
  refine lw_invV d_Law_law_641 ow_Law lk_9_71 (by decide) mi_Fo_text rfl rfl (Nat.le_of_ble_eq_true rfl) rfl (wp_isC (O_0 _)) (show 100 ≤ 200 from by decide) ?_
  refine cl_imp K ?_
  rintro _ S1 ⟨v, rfl, K2⟩
  refine lw_Ki ?_
  refine lw_aload_n d_Law_law_644 rfl rfl ?_
  refine lw_aload_n d_Law_law_645 rfl rfl ?_
  refine lw_iload_n d_Law_law_646 rfl rfl ?_
  refine lw_iconst (x := nI 1) d_Law_law_647 rfl ?_
  refine lw_iadd d_Law_law_648 (nI_add _ _) ?_
  refine lw_iaX d_Law_law_649 (by omega) (by omega) ?_
  refine lw_invV d_Law_law_650 ow_Law lk_9_74 (by decide) mi_Mo_text rfl rfl (Nat.le_of_ble_eq_true rfl) rfl (wp_isC (O_91 _)) (show 100 ≤ 200 from by decide) ?_
  refine cl_imp K2 ?_
  rintro _ S2 ⟨rfl, K3⟩
  refine lw_Ki ?_
  exact lw_ic_eq (pc' := 1368) d_Law_law_653 (by decide) (fun _ => lw_nx K3) (fun z => absurd rfl z)
theorem lw_c14 (hL : L ≤ 3072) (hi : i + 6 ≤ L) (K : lP y_Fo_law y_Mo_law [.int (xs (i + 1)), .int (xs (i + 2)), .int (xs (i + 3)), .int (xs (i + 4))] (fun S2 => lw (some (L, xs)) 200 y_Law_law 18 (lL (i + 6)) [] S2) S) : lw (some (L, xs)) 200 y_Law_law 658 (lL i) [] S := by
  refine lw_aload_n d_Law_law_658 rfl rfl ?_
  refine lw_aload_n d_Law_law_659 rfl rfl ?_
  refine lw_iload_n d_Law_law_660 rfl rfl ?_
  refine lw_iconst (x := nI 1) d_Law_law_661 rfl ?_
  refine lw_iadd d_Law_law_662 (nI_add _ _) ?_
  refine lw_iaX d_Law_law_663 (by omega) (by omega) ?_
  refine lw_aload_n d_Law_law_664 rfl rfl ?_
  refine lw_iload_n d_Law_law_665 rfl rfl ?_
  refine lw_iconst (x := nI 2) d_Law_law_666 rfl ?_
  refine lw_iadd d_Law_law_667 (nI_add _ _) ?_
  refine lw_iaX d_Law_law_668 (by omega) (by omega) ?_
  refine lw_aload_n d_Law_law_669 rfl rfl ?_
  refine lw_iload_n d_Law_law_670 rfl rfl ?_
  refine lw_iconst (x := nI 3) d_Law_law_671 rfl ?_
  refine lw_iadd d_Law_law_672 (nI_add _ _) ?_
  refine lw_iaX d_Law_law_673 (by omega) (by omega) ?_
  refine lw_aload_n d_Law_law_674 rfl rfl ?_
  refine lw_iload_n d_Law_law_675 rfl rfl ?_
  refine lw_iconst (x := nI 4) d_Law_law_676 rfl ?_
  refine lw_iadd d_Law_law_677 (nI_add _ _) ?_
  refine lw_iaX d_Law_law_678 (by omega) (by omega) ?_
  refine lw_invV d_Law_law_679 ow_Law lk_9_75 (by decide) mi_Fo_law rfl rfl (Nat.le_of_ble_eq_true rfl) rfl (wp_isC (O_0 _)) (show 100 ≤ 200 from by decide) ?_
  refine cl_imp K ?_
  rintro _ S1 ⟨v, rfl, K2⟩
  refine lw_Ki ?_
  refine lw_aload_n d_Law_law_682 rfl rfl ?_
  refine lw_aload_n d_Law_law_683 rfl rfl ?_
  refine lw_iload_n d_Law_law_684 rfl rfl ?_
  refine lw_iconst (x := nI 1) d_Law_law_685 rfl ?_
  refine lw_iadd d_Law_law_686 (nI_add _ _) ?_
  refine lw_iaX d_Law_law_687 (by omega) (by omega) ?_
  refine lw_aload_n d_Law_law_688 rfl rfl ?_
  refine lw_iload_n d_Law_law_689 rfl rfl ?_
  refine lw_iconst (x := nI 2) d_Law_law_690 rfl ?_
  refine lw_iadd d_Law_law_691 (nI_add _ _) ?_
  refine lw_iaX d_Law_law_692 (by omega) (by omega) ?_
  refine lw_aload_n d_Law_law_693 rfl rfl ?_
  refine lw_iload_n d_Law_law_694 rfl rfl ?_
  refine lw_iconst (x := nI 3) d_Law_law_695 rfl ?_
  refine lw_iadd d_Law_law_696 (nI_add _ _) ?_
  refine lw_iaX d_Law_law_697 (by omega) (by omega) ?_
  refine lw_aload_n d_Law_law_698 rfl rfl ?_
  refine lw_iload_n d_Law_law_699 rfl rfl ?_
  refine lw_iconst (x := nI 4) d_Law_law_700 rfl ?_
  refine lw_iadd d_Law_law_701 (nI_add _ _) ?_
  refine lw_iaX d_Law_law_702 (by omega) (by omega) ?_
  refine lw_invV d_Law_law_703 ow_Law lk_9_79 (by decide) mi_Mo_law rfl rfl (Nat.le_of_ble_eq_true rfl) rfl (wp_isC (O_91 _)) (show 100 ≤ 200 from by decide) ?_
  refine cl_imp K2 ?_
  rintro _ S2 ⟨rfl, K3⟩
  refine lw_Ki ?_
  exact lw_ic_eq (pc' := 1368) d_Law_law_706 (by decide) (fun _ => lw_nx K3) (fun z => absurd rfl z)
theorem lw_c15 (hL : L ≤ 3072) (hi : i + 6 ≤ L) (K : lP y_Fo_needed y_Mo_needed [.int (xs (i + 1)), .int (xs (i + 2))] (fun S2 => lw (some (L, xs)) 200 y_Law_law 18 (lL (i + 6)) [] S2) S) : lw (some (L, xs)) 200 y_Law_law 711 (lL i) [] S := by
  refine lw_aload_n d_Law_law_711 rfl rfl ?_
  refine lw_aload_n d_Law_law_712 rfl rfl ?_
  refine lw_iload_n d_Law_law_713 rfl rfl ?_
  refine lw_iconst (x := nI 1) d_Law_law_714 rfl ?_
  refine lw_iadd d_Law_law_715 (nI_add _ _) ?_
  refine lw_iaX d_Law_law_716 (by omega) (by omega) ?_
  refine lw_aload_n d_Law_law_717 rfl rfl ?_
  refine lw_iload_n d_Law_law_718 rfl rfl ?_
  refine lw_iconst (x := nI 2) d_Law_law_719 rfl ?_
  refine lw_iadd d_Law_law_720 (nI_add _ _) ?_
  refine lw_iaX d_Law_law_721 (by omega) (by omega) ?_
  refine lw_invV d_Law_law_722 ow_Law lk_9_80 (by decide) mi_Fo_needed rfl rfl (Nat.le_of_ble_eq_true rfl) rfl (wp_isC (O_0 _)) (show 100 ≤ 200 from by decide) ?_
  refine cl_imp K ?_
  rintro _ S1 ⟨v, rfl, K2⟩
  refine lw_Ki ?_
  refine lw_aload_n d_Law_law_725 rfl rfl ?_
  refine lw_aload_n d_Law_law_726 rfl rfl ?_
  refine lw_iload_n d_Law_law_727 rfl rfl ?_
  refine lw_iconst (x := nI 1) d_Law_law_728 rfl ?_
  refine lw_iadd d_Law_law_729 (nI_add _ _) ?_
  refine lw_iaX d_Law_law_730 (by omega) (by omega) ?_
  refine lw_aload_n d_Law_law_731 rfl rfl ?_
  refine lw_iload_n d_Law_law_732 rfl rfl ?_
  refine lw_iconst (x := nI 2) d_Law_law_733 rfl ?_
  refine lw_iadd d_Law_law_734 (nI_add _ _) ?_
  refine lw_iaX d_Law_law_735 (by omega) (by omega) ?_
  refine lw_invV d_Law_law_736 ow_Law lk_9_83 (by decide) mi_Mo_needed rfl rfl (Nat.le_of_ble_eq_true rfl) rfl (wp_isC (O_91 _)) (show 100 ≤ 200 from by decide) ?_
  refine cl_imp K2 ?_
  rintro _ S2 ⟨rfl, K3⟩
  refine lw_Ki ?_
  exact lw_ic_eq (pc' := 1368) d_Law_law_739 (by decide) (fun _ => lw_nx K3) (fun z => absurd rfl z)
theorem lw_c16 (hL : L ≤ 3072) (hi : i + 6 ≤ L) (K : lP y_Fo_coach y_Mo_coach [.int (xs (i + 1))] (fun S2 => lw (some (L, xs)) 200 y_Law_law 18 (lL (i + 6)) [] S2) S) : lw (some (L, xs)) 200 y_Law_law 744 (lL i) [] S := by
  refine lw_aload_n d_Law_law_744 rfl rfl ?_
  refine lw_aload_n d_Law_law_745 rfl rfl ?_
  refine lw_iload_n d_Law_law_746 rfl rfl ?_
  refine lw_iconst (x := nI 1) d_Law_law_747 rfl ?_
  refine lw_iadd d_Law_law_748 (nI_add _ _) ?_
  refine lw_iaX d_Law_law_749 (by omega) (by omega) ?_
  refine lw_invV d_Law_law_750 ow_Law lk_9_84 (by decide) mi_Fo_coach rfl rfl (Nat.le_of_ble_eq_true rfl) rfl (wp_isC (O_0 _)) (show 100 ≤ 200 from by decide) ?_
  refine cl_imp K ?_
  rintro _ S1 ⟨v, rfl, K2⟩
  refine lw_Ki ?_
  refine lw_aload_n d_Law_law_753 rfl rfl ?_
  refine lw_aload_n d_Law_law_754 rfl rfl ?_
  refine lw_iload_n d_Law_law_755 rfl rfl ?_
  refine lw_iconst (x := nI 1) d_Law_law_756 rfl ?_
  refine lw_iadd d_Law_law_757 (nI_add _ _) ?_
  refine lw_iaX d_Law_law_758 (by omega) (by omega) ?_
  refine lw_invV d_Law_law_759 ow_Law lk_9_87 (by decide) mi_Mo_coach rfl rfl (Nat.le_of_ble_eq_true rfl) rfl (wp_isC (O_91 _)) (show 100 ≤ 200 from by decide) ?_
  refine cl_imp K2 ?_
  rintro _ S2 ⟨rfl, K3⟩
  refine lw_Ki ?_
  exact lw_ic_eq (pc' := 1368) d_Law_law_762 (by decide) (fun _ => lw_nx K3) (fun z => absurd rfl z)
theorem lw_c17 (hL : L ≤ 3072) (hi : i + 6 ≤ L) (K : lP y_Fo_gain y_Mo_gain [.int (xs (i + 1)), .int (xs (i + 2))] (fun S2 => lw (some (L, xs)) 200 y_Law_law 18 (lL (i + 6)) [] S2) S) : lw (some (L, xs)) 200 y_Law_law 767 (lL i) [] S := by
  refine lw_aload_n d_Law_law_767 rfl rfl ?_
  refine lw_aload_n d_Law_law_768 rfl rfl ?_
  refine lw_iload_n d_Law_law_769 rfl rfl ?_
  refine lw_iconst (x := nI 1) d_Law_law_770 rfl ?_
  refine lw_iadd d_Law_law_771 (nI_add _ _) ?_
  refine lw_iaX d_Law_law_772 (by omega) (by omega) ?_
  refine lw_aload_n d_Law_law_773 rfl rfl ?_
  refine lw_iload_n d_Law_law_774 rfl rfl ?_
  refine lw_iconst (x := nI 2) d_Law_law_775 rfl ?_
  refine lw_iadd d_Law_law_776 (nI_add _ _) ?_
  refine lw_iaX d_Law_law_777 (by omega) (by omega) ?_
  refine lw_invV d_Law_law_778 ow_Law lk_9_88 (by decide) mi_Fo_gain rfl rfl (Nat.le_of_ble_eq_true rfl) rfl (wp_isC (O_0 _)) (show 100 ≤ 200 from by decide) ?_
  refine cl_imp K ?_
  rintro _ S1 ⟨v, rfl, K2⟩
  refine lw_Ki ?_
  refine lw_aload_n d_Law_law_781 rfl rfl ?_
  refine lw_aload_n d_Law_law_782 rfl rfl ?_
  refine lw_iload_n d_Law_law_783 rfl rfl ?_
  refine lw_iconst (x := nI 1) d_Law_law_784 rfl ?_
  refine lw_iadd d_Law_law_785 (nI_add _ _) ?_
  refine lw_iaX d_Law_law_786 (by omega) (by omega) ?_
  refine lw_aload_n d_Law_law_787 rfl rfl ?_
  refine lw_iload_n d_Law_law_788 rfl rfl ?_
  refine lw_iconst (x := nI 2) d_Law_law_789 rfl ?_
  refine lw_iadd d_Law_law_790 (nI_add _ _) ?_
  refine lw_iaX d_Law_law_791 (by omega) (by omega) ?_
  refine lw_invV d_Law_law_792 ow_Law lk_9_91 (by decide) mi_Mo_gain rfl rfl (Nat.le_of_ble_eq_true rfl) rfl (wp_isC (O_91 _)) (show 100 ≤ 200 from by decide) ?_
  refine cl_imp K2 ?_
  rintro _ S2 ⟨rfl, K3⟩
  refine lw_Ki ?_
  exact lw_ic_eq (pc' := 1368) d_Law_law_795 (by decide) (fun _ => lw_nx K3) (fun z => absurd rfl z)
theorem lw_c18 (hL : L ≤ 3072) (hi : i + 6 ≤ L) (K : lP y_Fo_turns y_Mo_turns [.int (xs (i + 1)), .int (xs (i + 2)), .int (xs (i + 3))] (fun S2 => lw (some (L, xs)) 200 y_Law_law 18 (lL (i + 6)) [] S2) S) : lw (some (L, xs)) 200 y_Law_law 800 (lL i) [] S := by
  refine lw_aload_n d_Law_law_800 rfl rfl ?_
  refine lw_aload_n d_Law_law_801 rfl rfl ?_
  refine lw_iload_n d_Law_law_802 rfl rfl ?_
  refine lw_iconst (x := nI 1) d_Law_law_803 rfl ?_
  refine lw_iadd d_Law_law_804 (nI_add _ _) ?_
  refine lw_iaX d_Law_law_805 (by omega) (by omega) ?_
  refine lw_aload_n d_Law_law_806 rfl rfl ?_
  refine lw_iload_n d_Law_law_807 rfl rfl ?_
  refine lw_iconst (x := nI 2) d_Law_law_808 rfl ?_
  refine lw_iadd d_Law_law_809 (nI_add _ _) ?_
  refine lw_iaX d_Law_law_810 (by omega) (by omega) ?_
  refine lw_aload_n d_Law_law_811 rfl rfl ?_
  refine lw_iload_n d_Law_law_812 rfl rfl ?_
  refine lw_iconst (x := nI 3) d_Law_law_813 rfl ?_
  refine lw_iadd d_Law_law_814 (nI_add _ _) ?_
  refine lw_iaX d_Law_law_815 (by omega) (by omega) ?_
  refine lw_invV d_Law_law_816 ow_Law lk_9_92 (by decide) mi_Fo_turns rfl rfl (Nat.le_of_ble_eq_true rfl) rfl (wp_isC (O_0 _)) (show 100 ≤ 200 from by decide) ?_
  refine cl_imp K ?_
  rintro _ S1 ⟨v, rfl, K2⟩
  refine lw_Ki ?_
  refine lw_aload_n d_Law_law_819 rfl rfl ?_
  refine lw_aload_n d_Law_law_820 rfl rfl ?_
  refine lw_iload_n d_Law_law_821 rfl rfl ?_
  refine lw_iconst (x := nI 1) d_Law_law_822 rfl ?_
  refine lw_iadd d_Law_law_823 (nI_add _ _) ?_
  refine lw_iaX d_Law_law_824 (by omega) (by omega) ?_
  refine lw_aload_n d_Law_law_825 rfl rfl ?_
  refine lw_iload_n d_Law_law_826 rfl rfl ?_
  refine lw_iconst (x := nI 2) d_Law_law_827 rfl ?_
  refine lw_iadd d_Law_law_828 (nI_add _ _) ?_
  refine lw_iaX d_Law_law_829 (by omega) (by omega) ?_
  refine lw_aload_n d_Law_law_830 rfl rfl ?_
  refine lw_iload_n d_Law_law_831 rfl rfl ?_
  refine lw_iconst (x := nI 3) d_Law_law_832 rfl ?_
  refine lw_iadd d_Law_law_833 (nI_add _ _) ?_
  refine lw_iaX d_Law_law_834 (by omega) (by omega) ?_
  refine lw_invV d_Law_law_835 ow_Law lk_9_95 (by decide) mi_Mo_turns rfl rfl (Nat.le_of_ble_eq_true rfl) rfl (wp_isC (O_91 _)) (show 100 ≤ 200 from by decide) ?_
  refine cl_imp K2 ?_
  rintro _ S2 ⟨rfl, K3⟩
  refine lw_Ki ?_
  exact lw_ic_eq (pc' := 1368) d_Law_law_838 (by decide) (fun _ => lw_nx K3) (fun z => absurd rfl z)
theorem lw_c19 (hL : L ≤ 3072) (hi : i + 6 ≤ L) (K : lP y_Fo_one y_Mo_one [.int (xs (i + 1)), .int (xs (i + 2))] (fun S2 => lw (some (L, xs)) 200 y_Law_law 18 (lL (i + 6)) [] S2) S) : lw (some (L, xs)) 200 y_Law_law 843 (lL i) [] S := by
  refine lw_aload_n d_Law_law_843 rfl rfl ?_
  refine lw_aload_n d_Law_law_844 rfl rfl ?_
  refine lw_iload_n d_Law_law_845 rfl rfl ?_
  refine lw_iconst (x := nI 1) d_Law_law_846 rfl ?_
  refine lw_iadd d_Law_law_847 (nI_add _ _) ?_
  refine lw_iaX d_Law_law_848 (by omega) (by omega) ?_
  refine lw_aload_n d_Law_law_849 rfl rfl ?_
  refine lw_iload_n d_Law_law_850 rfl rfl ?_
  refine lw_iconst (x := nI 2) d_Law_law_851 rfl ?_
  refine lw_iadd d_Law_law_852 (nI_add _ _) ?_
  refine lw_iaX d_Law_law_853 (by omega) (by omega) ?_
  refine lw_invV d_Law_law_854 ow_Law lk_9_96 (by decide) mi_Fo_one rfl rfl (Nat.le_of_ble_eq_true rfl) rfl (wp_isC (O_0 _)) (show 100 ≤ 200 from by decide) ?_
  refine cl_imp K ?_
  rintro _ S1 ⟨v, rfl, K2⟩
  refine lw_Ki ?_
  refine lw_aload_n d_Law_law_857 rfl rfl ?_
  refine lw_aload_n d_Law_law_858 rfl rfl ?_
  refine lw_iload_n d_Law_law_859 rfl rfl ?_
  refine lw_iconst (x := nI 1) d_Law_law_860 rfl ?_
  refine lw_iadd d_Law_law_861 (nI_add _ _) ?_
  refine lw_iaX d_Law_law_862 (by omega) (by omega) ?_
  refine lw_aload_n d_Law_law_863 rfl rfl ?_
  refine lw_iload_n d_Law_law_864 rfl rfl ?_
  refine lw_iconst (x := nI 2) d_Law_law_865 rfl ?_
  refine lw_iadd d_Law_law_866 (nI_add _ _) ?_
  refine lw_iaX d_Law_law_867 (by omega) (by omega) ?_
  refine lw_invV d_Law_law_868 ow_Law lk_9_99 (by decide) mi_Mo_one rfl rfl (Nat.le_of_ble_eq_true rfl) rfl (wp_isC (O_91 _)) (show 100 ≤ 200 from by decide) ?_
  refine cl_imp K2 ?_
  rintro _ S2 ⟨rfl, K3⟩
  refine lw_Ki ?_
  exact lw_ic_eq (pc' := 1368) d_Law_law_871 (by decide) (fun _ => lw_nx K3) (fun z => absurd rfl z)
theorem lw_c20 (hL : L ≤ 3072) (hi : i + 6 ≤ L) (K : lP y_Fo_fears y_Mo_fears [.int (xs (i + 1)), .int (xs (i + 2))] (fun S2 => lw (some (L, xs)) 200 y_Law_law 18 (lL (i + 6)) [] S2) S) : lw (some (L, xs)) 200 y_Law_law 876 (lL i) [] S := by
  refine lw_aload_n d_Law_law_876 rfl rfl ?_
  refine lw_aload_n d_Law_law_877 rfl rfl ?_
  refine lw_iload_n d_Law_law_878 rfl rfl ?_
  refine lw_iconst (x := nI 1) d_Law_law_879 rfl ?_
  refine lw_iadd d_Law_law_880 (nI_add _ _) ?_
  refine lw_iaX d_Law_law_881 (by omega) (by omega) ?_
  refine lw_aload_n d_Law_law_882 rfl rfl ?_
  refine lw_iload_n d_Law_law_883 rfl rfl ?_
  refine lw_iconst (x := nI 2) d_Law_law_884 rfl ?_
  refine lw_iadd d_Law_law_885 (nI_add _ _) ?_
  refine lw_iaX d_Law_law_886 (by omega) (by omega) ?_
  refine lw_invV d_Law_law_887 ow_Law lk_9_100 (by decide) mi_Fo_fears rfl rfl (Nat.le_of_ble_eq_true rfl) rfl (wp_isC (O_0 _)) (show 100 ≤ 200 from by decide) ?_
  refine cl_imp K ?_
  rintro _ S1 ⟨v, rfl, K2⟩
  refine lw_Ki ?_
  refine lw_aload_n d_Law_law_890 rfl rfl ?_
  refine lw_aload_n d_Law_law_891 rfl rfl ?_
  refine lw_iload_n d_Law_law_892 rfl rfl ?_
  refine lw_iconst (x := nI 1) d_Law_law_893 rfl ?_
  refine lw_iadd d_Law_law_894 (nI_add _ _) ?_
  refine lw_iaX d_Law_law_895 (by omega) (by omega) ?_
  refine lw_aload_n d_Law_law_896 rfl rfl ?_
  refine lw_iload_n d_Law_law_897 rfl rfl ?_
  refine lw_iconst (x := nI 2) d_Law_law_898 rfl ?_
  refine lw_iadd d_Law_law_899 (nI_add _ _) ?_
  refine lw_iaX d_Law_law_900 (by omega) (by omega) ?_
  refine lw_invV d_Law_law_901 ow_Law lk_9_103 (by decide) mi_Mo_fears rfl rfl (Nat.le_of_ble_eq_true rfl) rfl (wp_isC (O_91 _)) (show 100 ≤ 200 from by decide) ?_
  refine cl_imp K2 ?_
  rintro _ S2 ⟨rfl, K3⟩
  refine lw_Ki ?_
  exact lw_ic_eq (pc' := 1368) d_Law_law_904 (by decide) (fun _ => lw_nx K3) (fun z => absurd rfl z)
theorem lw_c21 (hL : L ≤ 3072) (hi : i + 6 ≤ L) (K : lP y_Fo_silence y_Mo_silence [.int (xs (i + 1)), .int (xs (i + 2))] (fun S2 => lw (some (L, xs)) 200 y_Law_law 18 (lL (i + 6)) [] S2) S) : lw (some (L, xs)) 200 y_Law_law 909 (lL i) [] S := by
  refine lw_aload_n d_Law_law_909 rfl rfl ?_
  refine lw_aload_n d_Law_law_910 rfl rfl ?_
  refine lw_iload_n d_Law_law_911 rfl rfl ?_
  refine lw_iconst (x := nI 1) d_Law_law_912 rfl ?_
  refine lw_iadd d_Law_law_913 (nI_add _ _) ?_
  refine lw_iaX d_Law_law_914 (by omega) (by omega) ?_
  refine lw_aload_n d_Law_law_915 rfl rfl ?_
  refine lw_iload_n d_Law_law_916 rfl rfl ?_
  refine lw_iconst (x := nI 2) d_Law_law_917 rfl ?_
  refine lw_iadd d_Law_law_918 (nI_add _ _) ?_
  refine lw_iaX d_Law_law_919 (by omega) (by omega) ?_
  refine lw_invV d_Law_law_920 ow_Law lk_9_104 (by decide) mi_Fo_silence rfl rfl (Nat.le_of_ble_eq_true rfl) rfl (wp_isC (O_0 _)) (show 100 ≤ 200 from by decide) ?_
  refine cl_imp K ?_
  rintro _ S1 ⟨v, rfl, K2⟩
  refine lw_Ki ?_
  refine lw_aload_n d_Law_law_923 rfl rfl ?_
  refine lw_aload_n d_Law_law_924 rfl rfl ?_
  refine lw_iload_n d_Law_law_925 rfl rfl ?_
  refine lw_iconst (x := nI 1) d_Law_law_926 rfl ?_
  refine lw_iadd d_Law_law_927 (nI_add _ _) ?_
  refine lw_iaX d_Law_law_928 (by omega) (by omega) ?_
  refine lw_aload_n d_Law_law_929 rfl rfl ?_
  refine lw_iload_n d_Law_law_930 rfl rfl ?_
  refine lw_iconst (x := nI 2) d_Law_law_931 rfl ?_
  refine lw_iadd d_Law_law_932 (nI_add _ _) ?_
  refine lw_iaX d_Law_law_933 (by omega) (by omega) ?_
  refine lw_invV d_Law_law_934 ow_Law lk_9_107 (by decide) mi_Mo_silence rfl rfl (Nat.le_of_ble_eq_true rfl) rfl (wp_isC (O_91 _)) (show 100 ≤ 200 from by decide) ?_
  refine cl_imp K2 ?_
  rintro _ S2 ⟨rfl, K3⟩
  refine lw_Ki ?_
  exact lw_ic_eq (pc' := 1368) d_Law_law_937 (by decide) (fun _ => lw_nx K3) (fun z => absurd rfl z)
theorem lw_c22 (hL : L ≤ 3072) (hi : i + 6 ≤ L) (K : cl 100 y_Fo_odds [.ref 0, .int (xs (i + 1)), .int (xs (i + 2))] S (fun r S1 => ∃ v, r = some (.long v) ∧ cl 100 y_Mo_odds [.ref 91, .int (xs (i + 1)), .int (xs (i + 2))] S1 (fun r2 S2 => r2 = some (.long v) ∧ lw (some (L, xs)) 200 y_Law_law 18 (lL (i + 6)) [] S2))) : lw (some (L, xs)) 200 y_Law_law 942 (lL i) [] S := by
  refine lw_aload_n d_Law_law_942 rfl rfl ?_
  refine lw_aload_n d_Law_law_943 rfl rfl ?_
  refine lw_iload_n d_Law_law_944 rfl rfl ?_
  refine lw_iconst (x := nI 1) d_Law_law_945 rfl ?_
  refine lw_iadd d_Law_law_946 (nI_add _ _) ?_
  refine lw_iaX d_Law_law_947 (by omega) (by omega) ?_
  refine lw_aload_n d_Law_law_948 rfl rfl ?_
  refine lw_iload_n d_Law_law_949 rfl rfl ?_
  refine lw_iconst (x := nI 2) d_Law_law_950 rfl ?_
  refine lw_iadd d_Law_law_951 (nI_add _ _) ?_
  refine lw_iaX d_Law_law_952 (by omega) (by omega) ?_
  refine lw_invV d_Law_law_953 ow_Law lk_9_108 (by decide) mi_Fo_odds rfl rfl (Nat.le_of_ble_eq_true rfl) rfl (wp_isC (O_0 _)) (show 100 ≤ 200 from by decide) ?_
  refine cl_imp K ?_
  rintro _ S1 ⟨v, rfl, K2⟩
  refine lw_Kl ?_
  refine lw_aload_n d_Law_law_956 rfl rfl ?_
  refine lw_aload_n d_Law_law_957 rfl rfl ?_
  refine lw_iload_n d_Law_law_958 rfl rfl ?_
  refine lw_iconst (x := nI 1) d_Law_law_959 rfl ?_
  refine lw_iadd d_Law_law_960 (nI_add _ _) ?_
  refine lw_iaX d_Law_law_961 (by omega) (by omega) ?_
  refine lw_aload_n d_Law_law_962 rfl rfl ?_
  refine lw_iload_n d_Law_law_963 rfl rfl ?_
  refine lw_iconst (x := nI 2) d_Law_law_964 rfl ?_
  refine lw_iadd d_Law_law_965 (nI_add _ _) ?_
  refine lw_iaX d_Law_law_966 (by omega) (by omega) ?_
  refine lw_invV d_Law_law_967 ow_Law lk_9_112 (by decide) mi_Mo_odds rfl rfl (Nat.le_of_ble_eq_true rfl) rfl (wp_isC (O_91 _)) (show 100 ≤ 200 from by decide) ?_
  refine cl_imp K2 ?_
  rintro _ S2 ⟨rfl, K3⟩
  refine lw_Kl ?_
  refine lw_lcmp d_Law_law_970 ((lg_cmp_eq _ _).mpr rfl) ?_
  exact lw_if_eq (pc' := 1368) d_Law_law_971 (by decide) (fun _ => lw_nx K3) (fun z => absurd rfl z)
theorem lw_c23 (hL : L ≤ 3072) (hi : i + 6 ≤ L) (K : lP y_Fo_seed y_Mo_seed [.int (xs (i + 1))] (fun S2 => lw (some (L, xs)) 200 y_Law_law 18 (lL (i + 6)) [] S2) S) : lw (some (L, xs)) 200 y_Law_law 976 (lL i) [] S := by
  refine lw_aload_n d_Law_law_976 rfl rfl ?_
  refine lw_aload_n d_Law_law_977 rfl rfl ?_
  refine lw_iload_n d_Law_law_978 rfl rfl ?_
  refine lw_iconst (x := nI 1) d_Law_law_979 rfl ?_
  refine lw_iadd d_Law_law_980 (nI_add _ _) ?_
  refine lw_iaX d_Law_law_981 (by omega) (by omega) ?_
  refine lw_invV d_Law_law_982 ow_Law lk_9_113 (by decide) mi_Fo_seed rfl rfl (Nat.le_of_ble_eq_true rfl) rfl (wp_isC (O_0 _)) (show 100 ≤ 200 from by decide) ?_
  refine cl_imp K ?_
  rintro _ S1 ⟨v, rfl, K2⟩
  refine lw_Ki ?_
  refine lw_aload_n d_Law_law_985 rfl rfl ?_
  refine lw_aload_n d_Law_law_986 rfl rfl ?_
  refine lw_iload_n d_Law_law_987 rfl rfl ?_
  refine lw_iconst (x := nI 1) d_Law_law_988 rfl ?_
  refine lw_iadd d_Law_law_989 (nI_add _ _) ?_
  refine lw_iaX d_Law_law_990 (by omega) (by omega) ?_
  refine lw_invV d_Law_law_991 ow_Law lk_9_116 (by decide) mi_Mo_seed rfl rfl (Nat.le_of_ble_eq_true rfl) rfl (wp_isC (O_91 _)) (show 100 ≤ 200 from by decide) ?_
  refine cl_imp K2 ?_
  rintro _ S2 ⟨rfl, K3⟩
  refine lw_Ki ?_
  exact lw_ic_eq (pc' := 1368) d_Law_law_994 (by decide) (fun _ => lw_nx K3) (fun z => absurd rfl z)
theorem lw_c24 (hL : L ≤ 3072) (hi : i + 6 ≤ L) (K : lP y_Fo_voice y_Mo_voice [.int (xs (i + 1)), .int (xs (i + 2)), .int (xs (i + 3))] (fun S2 => lw (some (L, xs)) 200 y_Law_law 18 (lL (i + 6)) [] S2) S) : lw (some (L, xs)) 200 y_Law_law 999 (lL i) [] S := by
  refine lw_aload_n d_Law_law_999 rfl rfl ?_
  refine lw_aload_n d_Law_law_1000 rfl rfl ?_
  refine lw_iload_n d_Law_law_1001 rfl rfl ?_
  refine lw_iconst (x := nI 1) d_Law_law_1002 rfl ?_
  refine lw_iadd d_Law_law_1003 (nI_add _ _) ?_
  refine lw_iaX d_Law_law_1004 (by omega) (by omega) ?_
  refine lw_aload_n d_Law_law_1005 rfl rfl ?_
  refine lw_iload_n d_Law_law_1006 rfl rfl ?_
  refine lw_iconst (x := nI 2) d_Law_law_1007 rfl ?_
  refine lw_iadd d_Law_law_1008 (nI_add _ _) ?_
  refine lw_iaX d_Law_law_1009 (by omega) (by omega) ?_
  refine lw_aload_n d_Law_law_1010 rfl rfl ?_
  refine lw_iload_n d_Law_law_1011 rfl rfl ?_
  refine lw_iconst (x := nI 3) d_Law_law_1012 rfl ?_
  refine lw_iadd d_Law_law_1013 (nI_add _ _) ?_
  refine lw_iaX d_Law_law_1014 (by omega) (by omega) ?_
  refine lw_invV d_Law_law_1015 ow_Law lk_9_117 (by decide) mi_Fo_voice rfl rfl (Nat.le_of_ble_eq_true rfl) rfl (wp_isC (O_0 _)) (show 100 ≤ 200 from by decide) ?_
  refine cl_imp K ?_
  rintro _ S1 ⟨v, rfl, K2⟩
  refine lw_Ki ?_
  refine lw_aload_n d_Law_law_1018 rfl rfl ?_
  refine lw_aload_n d_Law_law_1019 rfl rfl ?_
  refine lw_iload_n d_Law_law_1020 rfl rfl ?_
  refine lw_iconst (x := nI 1) d_Law_law_1021 rfl ?_
  refine lw_iadd d_Law_law_1022 (nI_add _ _) ?_
  refine lw_iaX d_Law_law_1023 (by omega) (by omega) ?_
  refine lw_aload_n d_Law_law_1024 rfl rfl ?_
  refine lw_iload_n d_Law_law_1025 rfl rfl ?_
  refine lw_iconst (x := nI 2) d_Law_law_1026 rfl ?_
  refine lw_iadd d_Law_law_1027 (nI_add _ _) ?_
  refine lw_iaX d_Law_law_1028 (by omega) (by omega) ?_
  refine lw_aload_n d_Law_law_1029 rfl rfl ?_
  refine lw_iload_n d_Law_law_1030 rfl rfl ?_
  refine lw_iconst (x := nI 3) d_Law_law_1031 rfl ?_
  refine lw_iadd d_Law_law_1032 (nI_add _ _) ?_
  refine lw_iaX d_Law_law_1033 (by omega) (by omega) ?_
  refine lw_invV d_Law_law_1034 ow_Law lk_9_120 (by decide) mi_Mo_voice rfl rfl (Nat.le_of_ble_eq_true rfl) rfl (wp_isC (O_91 _)) (show 100 ≤ 200 from by decide) ?_
  refine cl_imp K2 ?_
  rintro _ S2 ⟨rfl, K3⟩
  refine lw_Ki ?_
  exact lw_ic_eq (pc' := 1368) d_Law_law_1037 (by decide) (fun _ => lw_nx K3) (fun z => absurd rfl z)
theorem lw_c25 (hL : L ≤ 3072) (hi : i + 6 ≤ L) (K : lP y_Fo_trace y_Mo_trace [.int (xs (i + 1))] (fun S2 => lw (some (L, xs)) 200 y_Law_law 18 (lL (i + 6)) [] S2) S) : lw (some (L, xs)) 200 y_Law_law 1042 (lL i) [] S := by
  refine lw_aload_n d_Law_law_1042 rfl rfl ?_
  refine lw_aload_n d_Law_law_1043 rfl rfl ?_
  refine lw_iload_n d_Law_law_1044 rfl rfl ?_
  refine lw_iconst (x := nI 1) d_Law_law_1045 rfl ?_
  refine lw_iadd d_Law_law_1046 (nI_add _ _) ?_
  refine lw_iaX d_Law_law_1047 (by omega) (by omega) ?_
  refine lw_invV d_Law_law_1048 ow_Law lk_9_121 (by decide) mi_Fo_trace rfl rfl (Nat.le_of_ble_eq_true rfl) rfl (wp_isC (O_0 _)) (show 100 ≤ 200 from by decide) ?_
  refine cl_imp K ?_
  rintro _ S1 ⟨v, rfl, K2⟩
  refine lw_Ki ?_
  refine lw_aload_n d_Law_law_1051 rfl rfl ?_
  refine lw_aload_n d_Law_law_1052 rfl rfl ?_
  refine lw_iload_n d_Law_law_1053 rfl rfl ?_
  refine lw_iconst (x := nI 1) d_Law_law_1054 rfl ?_
  refine lw_iadd d_Law_law_1055 (nI_add _ _) ?_
  refine lw_iaX d_Law_law_1056 (by omega) (by omega) ?_
  refine lw_invV d_Law_law_1057 ow_Law lk_9_124 (by decide) mi_Mo_trace rfl rfl (Nat.le_of_ble_eq_true rfl) rfl (wp_isC (O_91 _)) (show 100 ≤ 200 from by decide) ?_
  refine cl_imp K2 ?_
  rintro _ S2 ⟨rfl, K3⟩
  refine lw_Ki ?_
  exact lw_ic_eq (pc' := 1368) d_Law_law_1060 (by decide) (fun _ => lw_nx K3) (fun z => absurd rfl z)
theorem lw_c26 (hL : L ≤ 3072) (hi : i + 6 ≤ L) (K : lP y_Fo_sheet y_Mo_sheet [.int (xs (i + 1)), .int (xs (i + 2)), .int (xs (i + 3))] (fun S2 => lw (some (L, xs)) 200 y_Law_law 18 (lL (i + 6)) [] S2) S) : lw (some (L, xs)) 200 y_Law_law 1065 (lL i) [] S := by
  refine lw_aload_n d_Law_law_1065 rfl rfl ?_
  refine lw_aload_n d_Law_law_1066 rfl rfl ?_
  refine lw_iload_n d_Law_law_1067 rfl rfl ?_
  refine lw_iconst (x := nI 1) d_Law_law_1068 rfl ?_
  refine lw_iadd d_Law_law_1069 (nI_add _ _) ?_
  refine lw_iaX d_Law_law_1070 (by omega) (by omega) ?_
  refine lw_aload_n d_Law_law_1071 rfl rfl ?_
  refine lw_iload_n d_Law_law_1072 rfl rfl ?_
  refine lw_iconst (x := nI 2) d_Law_law_1073 rfl ?_
  refine lw_iadd d_Law_law_1074 (nI_add _ _) ?_
  refine lw_iaX d_Law_law_1075 (by omega) (by omega) ?_
  refine lw_aload_n d_Law_law_1076 rfl rfl ?_
  refine lw_iload_n d_Law_law_1077 rfl rfl ?_
  refine lw_iconst (x := nI 3) d_Law_law_1078 rfl ?_
  refine lw_iadd d_Law_law_1079 (nI_add _ _) ?_
  refine lw_iaX d_Law_law_1080 (by omega) (by omega) ?_
  refine lw_invV d_Law_law_1081 ow_Law lk_9_125 (by decide) mi_Fo_sheet rfl rfl (Nat.le_of_ble_eq_true rfl) rfl (wp_isC (O_0 _)) (show 100 ≤ 200 from by decide) ?_
  refine cl_imp K ?_
  rintro _ S1 ⟨v, rfl, K2⟩
  refine lw_Ki ?_
  refine lw_aload_n d_Law_law_1084 rfl rfl ?_
  refine lw_aload_n d_Law_law_1085 rfl rfl ?_
  refine lw_iload_n d_Law_law_1086 rfl rfl ?_
  refine lw_iconst (x := nI 1) d_Law_law_1087 rfl ?_
  refine lw_iadd d_Law_law_1088 (nI_add _ _) ?_
  refine lw_iaX d_Law_law_1089 (by omega) (by omega) ?_
  refine lw_aload_n d_Law_law_1090 rfl rfl ?_
  refine lw_iload_n d_Law_law_1091 rfl rfl ?_
  refine lw_iconst (x := nI 2) d_Law_law_1092 rfl ?_
  refine lw_iadd d_Law_law_1093 (nI_add _ _) ?_
  refine lw_iaX d_Law_law_1094 (by omega) (by omega) ?_
  refine lw_aload_n d_Law_law_1095 rfl rfl ?_
  refine lw_iload_n d_Law_law_1096 rfl rfl ?_
  refine lw_iconst (x := nI 3) d_Law_law_1097 rfl ?_
  refine lw_iadd d_Law_law_1098 (nI_add _ _) ?_
  refine lw_iaX d_Law_law_1099 (by omega) (by omega) ?_
  refine lw_invV d_Law_law_1100 ow_Law lk_9_128 (by decide) mi_Mo_sheet rfl rfl (Nat.le_of_ble_eq_true rfl) rfl (wp_isC (O_91 _)) (show 100 ≤ 200 from by decide) ?_
  refine cl_imp K2 ?_
  rintro _ S2 ⟨rfl, K3⟩
  refine lw_Ki ?_
  exact lw_ic_eq (pc' := 1368) d_Law_law_1103 (by decide) (fun _ => lw_nx K3) (fun z => absurd rfl z)
theorem lw_c27 (hL : L ≤ 3072) (hi : i + 6 ≤ L) (K : lP y_Fo_put y_Mo_put [.int (xs (i + 1)), .int (xs (i + 2)), .int (xs (i + 3))] (fun S2 => lw (some (L, xs)) 200 y_Law_law 18 (lL (i + 6)) [] S2) S) : lw (some (L, xs)) 200 y_Law_law 1108 (lL i) [] S := by
  refine lw_aload_n d_Law_law_1108 rfl rfl ?_
  refine lw_aload_n d_Law_law_1109 rfl rfl ?_
  refine lw_iload_n d_Law_law_1110 rfl rfl ?_
  refine lw_iconst (x := nI 1) d_Law_law_1111 rfl ?_
  refine lw_iadd d_Law_law_1112 (nI_add _ _) ?_
  refine lw_iaX d_Law_law_1113 (by omega) (by omega) ?_
  refine lw_aload_n d_Law_law_1114 rfl rfl ?_
  refine lw_iload_n d_Law_law_1115 rfl rfl ?_
  refine lw_iconst (x := nI 2) d_Law_law_1116 rfl ?_
  refine lw_iadd d_Law_law_1117 (nI_add _ _) ?_
  refine lw_iaX d_Law_law_1118 (by omega) (by omega) ?_
  refine lw_aload_n d_Law_law_1119 rfl rfl ?_
  refine lw_iload_n d_Law_law_1120 rfl rfl ?_
  refine lw_iconst (x := nI 3) d_Law_law_1121 rfl ?_
  refine lw_iadd d_Law_law_1122 (nI_add _ _) ?_
  refine lw_iaX d_Law_law_1123 (by omega) (by omega) ?_
  refine lw_invV d_Law_law_1124 ow_Law lk_9_129 (by decide) mi_Fo_put rfl rfl (Nat.le_of_ble_eq_true rfl) rfl (wp_isC (O_0 _)) (show 100 ≤ 200 from by decide) ?_
  refine cl_imp K ?_
  rintro _ S1 ⟨v, rfl, K2⟩
  refine lw_Ki ?_
  refine lw_aload_n d_Law_law_1127 rfl rfl ?_
  refine lw_aload_n d_Law_law_1128 rfl rfl ?_
  refine lw_iload_n d_Law_law_1129 rfl rfl ?_
  refine lw_iconst (x := nI 1) d_Law_law_1130 rfl ?_
  refine lw_iadd d_Law_law_1131 (nI_add _ _) ?_
  refine lw_iaX d_Law_law_1132 (by omega) (by omega) ?_
  refine lw_aload_n d_Law_law_1133 rfl rfl ?_
  refine lw_iload_n d_Law_law_1134 rfl rfl ?_
  refine lw_iconst (x := nI 2) d_Law_law_1135 rfl ?_
  refine lw_iadd d_Law_law_1136 (nI_add _ _) ?_
  refine lw_iaX d_Law_law_1137 (by omega) (by omega) ?_
  refine lw_aload_n d_Law_law_1138 rfl rfl ?_
  refine lw_iload_n d_Law_law_1139 rfl rfl ?_
  refine lw_iconst (x := nI 3) d_Law_law_1140 rfl ?_
  refine lw_iadd d_Law_law_1141 (nI_add _ _) ?_
  refine lw_iaX d_Law_law_1142 (by omega) (by omega) ?_
  refine lw_invV d_Law_law_1143 ow_Law lk_9_132 (by decide) mi_Mo_put rfl rfl (Nat.le_of_ble_eq_true rfl) rfl (wp_isC (O_91 _)) (show 100 ≤ 200 from by decide) ?_
  refine cl_imp K2 ?_
  rintro _ S2 ⟨rfl, K3⟩
  refine lw_Ki ?_
  exact lw_ic_eq (pc' := 1368) d_Law_law_1146 (by decide) (fun _ => lw_nx K3) (fun z => absurd rfl z)
theorem lw_c28 (hL : L ≤ 3072) (hi : i + 6 ≤ L) (K : lP y_Fo_move y_Mo_move [.int (xs (i + 1)), .int (xs (i + 2)), .int (xs (i + 3)), .int (xs (i + 4)), .int (xs (i + 5))] (fun S2 => lw (some (L, xs)) 200 y_Law_law 18 (lL (i + 6)) [] S2) S) : lw (some (L, xs)) 200 y_Law_law 1151 (lL i) [] S := by
  refine lw_aload_n d_Law_law_1151 rfl rfl ?_
  refine lw_aload_n d_Law_law_1152 rfl rfl ?_
  refine lw_iload_n d_Law_law_1153 rfl rfl ?_
  refine lw_iconst (x := nI 1) d_Law_law_1154 rfl ?_
  refine lw_iadd d_Law_law_1155 (nI_add _ _) ?_
  refine lw_iaX d_Law_law_1156 (by omega) (by omega) ?_
  refine lw_aload_n d_Law_law_1157 rfl rfl ?_
  refine lw_iload_n d_Law_law_1158 rfl rfl ?_
  refine lw_iconst (x := nI 2) d_Law_law_1159 rfl ?_
  refine lw_iadd d_Law_law_1160 (nI_add _ _) ?_
  refine lw_iaX d_Law_law_1161 (by omega) (by omega) ?_
  refine lw_aload_n d_Law_law_1162 rfl rfl ?_
  refine lw_iload_n d_Law_law_1163 rfl rfl ?_
  refine lw_iconst (x := nI 3) d_Law_law_1164 rfl ?_
  refine lw_iadd d_Law_law_1165 (nI_add _ _) ?_
  refine lw_iaX d_Law_law_1166 (by omega) (by omega) ?_
  refine lw_aload_n d_Law_law_1167 rfl rfl ?_
  refine lw_iload_n d_Law_law_1168 rfl rfl ?_
  refine lw_iconst (x := nI 4) d_Law_law_1169 rfl ?_
  refine lw_iadd d_Law_law_1170 (nI_add _ _) ?_
  refine lw_iaX d_Law_law_1171 (by omega) (by omega) ?_
  refine lw_aload_n d_Law_law_1172 rfl rfl ?_
  refine lw_iload_n d_Law_law_1173 rfl rfl ?_
  refine lw_iconst (x := nI 5) d_Law_law_1174 rfl ?_
  refine lw_iadd d_Law_law_1175 (nI_add _ _) ?_
  refine lw_iaX d_Law_law_1176 (by omega) (by omega) ?_
  refine lw_invV d_Law_law_1177 ow_Law lk_9_133 (by decide) mi_Fo_move rfl rfl (Nat.le_of_ble_eq_true rfl) rfl (wp_isC (O_0 _)) (show 100 ≤ 200 from by decide) ?_
  refine cl_imp K ?_
  rintro _ S1 ⟨v, rfl, K2⟩
  refine lw_Ki ?_
  refine lw_aload_n d_Law_law_1180 rfl rfl ?_
  refine lw_aload_n d_Law_law_1181 rfl rfl ?_
  refine lw_iload_n d_Law_law_1182 rfl rfl ?_
  refine lw_iconst (x := nI 1) d_Law_law_1183 rfl ?_
  refine lw_iadd d_Law_law_1184 (nI_add _ _) ?_
  refine lw_iaX d_Law_law_1185 (by omega) (by omega) ?_
  refine lw_aload_n d_Law_law_1186 rfl rfl ?_
  refine lw_iload_n d_Law_law_1187 rfl rfl ?_
  refine lw_iconst (x := nI 2) d_Law_law_1188 rfl ?_
  refine lw_iadd d_Law_law_1189 (nI_add _ _) ?_
  refine lw_iaX d_Law_law_1190 (by omega) (by omega) ?_
  refine lw_aload_n d_Law_law_1191 rfl rfl ?_
  refine lw_iload_n d_Law_law_1192 rfl rfl ?_
  refine lw_iconst (x := nI 3) d_Law_law_1193 rfl ?_
  refine lw_iadd d_Law_law_1194 (nI_add _ _) ?_
  refine lw_iaX d_Law_law_1195 (by omega) (by omega) ?_
  refine lw_aload_n d_Law_law_1196 rfl rfl ?_
  refine lw_iload_n d_Law_law_1197 rfl rfl ?_
  refine lw_iconst (x := nI 4) d_Law_law_1198 rfl ?_
  refine lw_iadd d_Law_law_1199 (nI_add _ _) ?_
  refine lw_iaX d_Law_law_1200 (by omega) (by omega) ?_
  refine lw_aload_n d_Law_law_1201 rfl rfl ?_
  refine lw_iload_n d_Law_law_1202 rfl rfl ?_
  refine lw_iconst (x := nI 5) d_Law_law_1203 rfl ?_
  refine lw_iadd d_Law_law_1204 (nI_add _ _) ?_
  refine lw_iaX d_Law_law_1205 (by omega) (by omega) ?_
  refine lw_invV d_Law_law_1206 ow_Law lk_9_137 (by decide) mi_Mo_move rfl rfl (Nat.le_of_ble_eq_true rfl) rfl (wp_isC (O_91 _)) (show 100 ≤ 200 from by decide) ?_
  refine cl_imp K2 ?_
  rintro _ S2 ⟨rfl, K3⟩
  refine lw_Ki ?_
  exact lw_ic_eq (pc' := 1368) d_Law_law_1209 (by decide) (fun _ => lw_nx K3) (fun z => absurd rfl z)
theorem lw_c29 (hL : L ≤ 3072) (hi : i + 6 ≤ L) (K : lP y_Fo_acres y_Mo_acres [.int (xs (i + 1))] (fun S2 => lw (some (L, xs)) 200 y_Law_law 18 (lL (i + 6)) [] S2) S) : lw (some (L, xs)) 200 y_Law_law 1214 (lL i) [] S := by
  refine lw_aload_n d_Law_law_1214 rfl rfl ?_
  refine lw_aload_n d_Law_law_1215 rfl rfl ?_
  refine lw_iload_n d_Law_law_1216 rfl rfl ?_
  refine lw_iconst (x := nI 1) d_Law_law_1217 rfl ?_
  refine lw_iadd d_Law_law_1218 (nI_add _ _) ?_
  refine lw_iaX d_Law_law_1219 (by omega) (by omega) ?_
  refine lw_invV d_Law_law_1220 ow_Law lk_9_138 (by decide) mi_Fo_acres rfl rfl (Nat.le_of_ble_eq_true rfl) rfl (wp_isC (O_0 _)) (show 100 ≤ 200 from by decide) ?_
  refine cl_imp K ?_
  rintro _ S1 ⟨v, rfl, K2⟩
  refine lw_Ki ?_
  refine lw_aload_n d_Law_law_1223 rfl rfl ?_
  refine lw_aload_n d_Law_law_1224 rfl rfl ?_
  refine lw_iload_n d_Law_law_1225 rfl rfl ?_
  refine lw_iconst (x := nI 1) d_Law_law_1226 rfl ?_
  refine lw_iadd d_Law_law_1227 (nI_add _ _) ?_
  refine lw_iaX d_Law_law_1228 (by omega) (by omega) ?_
  refine lw_invV d_Law_law_1229 ow_Law lk_9_141 (by decide) mi_Mo_acres rfl rfl (Nat.le_of_ble_eq_true rfl) rfl (wp_isC (O_91 _)) (show 100 ≤ 200 from by decide) ?_
  refine cl_imp K2 ?_
  rintro _ S2 ⟨rfl, K3⟩
  refine lw_Ki ?_
  exact lw_ic_eq (pc' := 1368) d_Law_law_1232 (by decide) (fun _ => lw_nx K3) (fun z => absurd rfl z)
theorem lw_c30 (hL : L ≤ 3072) (hi : i + 6 ≤ L) (K : lP y_Fo_judge y_Mo_judge [.int (xs (i + 1))] (fun S2 => lw (some (L, xs)) 200 y_Law_law 18 (lL (i + 6)) [] S2) S) : lw (some (L, xs)) 200 y_Law_law 1237 (lL i) [] S := by
  refine lw_aload_n d_Law_law_1237 rfl rfl ?_
  refine lw_aload_n d_Law_law_1238 rfl rfl ?_
  refine lw_iload_n d_Law_law_1239 rfl rfl ?_
  refine lw_iconst (x := nI 1) d_Law_law_1240 rfl ?_
  refine lw_iadd d_Law_law_1241 (nI_add _ _) ?_
  refine lw_iaX d_Law_law_1242 (by omega) (by omega) ?_
  refine lw_invV d_Law_law_1243 ow_Law lk_9_142 (by decide) mi_Fo_judge rfl rfl (Nat.le_of_ble_eq_true rfl) rfl (wp_isC (O_0 _)) (show 100 ≤ 200 from by decide) ?_
  refine cl_imp K ?_
  rintro _ S1 ⟨v, rfl, K2⟩
  refine lw_Ki ?_
  refine lw_aload_n d_Law_law_1246 rfl rfl ?_
  refine lw_aload_n d_Law_law_1247 rfl rfl ?_
  refine lw_iload_n d_Law_law_1248 rfl rfl ?_
  refine lw_iconst (x := nI 1) d_Law_law_1249 rfl ?_
  refine lw_iadd d_Law_law_1250 (nI_add _ _) ?_
  refine lw_iaX d_Law_law_1251 (by omega) (by omega) ?_
  refine lw_invV d_Law_law_1252 ow_Law lk_9_145 (by decide) mi_Mo_judge rfl rfl (Nat.le_of_ble_eq_true rfl) rfl (wp_isC (O_91 _)) (show 100 ≤ 200 from by decide) ?_
  refine cl_imp K2 ?_
  rintro _ S2 ⟨rfl, K3⟩
  refine lw_Ki ?_
  exact lw_ic_eq (pc' := 1368) d_Law_law_1255 (by decide) (fun _ => lw_nx K3) (fun z => absurd rfl z)
theorem lw_c31 (hL : L ≤ 3072) (hi : i + 6 ≤ L) (K : lP y_Fo_image y_Mo_image [] (fun S2 => lw (some (L, xs)) 200 y_Law_law 18 (lL (i + 6)) [] S2) S) : lw (some (L, xs)) 200 y_Law_law 1260 (lL i) [] S := by
  refine lw_aload_n d_Law_law_1260 rfl rfl ?_
  refine lw_invV d_Law_law_1261 ow_Law lk_9_146 (by decide) mi_Fo_image rfl rfl (Nat.le_of_ble_eq_true rfl) rfl (wp_isC (O_0 _)) (show 100 ≤ 200 from by decide) ?_
  refine cl_imp K ?_
  rintro _ S1 ⟨v, rfl, K2⟩
  refine lw_Ki ?_
  refine lw_aload_n d_Law_law_1264 rfl rfl ?_
  refine lw_invV d_Law_law_1265 ow_Law lk_9_150 (by decide) mi_Mo_image rfl rfl (Nat.le_of_ble_eq_true rfl) rfl (wp_isC (O_91 _)) (show 100 ≤ 200 from by decide) ?_
  refine cl_imp K2 ?_
  rintro _ S2 ⟨rfl, K3⟩
  refine lw_Ki ?_
  exact lw_ic_eq (pc' := 1368) d_Law_law_1268 (by decide) (fun _ => lw_nx K3) (fun z => absurd rfl z)
theorem lw_c32 (hL : L ≤ 3072) (hi : i + 6 ≤ L) (K : lP y_Fo_restore y_Mo_restore [] (fun S2 => lw (some (L, xs)) 200 y_Law_law 18 (lL (i + 6)) [] S2) S) : lw (some (L, xs)) 200 y_Law_law 1273 (lL i) [] S := by
  refine lw_aload_n d_Law_law_1273 rfl rfl ?_
  refine lw_invV d_Law_law_1274 ow_Law lk_9_151 (by decide) mi_Fo_restore rfl rfl (Nat.le_of_ble_eq_true rfl) rfl (wp_isC (O_0 _)) (show 100 ≤ 200 from by decide) ?_
  refine cl_imp K ?_
  rintro _ S1 ⟨v, rfl, K2⟩
  refine lw_Ki ?_
  refine lw_aload_n d_Law_law_1277 rfl rfl ?_
  refine lw_invV d_Law_law_1278 ow_Law lk_9_154 (by decide) mi_Mo_restore rfl rfl (Nat.le_of_ble_eq_true rfl) rfl (wp_isC (O_91 _)) (show 100 ≤ 200 from by decide) ?_
  refine cl_imp K2 ?_
  rintro _ S2 ⟨rfl, K3⟩
  refine lw_Ki ?_
  exact lw_ic_eq (pc' := 1368) d_Law_law_1281 (by decide) (fun _ => lw_nx K3) (fun z => absurd rfl z)
theorem lw_c33 (hL : L ≤ 3072) (hi : i + 6 ≤ L) (K : lP y_Fo_tell y_Mo_tell [.int (xs (i + 1))] (fun S2 => lw (some (L, xs)) 200 y_Law_law 18 (lL (i + 6)) [] S2) S) : lw (some (L, xs)) 200 y_Law_law 1286 (lL i) [] S := by
  refine lw_aload_n d_Law_law_1286 rfl rfl ?_
  refine lw_aload_n d_Law_law_1287 rfl rfl ?_
  refine lw_iload_n d_Law_law_1288 rfl rfl ?_
  refine lw_iconst (x := nI 1) d_Law_law_1289 rfl ?_
  refine lw_iadd d_Law_law_1290 (nI_add _ _) ?_
  refine lw_iaX d_Law_law_1291 (by omega) (by omega) ?_
  refine lw_invV d_Law_law_1292 ow_Law lk_9_155 (by decide) mi_Fo_tell rfl rfl (Nat.le_of_ble_eq_true rfl) rfl (wp_isC (O_0 _)) (show 100 ≤ 200 from by decide) ?_
  refine cl_imp K ?_
  rintro _ S1 ⟨v, rfl, K2⟩
  refine lw_Ki ?_
  refine lw_aload_n d_Law_law_1295 rfl rfl ?_
  refine lw_aload_n d_Law_law_1296 rfl rfl ?_
  refine lw_iload_n d_Law_law_1297 rfl rfl ?_
  refine lw_iconst (x := nI 1) d_Law_law_1298 rfl ?_
  refine lw_iadd d_Law_law_1299 (nI_add _ _) ?_
  refine lw_iaX d_Law_law_1300 (by omega) (by omega) ?_
  refine lw_invV d_Law_law_1301 ow_Law lk_9_158 (by decide) mi_Mo_tell rfl rfl (Nat.le_of_ble_eq_true rfl) rfl (wp_isC (O_91 _)) (show 100 ≤ 200 from by decide) ?_
  refine cl_imp K2 ?_
  rintro _ S2 ⟨rfl, K3⟩
  refine lw_Ki ?_
  exact lw_ic_eq (pc' := 1368) d_Law_law_1304 (by decide) (fun _ => lw_nx K3) (fun z => absurd rfl z)
theorem lw_c34 (hL : L ≤ 3072) (hi : i + 6 ≤ L) (K : lP y_Fo_check y_Mo_check [] (fun S2 => lw (some (L, xs)) 200 y_Law_law 18 (lL (i + 6)) [] S2) S) : lw (some (L, xs)) 200 y_Law_law 1309 (lL i) [] S := by
  refine lw_aload_n d_Law_law_1309 rfl rfl ?_
  refine lw_invV d_Law_law_1310 ow_Law lk_9_159 (by decide) mi_Fo_check rfl rfl (Nat.le_of_ble_eq_true rfl) rfl (wp_isC (O_0 _)) (show 100 ≤ 200 from by decide) ?_
  refine cl_imp K ?_
  rintro _ S1 ⟨v, rfl, K2⟩
  refine lw_Ki ?_
  refine lw_aload_n d_Law_law_1313 rfl rfl ?_
  refine lw_invV d_Law_law_1314 ow_Law lk_9_162 (by decide) mi_Mo_check rfl rfl (Nat.le_of_ble_eq_true rfl) rfl (wp_isC (O_91 _)) (show 100 ≤ 200 from by decide) ?_
  refine cl_imp K2 ?_
  rintro _ S2 ⟨rfl, K3⟩
  refine lw_Ki ?_
  exact lw_ic_eq (pc' := 1368) d_Law_law_1317 (by decide) (fun _ => lw_nx K3) (fun z => absurd rfl z)
theorem lw_c35 (hL : L ≤ 3072) (hi : i + 6 ≤ L) (K : lP y_Fo_count y_Mo_count [.int (xs (i + 1))] (fun S2 => lw (some (L, xs)) 200 y_Law_law 18 (lL (i + 6)) [] S2) S) : lw (some (L, xs)) 200 y_Law_law 1322 (lL i) [] S := by
  refine lw_aload_n d_Law_law_1322 rfl rfl ?_
  refine lw_aload_n d_Law_law_1323 rfl rfl ?_
  refine lw_iload_n d_Law_law_1324 rfl rfl ?_
  refine lw_iconst (x := nI 1) d_Law_law_1325 rfl ?_
  refine lw_iadd d_Law_law_1326 (nI_add _ _) ?_
  refine lw_iaX d_Law_law_1327 (by omega) (by omega) ?_
  refine lw_invV d_Law_law_1328 ow_Law lk_9_163 (by decide) mi_Fo_count rfl rfl (Nat.le_of_ble_eq_true rfl) rfl (wp_isC (O_0 _)) (show 100 ≤ 200 from by decide) ?_
  refine cl_imp K ?_
  rintro _ S1 ⟨v, rfl, K2⟩
  refine lw_Ki ?_
  refine lw_aload_n d_Law_law_1331 rfl rfl ?_
  refine lw_aload_n d_Law_law_1332 rfl rfl ?_
  refine lw_iload_n d_Law_law_1333 rfl rfl ?_
  refine lw_iconst (x := nI 1) d_Law_law_1334 rfl ?_
  refine lw_iadd d_Law_law_1335 (nI_add _ _) ?_
  refine lw_iaX d_Law_law_1336 (by omega) (by omega) ?_
  refine lw_invV d_Law_law_1337 ow_Law lk_9_166 (by decide) mi_Mo_count rfl rfl (Nat.le_of_ble_eq_true rfl) rfl (wp_isC (O_91 _)) (show 100 ≤ 200 from by decide) ?_
  refine cl_imp K2 ?_
  rintro _ S2 ⟨rfl, K3⟩
  refine lw_Ki ?_
  exact lw_ic_eq (pc' := 1368) d_Law_law_1340 (by decide) (fun _ => lw_nx K3) (fun z => absurd rfl z)
theorem lw_c36 (hL : L ≤ 3072) (hi : i + 6 ≤ L) (K : lP y_Fo_told y_Mo_told [.int (xs (i + 1))] (fun S2 => lw (some (L, xs)) 200 y_Law_law 18 (lL (i + 6)) [] S2) S) : lw (some (L, xs)) 200 y_Law_law 1345 (lL i) [] S := by
  refine lw_aload_n d_Law_law_1345 rfl rfl ?_
  refine lw_aload_n d_Law_law_1346 rfl rfl ?_
  refine lw_iload_n d_Law_law_1347 rfl rfl ?_
  refine lw_iconst (x := nI 1) d_Law_law_1348 rfl ?_
  refine lw_iadd d_Law_law_1349 (nI_add _ _) ?_
  refine lw_iaX d_Law_law_1350 (by omega) (by omega) ?_
  refine lw_invV d_Law_law_1351 ow_Law lk_9_167 (by decide) mi_Fo_told rfl rfl (Nat.le_of_ble_eq_true rfl) rfl (wp_isC (O_0 _)) (show 100 ≤ 200 from by decide) ?_
  refine cl_imp K ?_
  rintro _ S1 ⟨v, rfl, K2⟩
  refine lw_Ki ?_
  refine lw_aload_n d_Law_law_1354 rfl rfl ?_
  refine lw_aload_n d_Law_law_1355 rfl rfl ?_
  refine lw_iload_n d_Law_law_1356 rfl rfl ?_
  refine lw_iconst (x := nI 1) d_Law_law_1357 rfl ?_
  refine lw_iadd d_Law_law_1358 (nI_add _ _) ?_
  refine lw_iaX d_Law_law_1359 (by omega) (by omega) ?_
  refine lw_invV d_Law_law_1360 ow_Law lk_9_170 (by decide) mi_Mo_told rfl rfl (Nat.le_of_ble_eq_true rfl) rfl (wp_isC (O_91 _)) (show 100 ≤ 200 from by decide) ?_
  refine cl_imp K2 ?_
  rintro _ S2 ⟨rfl, K3⟩
  refine lw_Ki ?_
  exact lw_ic_eq (pc' := 1368) d_Law_law_1363 (by decide) (fun _ => lw_nx K3) (fun z => absurd rfl z)
end LC
