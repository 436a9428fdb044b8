/-! the law: calls 0 to 6 -/
theorem dL_law_248 : decode cL_law 248 = .ok (.aload_n 1, 1) := by decide +kernel
theorem dL_law_249 : decode cL_law 249 = .ok (.aload_n 0, 1) := by decide +kernel
theorem dL_law_250 : decode cL_law 250 = .ok (.iload_n 3, 1) := by decide +kernel
theorem dL_law_251 : decode cL_law 251 = .ok (.iconst 1, 1) := by decide +kernel
theorem dL_law_252 : decode cL_law 252 = .ok (.iadd, 1) := by decide +kernel
theorem dL_law_253 : decode cL_law 253 = .ok (.iaload, 1) := by decide +kernel
theorem dL_law_254 : decode cL_law 254 = .ok (.invokevirtual 13, 3) := by decide +kernel
theorem dL_law_257 : decode cL_law 257 = .ok (.aload_n 2, 1) := by decide +kernel
theorem dL_law_258 : decode cL_law 258 = .ok (.aload_n 0, 1) := by decide +kernel
theorem dL_law_259 : decode cL_law 259 = .ok (.iload_n 3, 1) := by decide +kernel
theorem dL_law_260 : decode cL_law 260 = .ok (.iconst 1, 1) := by decide +kernel
theorem dL_law_261 : decode cL_law 261 = .ok (.iadd, 1) := by decide +kernel
theorem dL_law_262 : decode cL_law 262 = .ok (.iaload, 1) := by decide +kernel
theorem dL_law_263 : decode cL_law 263 = .ok (.invokevirtual 17, 3) := by decide +kernel
theorem dL_law_266 : decode cL_law 266 = .ok (.if_icmp .eq 1813, 3) := by decide +kernel
set_option maxHeartbeats 400000 in
set_option maxRecDepth 20000 in
theorem law_0 {E : EV} (hE : EOK E) {q v0 : Nat} (hXS : EXS E q v0) {X : TX} {b L : Nat} {xs : Nat → Int32} (h : CX E X cL_law RL ret room_1 4) (hX : LX X b L xs) (hL : L ≤ 3072) {z : Int} (h0 : 0 ≤ z) (h1 : z ≤ L - 6) {A : AS} (K : ∀ A2 : AS, JL E (LQP E) X 2079 [(3, .int (iI z)), (2, eA E 76), (1, eA E 74), (0, .ref b)] [] (A2, A2)) : JL E (LQP E) X 248 [(3, .int (iI z)), (2, eA E 76), (1, eA E 74), (0, .ref b)] [] (A, A) := by
  refine j_aload_n h 2 dL_law_248 rfl rfl ?_
  refine j_aload_n h 3 dL_law_249 rfl rfl ?_
  refine j_iload_n h 0 dL_law_250 rfl rfl ?_
  refine j_iconst h dL_law_251 ?_
  refine j_iadd h dL_law_252 ?_
  refine j_sld h hX hL (by omega) (by omega) dL_law_253 ?_
  refine j_callV h (ct_L (fun g0 => p_wipe hE (okI_of (xs (z + 1).toNat)))) m_X3_wipe a_l_L_13 rfl rfl ⟨Nat.le_of_ble_eq_true rfl, Nat.le_of_ble_eq_true rfl⟩ (ci := 3) rfl (by omega) rcL3 rfl rfl (Nat.le_of_ble_eq_true rfl) dL_law_254 ?_
  refine j_aload_n h 1 dL_law_257 rfl rfl ?_
  refine j_aload_n h 3 dL_law_258 rfl rfl ?_
  refine j_iload_n h 0 dL_law_259 rfl rfl ?_
  refine j_iconst h dL_law_260 ?_
  refine j_iadd h dL_law_261 ?_
  refine j_sld h hX hL (by omega) (by omega) dL_law_262 ?_
  refine j_callV h (ct_R (fun g0 => q_wipe hE (okI_of (xs (z + 1).toNat)))) m_X4_wipe a_l_L_17 rfl rfl ⟨Nat.le_of_ble_eq_true rfl, Nat.le_of_ble_eq_true rfl⟩ (ci := 4) rfl (by omega) rcL4 rfl rfl (Nat.le_of_ble_eq_true rfl) dL_law_263 ?_
  exact j_rcmp_eq h 2079 dL_law_266 (by decide) (fun _ => K _) (fun w => absurd rfl w)
theorem dL_law_271 : decode cL_law 271 = .ok (.aload_n 1, 1) := by decide +kernel
theorem dL_law_272 : decode cL_law 272 = .ok (.aload_n 0, 1) := by decide +kernel
theorem dL_law_273 : decode cL_law 273 = .ok (.iload_n 3, 1) := by decide +kernel
theorem dL_law_274 : decode cL_law 274 = .ok (.iconst 1, 1) := by decide +kernel
theorem dL_law_275 : decode cL_law 275 = .ok (.iadd, 1) := by decide +kernel
theorem dL_law_276 : decode cL_law 276 = .ok (.iaload, 1) := by decide +kernel
theorem dL_law_277 : decode cL_law 277 = .ok (.aload_n 0, 1) := by decide +kernel
theorem dL_law_278 : decode cL_law 278 = .ok (.iload_n 3, 1) := by decide +kernel
theorem dL_law_279 : decode cL_law 279 = .ok (.iconst 2, 1) := by decide +kernel
theorem dL_law_280 : decode cL_law 280 = .ok (.iadd, 1) := by decide +kernel
theorem dL_law_281 : decode cL_law 281 = .ok (.iaload, 1) := by decide +kernel
theorem dL_law_282 : decode cL_law 282 = .ok (.invokevirtual 18, 3) := by decide +kernel
theorem dL_law_285 : decode cL_law 285 = .ok (.aload_n 2, 1) := by decide +kernel
theorem dL_law_286 : decode cL_law 286 = .ok (.aload_n 0, 1) := by decide +kernel
theorem dL_law_287 : decode cL_law 287 = .ok (.iload_n 3, 1) := by decide +kernel
theorem dL_law_288 : decode cL_law 288 = .ok (.iconst 1, 1) := by decide +kernel
theorem dL_law_289 : decode cL_law 289 = .ok (.iadd, 1) := by decide +kernel
theorem dL_law_290 : decode cL_law 290 = .ok (.iaload, 1) := by decide +kernel
theorem dL_law_291 : decode cL_law 291 = .ok (.aload_n 0, 1) := by decide +kernel
theorem dL_law_292 : decode cL_law 292 = .ok (.iload_n 3, 1) := by decide +kernel
theorem dL_law_293 : decode cL_law 293 = .ok (.iconst 2, 1) := by decide +kernel
theorem dL_law_294 : decode cL_law 294 = .ok (.iadd, 1) := by decide +kernel
theorem dL_law_295 : decode cL_law 295 = .ok (.iaload, 1) := by decide +kernel
theorem dL_law_296 : decode cL_law 296 = .ok (.invokevirtual 22, 3) := by decide +kernel
theorem dL_law_299 : decode cL_law 299 = .ok (.if_icmp .eq 1780, 3) := by decide +kernel
set_option maxHeartbeats 400000 in
set_option maxRecDepth 20000 in
theorem law_1 {E : EV} (hE : EOK E) {q v0 : Nat} (hXS : EXS E q v0) {X : TX} {b L : Nat} {xs : Nat → Int32} (h : CX E X cL_law RL ret room_1 4) (hX : LX X b L xs) (hL : L ≤ 3072) {z : Int} (h0 : 0 ≤ z) (h1 : z ≤ L - 6) {A : AS} (K : ∀ A2 : AS, JL E (LQP E) X 2079 [(3, .int (iI z)), (2, eA E 76), (1, eA E 74), (0, .ref b)] [] (A2, A2)) : JL E (LQP E) X 271 [(3, .int (iI z)), (2, eA E 76), (1, eA E 74), (0, .ref b)] [] (A, A) := by
  refine j_aload_n h 2 dL_law_271 rfl rfl ?_
  refine j_aload_n h 3 dL_law_272 rfl rfl ?_
  refine j_iload_n h 0 dL_law_273 rfl rfl ?_
  refine j_iconst h dL_law_274 ?_
  refine j_iadd h dL_law_275 ?_
  refine j_sld h hX hL (by omega) (by omega) dL_law_276 ?_
  refine j_aload_n h 3 dL_law_277 rfl rfl ?_
  refine j_iload_n h 0 dL_law_278 rfl rfl ?_
  refine j_iconst h dL_law_279 ?_
  refine j_iadd h dL_law_280 ?_
  refine j_sld h hX hL (by omega) (by omega) dL_law_281 ?_
  refine j_callV h (ct_L (fun g0 => p_type hE (okI_of (xs (z + 1).toNat)) (okI_of (xs (z + 2).toNat)))) m_X3_type a_l_L_18 rfl rfl ⟨Nat.le_of_ble_eq_true rfl, Nat.le_of_ble_eq_true rfl⟩ (ci := 3) rfl (by omega) rcL3 rfl rfl (Nat.le_of_ble_eq_true rfl) dL_law_282 ?_
  refine j_aload_n h 1 dL_law_285 rfl rfl ?_
  refine j_aload_n h 3 dL_law_286 rfl rfl ?_
  refine j_iload_n h 0 dL_law_287 rfl rfl ?_
  refine j_iconst h dL_law_288 ?_
  refine j_iadd h dL_law_289 ?_
  refine j_sld h hX hL (by omega) (by omega) dL_law_290 ?_
  refine j_aload_n h 3 dL_law_291 rfl rfl ?_
  refine j_iload_n h 0 dL_law_292 rfl rfl ?_
  refine j_iconst h dL_law_293 ?_
  refine j_iadd h dL_law_294 ?_
  refine j_sld h hX hL (by omega) (by omega) dL_law_295 ?_
  refine j_callV h (ct_R (fun g0 => q_type hE (okI_of (xs (z + 1).toNat)) (okI_of (xs (z + 2).toNat)))) m_X4_type a_l_L_22 rfl rfl ⟨Nat.le_of_ble_eq_true rfl, Nat.le_of_ble_eq_true rfl⟩ (ci := 4) rfl (by omega) rcL4 rfl rfl (Nat.le_of_ble_eq_true rfl) dL_law_296 ?_
  exact j_rcmp_eq h 2079 dL_law_299 (by decide) (fun _ => K _) (fun w => absurd rfl w)
theorem dL_law_304 : decode cL_law 304 = .ok (.aload_n 1, 1) := by decide +kernel
theorem dL_law_305 : decode cL_law 305 = .ok (.aload_n 0, 1) := by decide +kernel
theorem dL_law_306 : decode cL_law 306 = .ok (.iload_n 3, 1) := by decide +kernel
theorem dL_law_307 : decode cL_law 307 = .ok (.iconst 1, 1) := by decide +kernel
theorem dL_law_308 : decode cL_law 308 = .ok (.iadd, 1) := by decide +kernel
theorem dL_law_309 : decode cL_law 309 = .ok (.iaload, 1) := by decide +kernel
theorem dL_law_310 : decode cL_law 310 = .ok (.aload_n 0, 1) := by decide +kernel
theorem dL_law_311 : decode cL_law 311 = .ok (.iload_n 3, 1) := by decide +kernel
theorem dL_law_312 : decode cL_law 312 = .ok (.iconst 2, 1) := by decide +kernel
theorem dL_law_313 : decode cL_law 313 = .ok (.iadd, 1) := by decide +kernel
theorem dL_law_314 : decode cL_law 314 = .ok (.iaload, 1) := by decide +kernel
theorem dL_law_315 : decode cL_law 315 = .ok (.i2l, 1) := by decide +kernel
theorem dL_law_316 : decode cL_law 316 = .ok (.bipush 32, 2) := by decide +kernel
theorem dL_law_318 : decode cL_law 318 = .ok (.lshl, 1) := by decide +kernel
theorem dL_law_319 : decode cL_law 319 = .ok (.aload_n 0, 1) := by decide +kernel
theorem dL_law_320 : decode cL_law 320 = .ok (.iload_n 3, 1) := by decide +kernel
theorem dL_law_321 : decode cL_law 321 = .ok (.iconst 3, 1) := by decide +kernel
theorem dL_law_322 : decode cL_law 322 = .ok (.iadd, 1) := by decide +kernel
theorem dL_law_323 : decode cL_law 323 = .ok (.iaload, 1) := by decide +kernel
theorem dL_law_324 : decode cL_law 324 = .ok (.i2l, 1) := by decide +kernel
theorem dL_law_325 : decode cL_law 325 = .ok (.ldc2_w 23, 3) := by decide +kernel
theorem dL_law_328 : decode cL_law 328 = .ok (.land, 1) := by decide +kernel
theorem dL_law_329 : decode cL_law 329 = .ok (.lor, 1) := by decide +kernel
theorem dL_law_330 : decode cL_law 330 = .ok (.aload_n 0, 1) := by decide +kernel
theorem dL_law_331 : decode cL_law 331 = .ok (.iload_n 3, 1) := by decide +kernel
theorem dL_law_332 : decode cL_law 332 = .ok (.iconst 4, 1) := by decide +kernel
theorem dL_law_333 : decode cL_law 333 = .ok (.iadd, 1) := by decide +kernel
theorem dL_law_334 : decode cL_law 334 = .ok (.iaload, 1) := by decide +kernel
theorem dL_law_335 : decode cL_law 335 = .ok (.invokevirtual 25, 3) := by decide +kernel
theorem dL_law_338 : decode cL_law 338 = .ok (.aload_n 2, 1) := by decide +kernel
theorem dL_law_339 : decode cL_law 339 = .ok (.aload_n 0, 1) := by decide +kernel
theorem dL_law_340 : decode cL_law 340 = .ok (.iload_n 3, 1) := by decide +kernel
theorem dL_law_341 : decode cL_law 341 = .ok (.iconst 1, 1) := by decide +kernel
theorem dL_law_342 : decode cL_law 342 = .ok (.iadd, 1) := by decide +kernel
theorem dL_law_343 : decode cL_law 343 = .ok (.iaload, 1) := by decide +kernel
theorem dL_law_344 : decode cL_law 344 = .ok (.aload_n 0, 1) := by decide +kernel
theorem dL_law_345 : decode cL_law 345 = .ok (.iload_n 3, 1) := by decide +kernel
theorem dL_law_346 : decode cL_law 346 = .ok (.iconst 2, 1) := by decide +kernel
theorem dL_law_347 : decode cL_law 347 = .ok (.iadd, 1) := by decide +kernel
theorem dL_law_348 : decode cL_law 348 = .ok (.iaload, 1) := by decide +kernel
theorem dL_law_349 : decode cL_law 349 = .ok (.i2l, 1) := by decide +kernel
theorem dL_law_350 : decode cL_law 350 = .ok (.bipush 32, 2) := by decide +kernel
theorem dL_law_352 : decode cL_law 352 = .ok (.lshl, 1) := by decide +kernel
theorem dL_law_353 : decode cL_law 353 = .ok (.aload_n 0, 1) := by decide +kernel
theorem dL_law_354 : decode cL_law 354 = .ok (.iload_n 3, 1) := by decide +kernel
theorem dL_law_355 : decode cL_law 355 = .ok (.iconst 3, 1) := by decide +kernel
theorem dL_law_356 : decode cL_law 356 = .ok (.iadd, 1) := by decide +kernel
theorem dL_law_357 : decode cL_law 357 = .ok (.iaload, 1) := by decide +kernel
theorem dL_law_358 : decode cL_law 358 = .ok (.i2l, 1) := by decide +kernel
theorem dL_law_359 : decode cL_law 359 = .ok (.ldc2_w 23, 3) := by decide +kernel
theorem dL_law_362 : decode cL_law 362 = .ok (.land, 1) := by decide +kernel
theorem dL_law_363 : decode cL_law 363 = .ok (.lor, 1) := by decide +kernel
theorem dL_law_364 : decode cL_law 364 = .ok (.aload_n 0, 1) := by decide +kernel
theorem dL_law_365 : decode cL_law 365 = .ok (.iload_n 3, 1) := by decide +kernel
theorem dL_law_366 : decode cL_law 366 = .ok (.iconst 4, 1) := by decide +kernel
theorem dL_law_367 : decode cL_law 367 = .ok (.iadd, 1) := by decide +kernel
theorem dL_law_368 : decode cL_law 368 = .ok (.iaload, 1) := by decide +kernel
theorem dL_law_369 : decode cL_law 369 = .ok (.invokevirtual 29, 3) := by decide +kernel
theorem dL_law_372 : decode cL_law 372 = .ok (.if_icmp .eq 1707, 3) := by decide +kernel
set_option maxHeartbeats 400000 in
set_option maxRecDepth 20000 in
theorem law_2 {E : EV} (hE : EOK E) {q v0 : Nat} (hXS : EXS E q v0) {X : TX} {b L : Nat} {xs : Nat → Int32} (h : CX E X cL_law RL ret room_1 4) (hX : LX X b L xs) (hL : L ≤ 3072) {z : Int} (h0 : 0 ≤ z) (h1 : z ≤ L - 6) {A : AS} (K : ∀ A2 : AS, JL E (LQP E) X 2079 [(3, .int (iI z)), (2, eA E 76), (1, eA E 74), (0, .ref b)] [] (A2, A2)) : JL E (LQP E) X 304 [(3, .int (iI z)), (2, eA E 76), (1, eA E 74), (0, .ref b)] [] (A, A) := by
  refine j_aload_n h 2 dL_law_304 rfl rfl ?_
  refine j_aload_n h 3 dL_law_305 rfl rfl ?_
  refine j_iload_n h 0 dL_law_306 rfl rfl ?_
  refine j_iconst h dL_law_307 ?_
  refine j_iadd h dL_law_308 ?_
  refine j_sld h hX hL (by omega) (by omega) dL_law_309 ?_
  refine j_aload_n h 3 dL_law_310 rfl rfl ?_
  refine j_iload_n h 0 dL_law_311 rfl rfl ?_
  refine j_iconst h dL_law_312 ?_
  refine j_iadd h dL_law_313 ?_
  refine j_sld h hX hL (by omega) (by omega) dL_law_314 ?_
  refine j_i2l h _ dL_law_315 rfl ?_
  refine j_bipush h dL_law_316 (by decide) ?_
  refine j_lshl h _ dL_law_318 rfl ?_
  refine j_aload_n h 3 dL_law_319 rfl rfl ?_
  refine j_iload_n h 0 dL_law_320 rfl rfl ?_
  refine j_iconst h dL_law_321 ?_
  refine j_iadd h dL_law_322 ?_
  refine j_sld h hX hL (by omega) (by omega) dL_law_323 ?_
  refine j_i2l h _ dL_law_324 rfl ?_
  refine j_ldc2 h (4294967295) a_k_L_23 (by decide) dL_law_325 ?_
  refine j_land h _ dL_law_328 rfl ?_
  refine j_lor h _ dL_law_329 rfl ?_
  refine j_aload_n h 3 dL_law_330 rfl rfl ?_
  refine j_iload_n h 0 dL_law_331 rfl rfl ?_
  refine j_iconst h dL_law_332 ?_
  refine j_iadd h dL_law_333 ?_
  refine j_sld h hX hL (by omega) (by omega) dL_law_334 ?_
  refine j_callV h (ct_L (fun g0 => p_feed hE (okI_of (xs (z + 1).toNat)) (okI_of (xs (z + 4).toNat)))) m_X3_feed a_l_L_25 rfl rfl ⟨Nat.le_of_ble_eq_true rfl, Nat.le_of_ble_eq_true rfl⟩ (ci := 3) rfl (by omega) rcL3 rfl rfl (Nat.le_of_ble_eq_true rfl) dL_law_335 ?_
  refine j_aload_n h 1 dL_law_338 rfl rfl ?_
  refine j_aload_n h 3 dL_law_339 rfl rfl ?_
  refine j_iload_n h 0 dL_law_340 rfl rfl ?_
  refine j_iconst h dL_law_341 ?_
  refine j_iadd h dL_law_342 ?_
  refine j_sld h hX hL (by omega) (by omega) dL_law_343 ?_
  refine j_aload_n h 3 dL_law_344 rfl rfl ?_
  refine j_iload_n h 0 dL_law_345 rfl rfl ?_
  refine j_iconst h dL_law_346 ?_
  refine j_iadd h dL_law_347 ?_
  refine j_sld h hX hL (by omega) (by omega) dL_law_348 ?_
  refine j_i2l h _ dL_law_349 rfl ?_
  refine j_bipush h dL_law_350 (by decide) ?_
  refine j_lshl h _ dL_law_352 rfl ?_
  refine j_aload_n h 3 dL_law_353 rfl rfl ?_
  refine j_iload_n h 0 dL_law_354 rfl rfl ?_
  refine j_iconst h dL_law_355 ?_
  refine j_iadd h dL_law_356 ?_
  refine j_sld h hX hL (by omega) (by omega) dL_law_357 ?_
  refine j_i2l h _ dL_law_358 rfl ?_
  refine j_ldc2 h (4294967295) a_k_L_23 (by decide) dL_law_359 ?_
  refine j_land h _ dL_law_362 rfl ?_
  refine j_lor h _ dL_law_363 rfl ?_
  refine j_aload_n h 3 dL_law_364 rfl rfl ?_
  refine j_iload_n h 0 dL_law_365 rfl rfl ?_
  refine j_iconst h dL_law_366 ?_
  refine j_iadd h dL_law_367 ?_
  refine j_sld h hX hL (by omega) (by omega) dL_law_368 ?_
  refine j_callV h (ct_R (fun g0 => q_feed hE (okI_of (xs (z + 1).toNat)) (okI_of (xs (z + 4).toNat)))) m_X4_feed a_l_L_29 rfl rfl ⟨Nat.le_of_ble_eq_true rfl, Nat.le_of_ble_eq_true rfl⟩ (ci := 4) rfl (by omega) rcL4 rfl rfl (Nat.le_of_ble_eq_true rfl) dL_law_369 ?_
  exact j_rcmp_eq h 2079 dL_law_372 (by decide) (fun _ => K _) (fun w => absurd rfl w)
theorem dL_law_377 : decode cL_law 377 = .ok (.aload_n 1, 1) := by decide +kernel
theorem dL_law_378 : decode cL_law 378 = .ok (.aload_n 0, 1) := by decide +kernel
theorem dL_law_379 : decode cL_law 379 = .ok (.iload_n 3, 1) := by decide +kernel
theorem dL_law_380 : decode cL_law 380 = .ok (.iconst 1, 1) := by decide +kernel
theorem dL_law_381 : decode cL_law 381 = .ok (.iadd, 1) := by decide +kernel
theorem dL_law_382 : decode cL_law 382 = .ok (.iaload, 1) := by decide +kernel
theorem dL_law_383 : decode cL_law 383 = .ok (.aload_n 0, 1) := by decide +kernel
theorem dL_law_384 : decode cL_law 384 = .ok (.iload_n 3, 1) := by decide +kernel
theorem dL_law_385 : decode cL_law 385 = .ok (.iconst 2, 1) := by decide +kernel
theorem dL_law_386 : decode cL_law 386 = .ok (.iadd, 1) := by decide +kernel
theorem dL_law_387 : decode cL_law 387 = .ok (.iaload, 1) := by decide +kernel
theorem dL_law_388 : decode cL_law 388 = .ok (.invokevirtual 30, 3) := by decide +kernel
theorem dL_law_391 : decode cL_law 391 = .ok (.aload_n 2, 1) := by decide +kernel
theorem dL_law_392 : decode cL_law 392 = .ok (.aload_n 0, 1) := by decide +kernel
theorem dL_law_393 : decode cL_law 393 = .ok (.iload_n 3, 1) := by decide +kernel
theorem dL_law_394 : decode cL_law 394 = .ok (.iconst 1, 1) := by decide +kernel
theorem dL_law_395 : decode cL_law 395 = .ok (.iadd, 1) := by decide +kernel
theorem dL_law_396 : decode cL_law 396 = .ok (.iaload, 1) := by decide +kernel
theorem dL_law_397 : decode cL_law 397 = .ok (.aload_n 0, 1) := by decide +kernel
theorem dL_law_398 : decode cL_law 398 = .ok (.iload_n 3, 1) := by decide +kernel
theorem dL_law_399 : decode cL_law 399 = .ok (.iconst 2, 1) := by decide +kernel
theorem dL_law_400 : decode cL_law 400 = .ok (.iadd, 1) := by decide +kernel
theorem dL_law_401 : decode cL_law 401 = .ok (.iaload, 1) := by decide +kernel
theorem dL_law_402 : decode cL_law 402 = .ok (.invokevirtual 33, 3) := by decide +kernel
theorem dL_law_405 : decode cL_law 405 = .ok (.if_icmp .eq 1674, 3) := by decide +kernel
set_option maxHeartbeats 400000 in
set_option maxRecDepth 20000 in
theorem law_3 {E : EV} (hE : EOK E) {q v0 : Nat} (hXS : EXS E q v0) {X : TX} {b L : Nat} {xs : Nat → Int32} (h : CX E X cL_law RL ret room_1 4) (hX : LX X b L xs) (hL : L ≤ 3072) {z : Int} (h0 : 0 ≤ z) (h1 : z ≤ L - 6) {A : AS} (K : ∀ A2 : AS, JL E (LQP E) X 2079 [(3, .int (iI z)), (2, eA E 76), (1, eA E 74), (0, .ref b)] [] (A2, A2)) : JL E (LQP E) X 377 [(3, .int (iI z)), (2, eA E 76), (1, eA E 74), (0, .ref b)] [] (A, A) := by
  refine j_aload_n h 2 dL_law_377 rfl rfl ?_
  refine j_aload_n h 3 dL_law_378 rfl rfl ?_
  refine j_iload_n h 0 dL_law_379 rfl rfl ?_
  refine j_iconst h dL_law_380 ?_
  refine j_iadd h dL_law_381 ?_
  refine j_sld h hX hL (by omega) (by omega) dL_law_382 ?_
  refine j_aload_n h 3 dL_law_383 rfl rfl ?_
  refine j_iload_n h 0 dL_law_384 rfl rfl ?_
  refine j_iconst h dL_law_385 ?_
  refine j_iadd h dL_law_386 ?_
  refine j_sld h hX hL (by omega) (by omega) dL_law_387 ?_
  refine j_callV h (ct_L (fun g0 => p_copy hE (okI_of (xs (z + 1).toNat)) (okI_of (xs (z + 2).toNat)))) m_X3_copy a_l_L_30 rfl rfl ⟨Nat.le_of_ble_eq_true rfl, Nat.le_of_ble_eq_true rfl⟩ (ci := 3) rfl (by omega) rcL3 rfl rfl (Nat.le_of_ble_eq_true rfl) dL_law_388 ?_
  refine j_aload_n h 1 dL_law_391 rfl rfl ?_
  refine j_aload_n h 3 dL_law_392 rfl rfl ?_
  refine j_iload_n h 0 dL_law_393 rfl rfl ?_
  refine j_iconst h dL_law_394 ?_
  refine j_iadd h dL_law_395 ?_
  refine j_sld h hX hL (by omega) (by omega) dL_law_396 ?_
  refine j_aload_n h 3 dL_law_397 rfl rfl ?_
  refine j_iload_n h 0 dL_law_398 rfl rfl ?_
  refine j_iconst h dL_law_399 ?_
  refine j_iadd h dL_law_400 ?_
  refine j_sld h hX hL (by omega) (by omega) dL_law_401 ?_
  refine j_callV h (ct_R (fun g0 => q_copy hE (okI_of (xs (z + 1).toNat)) (okI_of (xs (z + 2).toNat)))) m_X4_copy a_l_L_33 rfl rfl ⟨Nat.le_of_ble_eq_true rfl, Nat.le_of_ble_eq_true rfl⟩ (ci := 4) rfl (by omega) rcL4 rfl rfl (Nat.le_of_ble_eq_true rfl) dL_law_402 ?_
  exact j_rcmp_eq h 2079 dL_law_405 (by decide) (fun _ => K _) (fun w => absurd rfl w)
theorem dL_law_410 : decode cL_law 410 = .ok (.aload_n 1, 1) := by decide +kernel
theorem dL_law_411 : decode cL_law 411 = .ok (.aload_n 0, 1) := by decide +kernel
theorem dL_law_412 : decode cL_law 412 = .ok (.iload_n 3, 1) := by decide +kernel
theorem dL_law_413 : decode cL_law 413 = .ok (.iconst 1, 1) := by decide +kernel
theorem dL_law_414 : decode cL_law 414 = .ok (.iadd, 1) := by decide +kernel
theorem dL_law_415 : decode cL_law 415 = .ok (.iaload, 1) := by decide +kernel
theorem dL_law_416 : decode cL_law 416 = .ok (.aload_n 0, 1) := by decide +kernel
theorem dL_law_417 : decode cL_law 417 = .ok (.iload_n 3, 1) := by decide +kernel
theorem dL_law_418 : decode cL_law 418 = .ok (.iconst 2, 1) := by decide +kernel
theorem dL_law_419 : decode cL_law 419 = .ok (.iadd, 1) := by decide +kernel
theorem dL_law_420 : decode cL_law 420 = .ok (.iaload, 1) := by decide +kernel
theorem dL_law_421 : decode cL_law 421 = .ok (.invokevirtual 34, 3) := by decide +kernel
theorem dL_law_424 : decode cL_law 424 = .ok (.aload_n 2, 1) := by decide +kernel
theorem dL_law_425 : decode cL_law 425 = .ok (.aload_n 0, 1) := by decide +kernel
theorem dL_law_426 : decode cL_law 426 = .ok (.iload_n 3, 1) := by decide +kernel
theorem dL_law_427 : decode cL_law 427 = .ok (.iconst 1, 1) := by decide +kernel
theorem dL_law_428 : decode cL_law 428 = .ok (.iadd, 1) := by decide +kernel
theorem dL_law_429 : decode cL_law 429 = .ok (.iaload, 1) := by decide +kernel
theorem dL_law_430 : decode cL_law 430 = .ok (.aload_n 0, 1) := by decide +kernel
theorem dL_law_431 : decode cL_law 431 = .ok (.iload_n 3, 1) := by decide +kernel
theorem dL_law_432 : decode cL_law 432 = .ok (.iconst 2, 1) := by decide +kernel
theorem dL_law_433 : decode cL_law 433 = .ok (.iadd, 1) := by decide +kernel
theorem dL_law_434 : decode cL_law 434 = .ok (.iaload, 1) := by decide +kernel
theorem dL_law_435 : decode cL_law 435 = .ok (.invokevirtual 37, 3) := by decide +kernel
theorem dL_law_438 : decode cL_law 438 = .ok (.if_icmp .eq 1641, 3) := by decide +kernel
set_option maxHeartbeats 400000 in
set_option maxRecDepth 20000 in
theorem law_4 {E : EV} (hE : EOK E) {q v0 : Nat} (hXS : EXS E q v0) {X : TX} {b L : Nat} {xs : Nat → Int32} (h : CX E X cL_law RL ret room_1 4) (hX : LX X b L xs) (hL : L ≤ 3072) {z : Int} (h0 : 0 ≤ z) (h1 : z ≤ L - 6) {A : AS} (K : ∀ A2 : AS, JL E (LQP E) X 2079 [(3, .int (iI z)), (2, eA E 76), (1, eA E 74), (0, .ref b)] [] (A2, A2)) : JL E (LQP E) X 410 [(3, .int (iI z)), (2, eA E 76), (1, eA E 74), (0, .ref b)] [] (A, A) := by
  refine j_aload_n h 2 dL_law_410 rfl rfl ?_
  refine j_aload_n h 3 dL_law_411 rfl rfl ?_
  refine j_iload_n h 0 dL_law_412 rfl rfl ?_
  refine j_iconst h dL_law_413 ?_
  refine j_iadd h dL_law_414 ?_
  refine j_sld h hX hL (by omega) (by omega) dL_law_415 ?_
  refine j_aload_n h 3 dL_law_416 rfl rfl ?_
  refine j_iload_n h 0 dL_law_417 rfl rfl ?_
  refine j_iconst h dL_law_418 ?_
  refine j_iadd h dL_law_419 ?_
  refine j_sld h hX hL (by omega) (by omega) dL_law_420 ?_
  refine j_callV h (ct_L (fun g0 => p_swap hE (okI_of (xs (z + 1).toNat)) (okI_of (xs (z + 2).toNat)))) m_X3_swap a_l_L_34 rfl rfl ⟨Nat.le_of_ble_eq_true rfl, Nat.le_of_ble_eq_true rfl⟩ (ci := 3) rfl (by omega) rcL3 rfl rfl (Nat.le_of_ble_eq_true rfl) dL_law_421 ?_
  refine j_aload_n h 1 dL_law_424 rfl rfl ?_
  refine j_aload_n h 3 dL_law_425 rfl rfl ?_
  refine j_iload_n h 0 dL_law_426 rfl rfl ?_
  refine j_iconst h dL_law_427 ?_
  refine j_iadd h dL_law_428 ?_
  refine j_sld h hX hL (by omega) (by omega) dL_law_429 ?_
  refine j_aload_n h 3 dL_law_430 rfl rfl ?_
  refine j_iload_n h 0 dL_law_431 rfl rfl ?_
  refine j_iconst h dL_law_432 ?_
  refine j_iadd h dL_law_433 ?_
  refine j_sld h hX hL (by omega) (by omega) dL_law_434 ?_
  refine j_callV h (ct_R (fun g0 => q_swap hE (okI_of (xs (z + 1).toNat)) (okI_of (xs (z + 2).toNat)))) m_X4_swap a_l_L_37 rfl rfl ⟨Nat.le_of_ble_eq_true rfl, Nat.le_of_ble_eq_true rfl⟩ (ci := 4) rfl (by omega) rcL4 rfl rfl (Nat.le_of_ble_eq_true rfl) dL_law_435 ?_
  exact j_rcmp_eq h 2079 dL_law_438 (by decide) (fun _ => K _) (fun w => absurd rfl w)
theorem dL_law_443 : decode cL_law 443 = .ok (.aload_n 1, 1) := by decide +kernel
theorem dL_law_444 : decode cL_law 444 = .ok (.aload_n 0, 1) := by decide +kernel
theorem dL_law_445 : decode cL_law 445 = .ok (.iload_n 3, 1) := by decide +kernel
theorem dL_law_446 : decode cL_law 446 = .ok (.iconst 1, 1) := by decide +kernel
theorem dL_law_447 : decode cL_law 447 = .ok (.iadd, 1) := by decide +kernel
theorem dL_law_448 : decode cL_law 448 = .ok (.iaload, 1) := by decide +kernel
theorem dL_law_449 : decode cL_law 449 = .ok (.aload_n 0, 1) := by decide +kernel
theorem dL_law_450 : decode cL_law 450 = .ok (.iload_n 3, 1) := by decide +kernel
theorem dL_law_451 : decode cL_law 451 = .ok (.iconst 2, 1) := by decide +kernel
theorem dL_law_452 : decode cL_law 452 = .ok (.iadd, 1) := by decide +kernel
theorem dL_law_453 : decode cL_law 453 = .ok (.iaload, 1) := by decide +kernel
theorem dL_law_454 : decode cL_law 454 = .ok (.aload_n 0, 1) := by decide +kernel
theorem dL_law_455 : decode cL_law 455 = .ok (.iload_n 3, 1) := by decide +kernel
theorem dL_law_456 : decode cL_law 456 = .ok (.iconst 3, 1) := by decide +kernel
theorem dL_law_457 : decode cL_law 457 = .ok (.iadd, 1) := by decide +kernel
theorem dL_law_458 : decode cL_law 458 = .ok (.iaload, 1) := by decide +kernel
theorem dL_law_459 : decode cL_law 459 = .ok (.invokevirtual 38, 3) := by decide +kernel
theorem dL_law_462 : decode cL_law 462 = .ok (.aload_n 2, 1) := by decide +kernel
theorem dL_law_463 : decode cL_law 463 = .ok (.aload_n 0, 1) := by decide +kernel
theorem dL_law_464 : decode cL_law 464 = .ok (.iload_n 3, 1) := by decide +kernel
theorem dL_law_465 : decode cL_law 465 = .ok (.iconst 1, 1) := by decide +kernel
theorem dL_law_466 : decode cL_law 466 = .ok (.iadd, 1) := by decide +kernel
theorem dL_law_467 : decode cL_law 467 = .ok (.iaload, 1) := by decide +kernel
theorem dL_law_468 : decode cL_law 468 = .ok (.aload_n 0, 1) := by decide +kernel
theorem dL_law_469 : decode cL_law 469 = .ok (.iload_n 3, 1) := by decide +kernel
theorem dL_law_470 : decode cL_law 470 = .ok (.iconst 2, 1) := by decide +kernel
theorem dL_law_471 : decode cL_law 471 = .ok (.iadd, 1) := by decide +kernel
theorem dL_law_472 : decode cL_law 472 = .ok (.iaload, 1) := by decide +kernel
theorem dL_law_473 : decode cL_law 473 = .ok (.aload_n 0, 1) := by decide +kernel
theorem dL_law_474 : decode cL_law 474 = .ok (.iload_n 3, 1) := by decide +kernel
theorem dL_law_475 : decode cL_law 475 = .ok (.iconst 3, 1) := by decide +kernel
theorem dL_law_476 : decode cL_law 476 = .ok (.iadd, 1) := by decide +kernel
theorem dL_law_477 : decode cL_law 477 = .ok (.iaload, 1) := by decide +kernel
theorem dL_law_478 : decode cL_law 478 = .ok (.invokevirtual 42, 3) := by decide +kernel
theorem dL_law_481 : decode cL_law 481 = .ok (.if_icmp .eq 1598, 3) := by decide +kernel
set_option maxHeartbeats 400000 in
set_option maxRecDepth 20000 in
theorem law_5 {E : EV} (hE : EOK E) {q v0 : Nat} (hXS : EXS E q v0) {X : TX} {b L : Nat} {xs : Nat → Int32} (h : CX E X cL_law RL ret room_1 4) (hX : LX X b L xs) (hL : L ≤ 3072) {z : Int} (h0 : 0 ≤ z) (h1 : z ≤ L - 6) {A : AS} (K : ∀ A2 : AS, JL E (LQP E) X 2079 [(3, .int (iI z)), (2, eA E 76), (1, eA E 74), (0, .ref b)] [] (A2, A2)) : JL E (LQP E) X 443 [(3, .int (iI z)), (2, eA E 76), (1, eA E 74), (0, .ref b)] [] (A, A) := by
  refine j_aload_n h 2 dL_law_443 rfl rfl ?_
  refine j_aload_n h 3 dL_law_444 rfl rfl ?_
  refine j_iload_n h 0 dL_law_445 rfl rfl ?_
  refine j_iconst h dL_law_446 ?_
  refine j_iadd h dL_law_447 ?_
  refine j_sld h hX hL (by omega) (by omega) dL_law_448 ?_
  refine j_aload_n h 3 dL_law_449 rfl rfl ?_
  refine j_iload_n h 0 dL_law_450 rfl rfl ?_
  refine j_iconst h dL_law_451 ?_
  refine j_iadd h dL_law_452 ?_
  refine j_sld h hX hL (by omega) (by omega) dL_law_453 ?_
  refine j_aload_n h 3 dL_law_454 rfl rfl ?_
  refine j_iload_n h 0 dL_law_455 rfl rfl ?_
  refine j_iconst h dL_law_456 ?_
  refine j_iadd h dL_law_457 ?_
  refine j_sld h hX hL (by omega) (by omega) dL_law_458 ?_
  refine j_callV h (ct_L (fun g0 => p_concat hE (okI_of (xs (z + 1).toNat)) (okI_of (xs (z + 2).toNat)) (okI_of (xs (z + 3).toNat)))) m_X3_concat a_l_L_38 rfl rfl ⟨Nat.le_of_ble_eq_true rfl, Nat.le_of_ble_eq_true rfl⟩ (ci := 3) rfl (by omega) rcL3 rfl rfl (Nat.le_of_ble_eq_true rfl) dL_law_459 ?_
  refine j_aload_n h 1 dL_law_462 rfl rfl ?_
  refine j_aload_n h 3 dL_law_463 rfl rfl ?_
  refine j_iload_n h 0 dL_law_464 rfl rfl ?_
  refine j_iconst h dL_law_465 ?_
  refine j_iadd h dL_law_466 ?_
  refine j_sld h hX hL (by omega) (by omega) dL_law_467 ?_
  refine j_aload_n h 3 dL_law_468 rfl rfl ?_
  refine j_iload_n h 0 dL_law_469 rfl rfl ?_
  refine j_iconst h dL_law_470 ?_
  refine j_iadd h dL_law_471 ?_
  refine j_sld h hX hL (by omega) (by omega) dL_law_472 ?_
  refine j_aload_n h 3 dL_law_473 rfl rfl ?_
  refine j_iload_n h 0 dL_law_474 rfl rfl ?_
  refine j_iconst h dL_law_475 ?_
  refine j_iadd h dL_law_476 ?_
  refine j_sld h hX hL (by omega) (by omega) dL_law_477 ?_
  refine j_callV h (ct_R (fun g0 => q_concat hE (okI_of (xs (z + 1).toNat)) (okI_of (xs (z + 2).toNat)) (okI_of (xs (z + 3).toNat)))) m_X4_concat a_l_L_42 rfl rfl ⟨Nat.le_of_ble_eq_true rfl, Nat.le_of_ble_eq_true rfl⟩ (ci := 4) rfl (by omega) rcL4 rfl rfl (Nat.le_of_ble_eq_true rfl) dL_law_478 ?_
  exact j_rcmp_eq h 2079 dL_law_481 (by decide) (fun _ => K _) (fun w => absurd rfl w)
theorem dL_law_486 : decode cL_law 486 = .ok (.aload_n 1, 1) := by decide +kernel
theorem dL_law_487 : decode cL_law 487 = .ok (.aload_n 0, 1) := by decide +kernel
theorem dL_law_488 : decode cL_law 488 = .ok (.iload_n 3, 1) := by decide +kernel
theorem dL_law_489 : decode cL_law 489 = .ok (.iconst 1, 1) := by decide +kernel
theorem dL_law_490 : decode cL_law 490 = .ok (.iadd, 1) := by decide +kernel
theorem dL_law_491 : decode cL_law 491 = .ok (.iaload, 1) := by decide +kernel
theorem dL_law_492 : decode cL_law 492 = .ok (.aload_n 0, 1) := by decide +kernel
theorem dL_law_493 : decode cL_law 493 = .ok (.iload_n 3, 1) := by decide +kernel
theorem dL_law_494 : decode cL_law 494 = .ok (.iconst 2, 1) := by decide +kernel
theorem dL_law_495 : decode cL_law 495 = .ok (.iadd, 1) := by decide +kernel
theorem dL_law_496 : decode cL_law 496 = .ok (.iaload, 1) := by decide +kernel
theorem dL_law_497 : decode cL_law 497 = .ok (.aload_n 0, 1) := by decide +kernel
theorem dL_law_498 : decode cL_law 498 = .ok (.iload_n 3, 1) := by decide +kernel
theorem dL_law_499 : decode cL_law 499 = .ok (.iconst 3, 1) := by decide +kernel
theorem dL_law_500 : decode cL_law 500 = .ok (.iadd, 1) := by decide +kernel
theorem dL_law_501 : decode cL_law 501 = .ok (.iaload, 1) := by decide +kernel
theorem dL_law_502 : decode cL_law 502 = .ok (.aload_n 0, 1) := by decide +kernel
theorem dL_law_503 : decode cL_law 503 = .ok (.iload_n 3, 1) := by decide +kernel
theorem dL_law_504 : decode cL_law 504 = .ok (.iconst 4, 1) := by decide +kernel
theorem dL_law_505 : decode cL_law 505 = .ok (.iadd, 1) := by decide +kernel
theorem dL_law_506 : decode cL_law 506 = .ok (.iaload, 1) := by decide +kernel
theorem dL_law_507 : decode cL_law 507 = .ok (.invokevirtual 43, 3) := by decide +kernel
theorem dL_law_510 : decode cL_law 510 = .ok (.aload_n 2, 1) := by decide +kernel
theorem dL_law_511 : decode cL_law 511 = .ok (.aload_n 0, 1) := by decide +kernel
theorem dL_law_512 : decode cL_law 512 = .ok (.iload_n 3, 1) := by decide +kernel
theorem dL_law_513 : decode cL_law 513 = .ok (.iconst 1, 1) := by decide +kernel
theorem dL_law_514 : decode cL_law 514 = .ok (.iadd, 1) := by decide +kernel
theorem dL_law_515 : decode cL_law 515 = .ok (.iaload, 1) := by decide +kernel
theorem dL_law_516 : decode cL_law 516 = .ok (.aload_n 0, 1) := by decide +kernel
theorem dL_law_517 : decode cL_law 517 = .ok (.iload_n 3, 1) := by decide +kernel
theorem dL_law_518 : decode cL_law 518 = .ok (.iconst 2, 1) := by decide +kernel
theorem dL_law_519 : decode cL_law 519 = .ok (.iadd, 1) := by decide +kernel
theorem dL_law_520 : decode cL_law 520 = .ok (.iaload, 1) := by decide +kernel
theorem dL_law_521 : decode cL_law 521 = .ok (.aload_n 0, 1) := by decide +kernel
theorem dL_law_522 : decode cL_law 522 = .ok (.iload_n 3, 1) := by decide +kernel
theorem dL_law_523 : decode cL_law 523 = .ok (.iconst 3, 1) := by decide +kernel
theorem dL_law_524 : decode cL_law 524 = .ok (.iadd, 1) := by decide +kernel
theorem dL_law_525 : decode cL_law 525 = .ok (.iaload, 1) := by decide +kernel
theorem dL_law_526 : decode cL_law 526 = .ok (.aload_n 0, 1) := by decide +kernel
theorem dL_law_527 : decode cL_law 527 = .ok (.iload_n 3, 1) := by decide +kernel
theorem dL_law_528 : decode cL_law 528 = .ok (.iconst 4, 1) := by decide +kernel
theorem dL_law_529 : decode cL_law 529 = .ok (.iadd, 1) := by decide +kernel
theorem dL_law_530 : decode cL_law 530 = .ok (.iaload, 1) := by decide +kernel
theorem dL_law_531 : decode cL_law 531 = .ok (.invokevirtual 47, 3) := by decide +kernel
theorem dL_law_534 : decode cL_law 534 = .ok (.if_icmp .eq 1545, 3) := by decide +kernel
set_option maxHeartbeats 400000 in
set_option maxRecDepth 20000 in
theorem law_6 {E : EV} (hE : EOK E) {q v0 : Nat} (hXS : EXS E q v0) {X : TX} {b L : Nat} {xs : Nat → Int32} (h : CX E X cL_law RL ret room_1 4) (hX : LX X b L xs) (hL : L ≤ 3072) {z : Int} (h0 : 0 ≤ z) (h1 : z ≤ L - 6) {A : AS} (K : ∀ A2 : AS, JL E (LQP E) X 2079 [(3, .int (iI z)), (2, eA E 76), (1, eA E 74), (0, .ref b)] [] (A2, A2)) : JL E (LQP E) X 486 [(3, .int (iI z)), (2, eA E 76), (1, eA E 74), (0, .ref b)] [] (A, A) := by
  refine j_aload_n h 2 dL_law_486 rfl rfl ?_
  refine j_aload_n h 3 dL_law_487 rfl rfl ?_
  refine j_iload_n h 0 dL_law_488 rfl rfl ?_
  refine j_iconst h dL_law_489 ?_
  refine j_iadd h dL_law_490 ?_
  refine j_sld h hX hL (by omega) (by omega) dL_law_491 ?_
  refine j_aload_n h 3 dL_law_492 rfl rfl ?_
  refine j_iload_n h 0 dL_law_493 rfl rfl ?_
  refine j_iconst h dL_law_494 ?_
  refine j_iadd h dL_law_495 ?_
  refine j_sld h hX hL (by omega) (by omega) dL_law_496 ?_
  refine j_aload_n h 3 dL_law_497 rfl rfl ?_
  refine j_iload_n h 0 dL_law_498 rfl rfl ?_
  refine j_iconst h dL_law_499 ?_
  refine j_iadd h dL_law_500 ?_
  refine j_sld h hX hL (by omega) (by omega) dL_law_501 ?_
  refine j_aload_n h 3 dL_law_502 rfl rfl ?_
  refine j_iload_n h 0 dL_law_503 rfl rfl ?_
  refine j_iconst h dL_law_504 ?_
  refine j_iadd h dL_law_505 ?_
  refine j_sld h hX hL (by omega) (by omega) dL_law_506 ?_
  refine j_callV h (ct_L (fun g0 => p_substring hE (okI_of (xs (z + 1).toNat)) (okI_of (xs (z + 2).toNat)) (okI_of (xs (z + 3).toNat)) (okI_of (xs (z + 4).toNat)))) m_X3_substring a_l_L_43 rfl rfl ⟨Nat.le_of_ble_eq_true rfl, Nat.le_of_ble_eq_true rfl⟩ (ci := 3) rfl (by omega) rcL3 rfl rfl (Nat.le_of_ble_eq_true rfl) dL_law_507 ?_
  refine j_aload_n h 1 dL_law_510 rfl rfl ?_
  refine j_aload_n h 3 dL_law_511 rfl rfl ?_
  refine j_iload_n h 0 dL_law_512 rfl rfl ?_
  refine j_iconst h dL_law_513 ?_
  refine j_iadd h dL_law_514 ?_
  refine j_sld h hX hL (by omega) (by omega) dL_law_515 ?_
  refine j_aload_n h 3 dL_law_516 rfl rfl ?_
  refine j_iload_n h 0 dL_law_517 rfl rfl ?_
  refine j_iconst h dL_law_518 ?_
  refine j_iadd h dL_law_519 ?_
  refine j_sld h hX hL (by omega) (by omega) dL_law_520 ?_
  refine j_aload_n h 3 dL_law_521 rfl rfl ?_
  refine j_iload_n h 0 dL_law_522 rfl rfl ?_
  refine j_iconst h dL_law_523 ?_
  refine j_iadd h dL_law_524 ?_
  refine j_sld h hX hL (by omega) (by omega) dL_law_525 ?_
  refine j_aload_n h 3 dL_law_526 rfl rfl ?_
  refine j_iload_n h 0 dL_law_527 rfl rfl ?_
  refine j_iconst h dL_law_528 ?_
  refine j_iadd h dL_law_529 ?_
  refine j_sld h hX hL (by omega) (by omega) dL_law_530 ?_
  refine j_callV h (ct_R (fun g0 => q_substring hE (okI_of (xs (z + 1).toNat)) (okI_of (xs (z + 2).toNat)) (okI_of (xs (z + 3).toNat)) (okI_of (xs (z + 4).toNat)))) m_X4_substring a_l_L_47 rfl rfl ⟨Nat.le_of_ble_eq_true rfl, Nat.le_of_ble_eq_true rfl⟩ (ci := 4) rfl (by omega) rcL4 rfl rfl (Nat.le_of_ble_eq_true rfl) dL_law_531 ?_
  exact j_rcmp_eq h 2079 dL_law_534 (by decide) (fun _ => K _) (fun w => absurd rfl w)
