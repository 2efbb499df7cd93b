/-! the law's cases -/
section LQ
variable {p : Program} {l : Launch} {e : Env} {s : State} {m : MethodId} {args : Array Value} {below : List Frame} {meth : Method} {c : Code} {D : va_G} {cy : Nat → ClassId} {ad : Ky → Nat} {bs : Nat} {cells slots : Nat} {Q : State → Prop} {mi : MemI} {ml : MemL} {pc : Nat} {L st : List MV} {b n i : Nat} {xs : Nat → Int32} {nm : String} {nC nB : Nat}
theorem lc_row (C : k_Cx p s m args meth c D cy ad bs k_KS (Mt_L nm)) (X : k_LX s ad bs b n xs) (hcs : cells ≤ room_1.cells ∧ slots ≤ room_1.slots) (hi : i + 5 < n) (h : k_R nC nB mi ml mi ml) (kont : ∀ mi ml, k_J mi ml → k_V p l e room_1 s m args below meth c D cy ad bs k_KS k_R0 cells slots Q mi ml 1287 (k_Lc i) []) : k_V p l e room_1 s m args below meth c D cy ad bs k_KS k_R0 cells slots Q mi ml 192 (k_Lc i) [] := by
  refine k_aload_n (pc := 192) C dL_law_192 rfl ?_
  refine k_arg (pc := 193) C X (j := 1) (by omega) rfl dL_law_193 dL_law_194 dL_law_195 dL_law_196 dL_law_197 ?_
  refine k_arg (pc := 198) C X (j := 2) (by omega) rfl dL_law_198 dL_law_199 dL_law_200 dL_law_201 dL_law_202 ?_
  refine k_arg (pc := 203) C X (j := 3) (by omega) rfl dL_law_203 dL_law_204 dL_law_205 dL_law_206 dL_law_207 ?_
  refine k_callL (pc := 208) C cv_L_13 (ct_X6_row) k_in6 rfl rfl rfl (by decide) hcs rfl (Nat.zero_le _) dL_law_208 ?_
  have r1 := r1_row h (xs (i + 1)) (xs (i + 2)) (xs (i + 3))
  refine k_aload_n (pc := 211) C dL_law_211 rfl ?_
  refine k_arg (pc := 212) C X (j := 1) (by omega) rfl dL_law_212 dL_law_213 dL_law_214 dL_law_215 dL_law_216 ?_
  refine k_arg (pc := 217) C X (j := 2) (by omega) rfl dL_law_217 dL_law_218 dL_law_219 dL_law_220 dL_law_221 ?_
  refine k_arg (pc := 222) C X (j := 3) (by omega) rfl dL_law_222 dL_law_223 dL_law_224 dL_law_225 dL_law_226 ?_
  refine k_callL (pc := 227) C cv_L_17 (ct_X7_row) k_in7 rfl rfl rfl (by decide) hcs rfl (Nat.le_of_ble_eq_true rfl) dL_law_227 ?_
  have js := j_row h (xs (i + 1)) (xs (i + 2)) (xs (i + 3))
  exact k_icmp_eqT (pc := 230) C 1287 dL_law_230 (by decide) js.1 (kont _ _ js.2)
theorem lc_set (C : k_Cx p s m args meth c D cy ad bs k_KS (Mt_L nm)) (X : k_LX s ad bs b n xs) (hcs : cells ≤ room_1.cells ∧ slots ≤ room_1.slots) (hi : i + 5 < n) (h : k_R nC nB mi ml mi ml) (kont : ∀ mi ml, k_J mi ml → k_V p l e room_1 s m args below meth c D cy ad bs k_KS k_R0 cells slots Q mi ml 1287 (k_Lc i) []) : k_V p l e room_1 s m args below meth c D cy ad bs k_KS k_R0 cells slots Q mi ml 235 (k_Lc i) [] := by
  refine k_aload_n (pc := 235) C dL_law_235 rfl ?_
  refine k_arg (pc := 236) C X (j := 1) (by omega) rfl dL_law_236 dL_law_237 dL_law_238 dL_law_239 dL_law_240 ?_
  refine k_arg (pc := 241) C X (j := 2) (by omega) rfl dL_law_241 dL_law_242 dL_law_243 dL_law_244 dL_law_245 ?_
  refine k_arg (pc := 246) C X (j := 3) (by omega) rfl dL_law_246 dL_law_247 dL_law_248 dL_law_249 dL_law_250 ?_
  refine k_i2l (pc := 251) C dL_law_251 ?_
  refine k_bipush (pc := 252) (v := 32) C dL_law_252 (by decide) ?_
  refine k_lshl (pc := 254) C dL_law_254 ?_
  refine k_arg (pc := 255) C X (j := 4) (by omega) rfl dL_law_255 dL_law_256 dL_law_257 dL_law_258 dL_law_259 ?_
  refine k_i2l (pc := 260) C dL_law_260 ?_
  refine k_ldc2 (pc := 261) (v := 4294967295) C lc_ldc dL_law_261 ?_
  refine k_land (pc := 264) C dL_law_264 ?_
  refine k_lor (pc := 265) C dL_law_265 ?_
  refine k_callL (pc := 266) C cv_L_20 (ct_X6_set) k_in6 rfl rfl rfl (by decide) hcs rfl (Nat.zero_le _) dL_law_266 ?_
  have r1 := r1_set h (xs (i + 1)) (xs (i + 2)) ((xs (i + 3)).toInt64 <<< ((32 : Int32).toInt64 &&& 63) ||| (xs (i + 4)).toInt64 &&& 4294967295)
  refine k_aload_n (pc := 269) C dL_law_269 rfl ?_
  refine k_arg (pc := 270) C X (j := 1) (by omega) rfl dL_law_270 dL_law_271 dL_law_272 dL_law_273 dL_law_274 ?_
  refine k_arg (pc := 275) C X (j := 2) (by omega) rfl dL_law_275 dL_law_276 dL_law_277 dL_law_278 dL_law_279 ?_
  refine k_arg (pc := 280) C X (j := 3) (by omega) rfl dL_law_280 dL_law_281 dL_law_282 dL_law_283 dL_law_284 ?_
  refine k_i2l (pc := 285) C dL_law_285 ?_
  refine k_bipush (pc := 286) (v := 32) C dL_law_286 (by decide) ?_
  refine k_lshl (pc := 288) C dL_law_288 ?_
  refine k_arg (pc := 289) C X (j := 4) (by omega) rfl dL_law_289 dL_law_290 dL_law_291 dL_law_292 dL_law_293 ?_
  refine k_i2l (pc := 294) C dL_law_294 ?_
  refine k_ldc2 (pc := 295) (v := 4294967295) C lc_ldc dL_law_295 ?_
  refine k_land (pc := 298) C dL_law_298 ?_
  refine k_lor (pc := 299) C dL_law_299 ?_
  refine k_callL (pc := 300) C cv_L_24 (ct_X7_set (hy_sz r1)) k_in7 rfl rfl rfl (by decide) hcs rfl (Nat.le_of_ble_eq_true rfl) dL_law_300 ?_
  have js := j_set h (xs (i + 1)) (xs (i + 2)) ((xs (i + 3)).toInt64 <<< ((32 : Int32).toInt64 &&& 63) ||| (xs (i + 4)).toInt64 &&& 4294967295)
  exact k_icmp_eqT (pc := 303) C 1287 dL_law_303 (by decide) js.1 (kont _ _ js.2)
theorem lc_copy (C : k_Cx p s m args meth c D cy ad bs k_KS (Mt_L nm)) (X : k_LX s ad bs b n xs) (hcs : cells ≤ room_1.cells ∧ slots ≤ room_1.slots) (hi : i + 5 < n) (h : k_R nC nB mi ml mi ml) (kont : ∀ mi ml, k_J mi ml → k_V p l e room_1 s m args below meth c D cy ad bs k_KS k_R0 cells slots Q mi ml 1287 (k_Lc i) []) : k_V p l e room_1 s m args below meth c D cy ad bs k_KS k_R0 cells slots Q mi ml 308 (k_Lc i) [] := by
  refine k_aload_n (pc := 308) C dL_law_308 rfl ?_
  refine k_arg (pc := 309) C X (j := 1) (by omega) rfl dL_law_309 dL_law_310 dL_law_311 dL_law_312 dL_law_313 ?_
  refine k_arg (pc := 314) C X (j := 2) (by omega) rfl dL_law_314 dL_law_315 dL_law_316 dL_law_317 dL_law_318 ?_
  refine k_arg (pc := 319) C X (j := 3) (by omega) rfl dL_law_319 dL_law_320 dL_law_321 dL_law_322 dL_law_323 ?_
  refine k_arg (pc := 324) C X (j := 4) (by omega) rfl dL_law_324 dL_law_325 dL_law_326 dL_law_327 dL_law_328 ?_
  refine k_arg (pc := 329) C X (j := 5) (by omega) rfl dL_law_329 dL_law_330 dL_law_331 dL_law_332 dL_law_333 ?_
  refine k_callL (pc := 334) C cv_L_25 (ct_X6_copy (hy_Sh h)) k_in6 rfl rfl rfl (by decide) hcs rfl (Nat.zero_le _) dL_law_334 ?_
  have r1 := r1_copy h (xs (i + 1)) (xs (i + 2)) (xs (i + 3)) (xs (i + 4)) (xs (i + 5))
  refine k_aload_n (pc := 337) C dL_law_337 rfl ?_
  refine k_arg (pc := 338) C X (j := 1) (by omega) rfl dL_law_338 dL_law_339 dL_law_340 dL_law_341 dL_law_342 ?_
  refine k_arg (pc := 343) C X (j := 2) (by omega) rfl dL_law_343 dL_law_344 dL_law_345 dL_law_346 dL_law_347 ?_
  refine k_arg (pc := 348) C X (j := 3) (by omega) rfl dL_law_348 dL_law_349 dL_law_350 dL_law_351 dL_law_352 ?_
  refine k_arg (pc := 353) C X (j := 4) (by omega) rfl dL_law_353 dL_law_354 dL_law_355 dL_law_356 dL_law_357 ?_
  refine k_arg (pc := 358) C X (j := 5) (by omega) rfl dL_law_358 dL_law_359 dL_law_360 dL_law_361 dL_law_362 ?_
  refine k_callL (pc := 363) C cv_L_29 (ct_X7_copy (hy_sz r1)) k_in7 rfl rfl rfl (by decide) hcs rfl (Nat.le_of_ble_eq_true rfl) dL_law_363 ?_
  have js := j_copy h (xs (i + 1)) (xs (i + 2)) (xs (i + 3)) (xs (i + 4)) (xs (i + 5))
  exact k_icmp_eqT (pc := 366) C 1287 dL_law_366 (by decide) js.1 (kont _ _ js.2)
theorem lc_element (C : k_Cx p s m args meth c D cy ad bs k_KS (Mt_L nm)) (X : k_LX s ad bs b n xs) (hcs : cells ≤ room_1.cells ∧ slots ≤ room_1.slots) (hi : i + 5 < n) (h : k_R nC nB mi ml mi ml) (kont : ∀ mi ml, k_J mi ml → k_V p l e room_1 s m args below meth c D cy ad bs k_KS k_R0 cells slots Q mi ml 1287 (k_Lc i) []) : k_V p l e room_1 s m args below meth c D cy ad bs k_KS k_R0 cells slots Q mi ml 371 (k_Lc i) [] := by
  refine k_aload_n (pc := 371) C dL_law_371 rfl ?_
  refine k_arg (pc := 372) C X (j := 1) (by omega) rfl dL_law_372 dL_law_373 dL_law_374 dL_law_375 dL_law_376 ?_
  refine k_arg (pc := 377) C X (j := 2) (by omega) rfl dL_law_377 dL_law_378 dL_law_379 dL_law_380 dL_law_381 ?_
  refine k_callL (pc := 382) C cv_L_30 (ct_X6_element) k_in6 rfl rfl rfl (by decide) hcs rfl (Nat.zero_le _) dL_law_382 ?_
  have r1 := h
  refine k_aload_n (pc := 385) C dL_law_385 rfl ?_
  refine k_arg (pc := 386) C X (j := 1) (by omega) rfl dL_law_386 dL_law_387 dL_law_388 dL_law_389 dL_law_390 ?_
  refine k_arg (pc := 391) C X (j := 2) (by omega) rfl dL_law_391 dL_law_392 dL_law_393 dL_law_394 dL_law_395 ?_
  refine k_callL (pc := 396) C cv_L_34 (ct_X7_element (hy_sz r1)) k_in7 rfl rfl rfl (by decide) hcs rfl (Nat.le_of_ble_eq_true rfl) dL_law_396 ?_
  refine k_lcmp (pc := 399) C dL_law_399 ?_
  refine k_if_eqT (pc := 400) C 1287 dL_law_400 (by decide) ?_ (kont _ _ ⟨nC, nB, h⟩)
  rw [q_element h (xs (i + 1)) (xs (i + 2))]; exact lgc _
theorem lc_show (C : k_Cx p s m args meth c D cy ad bs k_KS (Mt_L nm)) (X : k_LX s ad bs b n xs) (hcs : cells ≤ room_1.cells ∧ slots ≤ room_1.slots) (hi : i + 5 < n) (h : k_R nC nB mi ml mi ml) (kont : ∀ mi ml, k_J mi ml → k_V p l e room_1 s m args below meth c D cy ad bs k_KS k_R0 cells slots Q mi ml 1287 (k_Lc i) []) : k_V p l e room_1 s m args below meth c D cy ad bs k_KS k_R0 cells slots Q mi ml 405 (k_Lc i) [] := by
  refine k_aload_n (pc := 405) C dL_law_405 rfl ?_
  refine k_arg (pc := 406) C X (j := 1) (by omega) rfl dL_law_406 dL_law_407 dL_law_408 dL_law_409 dL_law_410 ?_
  refine k_arg (pc := 411) C X (j := 2) (by omega) rfl dL_law_411 dL_law_412 dL_law_413 dL_law_414 dL_law_415 ?_
  refine k_callL (pc := 416) C cv_L_35 (ct_X6_show) k_in6 rfl rfl rfl (by decide) hcs rfl (Nat.zero_le _) dL_law_416 ?_
  have r1 := r1_show h (xs (i + 1)) (xs (i + 2))
  refine k_aload_n (pc := 419) C dL_law_419 rfl ?_
  refine k_arg (pc := 420) C X (j := 1) (by omega) rfl dL_law_420 dL_law_421 dL_law_422 dL_law_423 dL_law_424 ?_
  refine k_arg (pc := 425) C X (j := 2) (by omega) rfl dL_law_425 dL_law_426 dL_law_427 dL_law_428 dL_law_429 ?_
  refine k_callL (pc := 430) C cv_L_39 (ct_X7_show (r1.1.2.1.2.2.1) r1.1.1.1) k_in7 rfl rfl rfl (by decide) hcs rfl (Nat.le_of_ble_eq_true rfl) dL_law_430 ?_
  have js := j_show h (xs (i + 1)) (xs (i + 2))
  exact k_icmp_eqT (pc := 433) C 1287 dL_law_433 (by decide) js.1 (kont _ _ js.2)
theorem lc_holds (C : k_Cx p s m args meth c D cy ad bs k_KS (Mt_L nm)) (X : k_LX s ad bs b n xs) (hcs : cells ≤ room_1.cells ∧ slots ≤ room_1.slots) (hi : i + 5 < n) (h : k_R nC nB mi ml mi ml) (kont : ∀ mi ml, k_J mi ml → k_V p l e room_1 s m args below meth c D cy ad bs k_KS k_R0 cells slots Q mi ml 1287 (k_Lc i) []) : k_V p l e room_1 s m args below meth c D cy ad bs k_KS k_R0 cells slots Q mi ml 438 (k_Lc i) [] := by
  refine k_aload_n (pc := 438) C dL_law_438 rfl ?_
  refine k_arg (pc := 439) C X (j := 1) (by omega) rfl dL_law_439 dL_law_440 dL_law_441 dL_law_442 dL_law_443 ?_
  refine k_callL (pc := 444) C cv_L_40 (ct_X6_holds) k_in6 rfl rfl rfl (by decide) hcs rfl (Nat.zero_le _) dL_law_444 ?_
  have r1 := h
  refine k_aload_n (pc := 447) C dL_law_447 rfl ?_
  refine k_arg (pc := 448) C X (j := 1) (by omega) rfl dL_law_448 dL_law_449 dL_law_450 dL_law_451 dL_law_452 ?_
  refine k_callL (pc := 453) C cv_L_44 (ct_X7_holds) k_in7 rfl rfl rfl (by decide) hcs rfl (Nat.le_of_ble_eq_true rfl) dL_law_453 ?_
  exact k_icmp_eqT (pc := 456) C 1287 dL_law_456 (by decide) (q_holds h (xs (i + 1))) (kont _ _ ⟨nC, nB, h⟩)
theorem lc_says (C : k_Cx p s m args meth c D cy ad bs k_KS (Mt_L nm)) (X : k_LX s ad bs b n xs) (hcs : cells ≤ room_1.cells ∧ slots ≤ room_1.slots) (hi : i + 5 < n) (h : k_R nC nB mi ml mi ml) (kont : ∀ mi ml, k_J mi ml → k_V p l e room_1 s m args below meth c D cy ad bs k_KS k_R0 cells slots Q mi ml 1287 (k_Lc i) []) : k_V p l e room_1 s m args below meth c D cy ad bs k_KS k_R0 cells slots Q mi ml 461 (k_Lc i) [] := by
  refine k_aload_n (pc := 461) C dL_law_461 rfl ?_
  refine k_arg (pc := 462) C X (j := 1) (by omega) rfl dL_law_462 dL_law_463 dL_law_464 dL_law_465 dL_law_466 ?_
  refine k_arg (pc := 467) C X (j := 2) (by omega) rfl dL_law_467 dL_law_468 dL_law_469 dL_law_470 dL_law_471 ?_
  refine k_callL (pc := 472) C cv_L_45 (ct_X6_says) k_in6 rfl rfl rfl (by decide) hcs rfl (Nat.zero_le _) dL_law_472 ?_
  have r1 := r1_says h (xs (i + 1)) (xs (i + 2))
  refine k_aload_n (pc := 475) C dL_law_475 rfl ?_
  refine k_arg (pc := 476) C X (j := 1) (by omega) rfl dL_law_476 dL_law_477 dL_law_478 dL_law_479 dL_law_480 ?_
  refine k_arg (pc := 481) C X (j := 2) (by omega) rfl dL_law_481 dL_law_482 dL_law_483 dL_law_484 dL_law_485 ?_
  refine k_callL (pc := 486) C cv_L_48 (ct_X7_says (hy_sh r1)) k_in7 rfl rfl rfl (by decide) hcs rfl (Nat.le_of_ble_eq_true rfl) dL_law_486 ?_
  have js := j_says h (xs (i + 1)) (xs (i + 2))
  exact k_icmp_eqT (pc := 489) C 1287 dL_law_489 (by decide) js.1 (kont _ _ js.2)
theorem lc_citizen (C : k_Cx p s m args meth c D cy ad bs k_KS (Mt_L nm)) (X : k_LX s ad bs b n xs) (hcs : cells ≤ room_1.cells ∧ slots ≤ room_1.slots) (hi : i + 5 < n) (h : k_R nC nB mi ml mi ml) (kont : ∀ mi ml, k_J mi ml → k_V p l e room_1 s m args below meth c D cy ad bs k_KS k_R0 cells slots Q mi ml 1287 (k_Lc i) []) : k_V p l e room_1 s m args below meth c D cy ad bs k_KS k_R0 cells slots Q mi ml 494 (k_Lc i) [] := by
  refine k_aload_n (pc := 494) C dL_law_494 rfl ?_
  refine k_arg (pc := 495) C X (j := 1) (by omega) rfl dL_law_495 dL_law_496 dL_law_497 dL_law_498 dL_law_499 ?_
  refine k_arg (pc := 500) C X (j := 2) (by omega) rfl dL_law_500 dL_law_501 dL_law_502 dL_law_503 dL_law_504 ?_
  refine k_arg (pc := 505) C X (j := 3) (by omega) rfl dL_law_505 dL_law_506 dL_law_507 dL_law_508 dL_law_509 ?_
  refine k_arg (pc := 510) C X (j := 4) (by omega) rfl dL_law_510 dL_law_511 dL_law_512 dL_law_513 dL_law_514 ?_
  refine k_callL (pc := 515) C cv_L_49 (ct_X6_citizen) k_in6 rfl rfl rfl (by decide) hcs rfl (Nat.zero_le _) dL_law_515 ?_
  have r1 := r1_citizen h (xs (i + 1)) (xs (i + 2)) (xs (i + 3)) (xs (i + 4))
  refine k_aload_n (pc := 518) C dL_law_518 rfl ?_
  refine k_arg (pc := 519) C X (j := 1) (by omega) rfl dL_law_519 dL_law_520 dL_law_521 dL_law_522 dL_law_523 ?_
  refine k_arg (pc := 524) C X (j := 2) (by omega) rfl dL_law_524 dL_law_525 dL_law_526 dL_law_527 dL_law_528 ?_
  refine k_arg (pc := 529) C X (j := 3) (by omega) rfl dL_law_529 dL_law_530 dL_law_531 dL_law_532 dL_law_533 ?_
  refine k_arg (pc := 534) C X (j := 4) (by omega) rfl dL_law_534 dL_law_535 dL_law_536 dL_law_537 dL_law_538 ?_
  refine k_callL (pc := 539) C cv_L_53 (ct_X7_citizen (hy_mo r1)) k_in7 rfl rfl rfl (by decide) hcs rfl (Nat.le_of_ble_eq_true rfl) dL_law_539 ?_
  have js := j_citizen h (xs (i + 1)) (xs (i + 2)) (xs (i + 3)) (xs (i + 4))
  exact k_icmp_eqT (pc := 542) C 1287 dL_law_542 (by decide) js.1 (kont _ _ js.2)
theorem lc_beggar (C : k_Cx p s m args meth c D cy ad bs k_KS (Mt_L nm)) (X : k_LX s ad bs b n xs) (hcs : cells ≤ room_1.cells ∧ slots ≤ room_1.slots) (hi : i + 5 < n) (h : k_R nC nB mi ml mi ml) (kont : ∀ mi ml, k_J mi ml → k_V p l e room_1 s m args below meth c D cy ad bs k_KS k_R0 cells slots Q mi ml 1287 (k_Lc i) []) : k_V p l e room_1 s m args below meth c D cy ad bs k_KS k_R0 cells slots Q mi ml 547 (k_Lc i) [] := by
  refine k_aload_n (pc := 547) C dL_law_547 rfl ?_
  refine k_arg (pc := 548) C X (j := 1) (by omega) rfl dL_law_548 dL_law_549 dL_law_550 dL_law_551 dL_law_552 ?_
  refine k_arg (pc := 553) C X (j := 2) (by omega) rfl dL_law_553 dL_law_554 dL_law_555 dL_law_556 dL_law_557 ?_
  refine k_callL (pc := 558) C cv_L_54 (ct_X6_beggar) k_in6 rfl rfl rfl (by decide) hcs rfl (Nat.zero_le _) dL_law_558 ?_
  have r1 := r1_beggar h (xs (i + 1)) (xs (i + 2))
  refine k_aload_n (pc := 561) C dL_law_561 rfl ?_
  refine k_arg (pc := 562) C X (j := 1) (by omega) rfl dL_law_562 dL_law_563 dL_law_564 dL_law_565 dL_law_566 ?_
  refine k_arg (pc := 567) C X (j := 2) (by omega) rfl dL_law_567 dL_law_568 dL_law_569 dL_law_570 dL_law_571 ?_
  refine k_callL (pc := 572) C cv_L_57 (ct_X7_beggar (hy_mo r1)) k_in7 rfl rfl rfl (by decide) hcs rfl (Nat.le_of_ble_eq_true rfl) dL_law_572 ?_
  have js := j_beggar h (xs (i + 1)) (xs (i + 2))
  exact k_icmp_eqT (pc := 575) C 1287 dL_law_575 (by decide) js.1 (kont _ _ js.2)
theorem lc_tell (C : k_Cx p s m args meth c D cy ad bs k_KS (Mt_L nm)) (X : k_LX s ad bs b n xs) (hcs : cells ≤ room_1.cells ∧ slots ≤ room_1.slots) (hi : i + 5 < n) (h : k_R nC nB mi ml mi ml) (kont : ∀ mi ml, k_J mi ml → k_V p l e room_1 s m args below meth c D cy ad bs k_KS k_R0 cells slots Q mi ml 1287 (k_Lc i) []) : k_V p l e room_1 s m args below meth c D cy ad bs k_KS k_R0 cells slots Q mi ml 580 (k_Lc i) [] := by
  refine k_aload_n (pc := 580) C dL_law_580 rfl ?_
  refine k_arg (pc := 581) C X (j := 1) (by omega) rfl dL_law_581 dL_law_582 dL_law_583 dL_law_584 dL_law_585 ?_
  refine k_arg (pc := 586) C X (j := 2) (by omega) rfl dL_law_586 dL_law_587 dL_law_588 dL_law_589 dL_law_590 ?_
  refine k_arg (pc := 591) C X (j := 3) (by omega) rfl dL_law_591 dL_law_592 dL_law_593 dL_law_594 dL_law_595 ?_
  refine k_callL (pc := 596) C cv_L_58 (ct_X6_tell) k_in6 rfl rfl rfl (by decide) hcs rfl (Nat.zero_le _) dL_law_596 ?_
  have r1 := r1_tell h (xs (i + 1)) (xs (i + 2)) (xs (i + 3))
  refine k_aload_n (pc := 599) C dL_law_599 rfl ?_
  refine k_arg (pc := 600) C X (j := 1) (by omega) rfl dL_law_600 dL_law_601 dL_law_602 dL_law_603 dL_law_604 ?_
  refine k_arg (pc := 605) C X (j := 2) (by omega) rfl dL_law_605 dL_law_606 dL_law_607 dL_law_608 dL_law_609 ?_
  refine k_arg (pc := 610) C X (j := 3) (by omega) rfl dL_law_610 dL_law_611 dL_law_612 dL_law_613 dL_law_614 ?_
  refine k_callL (pc := 615) C cv_L_61 (ct_X7_tell (r1.1.2.1.2.2.1) r1.1.1.1) k_in7 rfl rfl rfl (by decide) hcs rfl (Nat.le_of_ble_eq_true rfl) dL_law_615 ?_
  have js := j_tell h (xs (i + 1)) (xs (i + 2)) (xs (i + 3))
  exact k_icmp_eqT (pc := 618) C 1287 dL_law_618 (by decide) js.1 (kont _ _ js.2)
theorem lc_post (C : k_Cx p s m args meth c D cy ad bs k_KS (Mt_L nm)) (X : k_LX s ad bs b n xs) (hcs : cells ≤ room_1.cells ∧ slots ≤ room_1.slots) (hi : i + 5 < n) (h : k_R nC nB mi ml mi ml) (kont : ∀ mi ml, k_J mi ml → k_V p l e room_1 s m args below meth c D cy ad bs k_KS k_R0 cells slots Q mi ml 1287 (k_Lc i) []) : k_V p l e room_1 s m args below meth c D cy ad bs k_KS k_R0 cells slots Q mi ml 623 (k_Lc i) [] := by
  have hbz : (if xs (i + 2) = 0 then (0 : Int32) else 1) = 0 ∨ (if xs (i + 2) = 0 then (0 : Int32) else 1) = 1 := by
    split
    · exact Or.inl rfl
    · exact Or.inr rfl
  refine k_aload_n (pc := 623) C dL_law_623 rfl ?_
  refine k_arg (pc := 624) C X (j := 1) (by omega) rfl dL_law_624 dL_law_625 dL_law_626 dL_law_627 dL_law_628 ?_
  refine k_arg (pc := 629) C X (j := 2) (by omega) rfl dL_law_629 dL_law_630 dL_law_631 dL_law_632 dL_law_633 ?_
  refine k_bzR (pc := 634) C dL_law_634 dL_law_637 dL_law_638 dL_law_641 ?_
  refine k_callL (pc := 642) C cv_L_62 (ct_X6_post hbz) k_in6 rfl rfl rfl (by decide) hcs rfl (Nat.zero_le _) dL_law_642 ?_
  have r1 := r1_post h (xs (i + 1)) (if xs (i + 2) = 0 then 0 else 1)
  refine k_aload_n (pc := 645) C dL_law_645 rfl ?_
  refine k_arg (pc := 646) C X (j := 1) (by omega) rfl dL_law_646 dL_law_647 dL_law_648 dL_law_649 dL_law_650 ?_
  refine k_arg (pc := 651) C X (j := 2) (by omega) rfl dL_law_651 dL_law_652 dL_law_653 dL_law_654 dL_law_655 ?_
  refine k_bzR (pc := 656) C dL_law_656 dL_law_659 dL_law_660 dL_law_663 ?_
  refine k_callL (pc := 664) C cv_L_66 (ct_X7_post (r1.1.2.1.2.2.2) r1.1.1.2) k_in7 rfl rfl rfl (by decide) hcs rfl (Nat.le_of_ble_eq_true rfl) dL_law_664 ?_
  have js := j_post h (xs (i + 1)) (if xs (i + 2) = 0 then 0 else 1) hbz
  exact k_icmp_eqT (pc := 667) C 1287 dL_law_667 (by decide) js.1 (kont _ _ js.2)
theorem lc_citizenOf (C : k_Cx p s m args meth c D cy ad bs k_KS (Mt_L nm)) (X : k_LX s ad bs b n xs) (hcs : cells ≤ room_1.cells ∧ slots ≤ room_1.slots) (hi : i + 5 < n) (h : k_R nC nB mi ml mi ml) (kont : ∀ mi ml, k_J mi ml → k_V p l e room_1 s m args below meth c D cy ad bs k_KS k_R0 cells slots Q mi ml 1287 (k_Lc i) []) : k_V p l e room_1 s m args below meth c D cy ad bs k_KS k_R0 cells slots Q mi ml 672 (k_Lc i) [] := by
  refine k_aload_n (pc := 672) C dL_law_672 rfl ?_
  refine k_arg (pc := 673) C X (j := 1) (by omega) rfl dL_law_673 dL_law_674 dL_law_675 dL_law_676 dL_law_677 ?_
  refine k_arg (pc := 678) C X (j := 2) (by omega) rfl dL_law_678 dL_law_679 dL_law_680 dL_law_681 dL_law_682 ?_
  refine k_callL (pc := 683) C cv_L_67 (ct_X6_citizenOf) k_in6 rfl rfl rfl (by decide) hcs rfl (Nat.zero_le _) dL_law_683 ?_
  have r1 := r1_citizenOf h (xs (i + 1)) (xs (i + 2))
  refine k_aload_n (pc := 686) C dL_law_686 rfl ?_
  refine k_arg (pc := 687) C X (j := 1) (by omega) rfl dL_law_687 dL_law_688 dL_law_689 dL_law_690 dL_law_691 ?_
  refine k_arg (pc := 692) C X (j := 2) (by omega) rfl dL_law_692 dL_law_693 dL_law_694 dL_law_695 dL_law_696 ?_
  refine k_callL (pc := 697) C cv_L_70 (ct_X7_citizenOf (r1.1.2.1.2.2.1) r1.1.1.1) k_in7 rfl rfl rfl (by decide) hcs rfl (Nat.le_of_ble_eq_true rfl) dL_law_697 ?_
  have js := j_citizenOf h (xs (i + 1)) (xs (i + 2))
  exact k_icmp_eqT (pc := 700) C 1287 dL_law_700 (by decide) js.1 (kont _ _ js.2)
theorem lc_beggarOf (C : k_Cx p s m args meth c D cy ad bs k_KS (Mt_L nm)) (X : k_LX s ad bs b n xs) (hcs : cells ≤ room_1.cells ∧ slots ≤ room_1.slots) (hi : i + 5 < n) (h : k_R nC nB mi ml mi ml) (kont : ∀ mi ml, k_J mi ml → k_V p l e room_1 s m args below meth c D cy ad bs k_KS k_R0 cells slots Q mi ml 1287 (k_Lc i) []) : k_V p l e room_1 s m args below meth c D cy ad bs k_KS k_R0 cells slots Q mi ml 705 (k_Lc i) [] := by
  refine k_aload_n (pc := 705) C dL_law_705 rfl ?_
  refine k_arg (pc := 706) C X (j := 1) (by omega) rfl dL_law_706 dL_law_707 dL_law_708 dL_law_709 dL_law_710 ?_
  refine k_arg (pc := 711) C X (j := 2) (by omega) rfl dL_law_711 dL_law_712 dL_law_713 dL_law_714 dL_law_715 ?_
  refine k_callL (pc := 716) C cv_L_71 (ct_X6_beggarOf) k_in6 rfl rfl rfl (by decide) hcs rfl (Nat.zero_le _) dL_law_716 ?_
  have r1 := r1_beggarOf h (xs (i + 1)) (xs (i + 2))
  refine k_aload_n (pc := 719) C dL_law_719 rfl ?_
  refine k_arg (pc := 720) C X (j := 1) (by omega) rfl dL_law_720 dL_law_721 dL_law_722 dL_law_723 dL_law_724 ?_
  refine k_arg (pc := 725) C X (j := 2) (by omega) rfl dL_law_725 dL_law_726 dL_law_727 dL_law_728 dL_law_729 ?_
  refine k_callL (pc := 730) C cv_L_74 (ct_X7_beggarOf (r1.1.2.1.2.2.2) r1.1.1.2) k_in7 rfl rfl rfl (by decide) hcs rfl (Nat.le_of_ble_eq_true rfl) dL_law_730 ?_
  have js := j_beggarOf h (xs (i + 1)) (xs (i + 2))
  exact k_icmp_eqT (pc := 733) C 1287 dL_law_733 (by decide) js.1 (kont _ _ js.2)
theorem lc_city (C : k_Cx p s m args meth c D cy ad bs k_KS (Mt_L nm)) (X : k_LX s ad bs b n xs) (hcs : cells ≤ room_1.cells ∧ slots ≤ room_1.slots) (hi : i + 5 < n) (h : k_R nC nB mi ml mi ml) (kont : ∀ mi ml, k_J mi ml → k_V p l e room_1 s m args below meth c D cy ad bs k_KS k_R0 cells slots Q mi ml 1287 (k_Lc i) []) : k_V p l e room_1 s m args below meth c D cy ad bs k_KS k_R0 cells slots Q mi ml 738 (k_Lc i) [] := by
  refine k_aload_n (pc := 738) C dL_law_738 rfl ?_
  refine k_arg (pc := 739) C X (j := 1) (by omega) rfl dL_law_739 dL_law_740 dL_law_741 dL_law_742 dL_law_743 ?_
  refine k_callL (pc := 744) C cv_L_75 (ct_X6_city (hy_zo0 h) (hy_zo1 h _)) k_in6 rfl rfl rfl (by decide) hcs rfl (Nat.zero_le _) dL_law_744 ?_
  have r1 := r1_city h (xs (i + 1))
  refine k_aload_n (pc := 747) C dL_law_747 rfl ?_
  refine k_arg (pc := 748) C X (j := 1) (by omega) rfl dL_law_748 dL_law_749 dL_law_750 dL_law_751 dL_law_752 ?_
  refine k_callL (pc := 753) C cv_L_78 (ct_X7_city (hy_mo r1) (hy_wok r1) (hy_nok r1) (hy_sz r1)) k_in7 rfl rfl rfl (by decide) hcs rfl (Nat.le_of_ble_eq_true rfl) dL_law_753 ?_
  have js := j_city h (xs (i + 1))
  exact k_icmp_eqT (pc := 756) C 1287 dL_law_756 (by decide) js.1 (kont _ _ js.2)
theorem lc_fault (C : k_Cx p s m args meth c D cy ad bs k_KS (Mt_L nm)) (X : k_LX s ad bs b n xs) (hcs : cells ≤ room_1.cells ∧ slots ≤ room_1.slots) (hi : i + 5 < n) (h : k_R nC nB mi ml mi ml) (kont : ∀ mi ml, k_J mi ml → k_V p l e room_1 s m args below meth c D cy ad bs k_KS k_R0 cells slots Q mi ml 1287 (k_Lc i) []) : k_V p l e room_1 s m args below meth c D cy ad bs k_KS k_R0 cells slots Q mi ml 761 (k_Lc i) [] := by
  refine k_aload_n (pc := 761) C dL_law_761 rfl ?_
  refine k_callL (pc := 762) C cv_L_79 (ct_X6_fault) k_in6 rfl rfl rfl (by decide) hcs rfl (Nat.zero_le _) dL_law_762 ?_
  have r1 := h
  refine k_aload_n (pc := 765) C dL_law_765 rfl ?_
  refine k_callL (pc := 766) C cv_L_83 (ct_X7_fault) k_in7 rfl rfl rfl (by decide) hcs rfl (Nat.le_of_ble_eq_true rfl) dL_law_766 ?_
  exact k_icmp_eqT (pc := 769) C 1287 dL_law_769 (by decide) (q_fault h) (kont _ _ ⟨nC, nB, h⟩)
theorem lc_picks (C : k_Cx p s m args meth c D cy ad bs k_KS (Mt_L nm)) (X : k_LX s ad bs b n xs) (hcs : cells ≤ room_1.cells ∧ slots ≤ room_1.slots) (hi : i + 5 < n) (h : k_R nC nB mi ml mi ml) (kont : ∀ mi ml, k_J mi ml → k_V p l e room_1 s m args below meth c D cy ad bs k_KS k_R0 cells slots Q mi ml 1287 (k_Lc i) []) : k_V p l e room_1 s m args below meth c D cy ad bs k_KS k_R0 cells slots Q mi ml 774 (k_Lc i) [] := by
  refine k_aload_n (pc := 774) C dL_law_774 rfl ?_
  refine k_arg (pc := 775) C X (j := 1) (by omega) rfl dL_law_775 dL_law_776 dL_law_777 dL_law_778 dL_law_779 ?_
  refine k_callL (pc := 780) C cv_L_84 (ct_X6_picks) k_in6 rfl rfl rfl (by decide) hcs rfl (Nat.zero_le _) dL_law_780 ?_
  have r1 := r1_picks h (xs (i + 1))
  refine k_aload_n (pc := 783) C dL_law_783 rfl ?_
  refine k_arg (pc := 784) C X (j := 1) (by omega) rfl dL_law_784 dL_law_785 dL_law_786 dL_law_787 dL_law_788 ?_
  refine k_callL (pc := 789) C cv_L_87 (ct_X7_picks (hy_mo r1)) k_in7 rfl rfl rfl (by decide) hcs rfl (Nat.le_of_ble_eq_true rfl) dL_law_789 ?_
  have js := j_picks h (xs (i + 1))
  exact k_icmp_eqT (pc := 792) C 1287 dL_law_792 (by decide) js.1 (kont _ _ js.2)
theorem lc_kept (C : k_Cx p s m args meth c D cy ad bs k_KS (Mt_L nm)) (X : k_LX s ad bs b n xs) (hcs : cells ≤ room_1.cells ∧ slots ≤ room_1.slots) (hi : i + 5 < n) (h : k_R nC nB mi ml mi ml) (kont : ∀ mi ml, k_J mi ml → k_V p l e room_1 s m args below meth c D cy ad bs k_KS k_R0 cells slots Q mi ml 1287 (k_Lc i) []) : k_V p l e room_1 s m args below meth c D cy ad bs k_KS k_R0 cells slots Q mi ml 797 (k_Lc i) [] := by
  refine k_aload_n (pc := 797) C dL_law_797 rfl ?_
  refine k_callL (pc := 798) C cv_L_88 (ct_X6_kept (mi := mi) (ml := ml)) k_in6 rfl rfl rfl (by decide) hcs rfl (Nat.zero_le _) dL_law_798 ?_
  have r1 := r1_kept h
  refine k_aload_n (pc := 801) C dL_law_801 rfl ?_
  refine k_callL (pc := 802) C cv_L_91 (ct_X7_kept (mi := (f_X6_kept mi).2) (ml := ml) (nC := nC) (nB := nB) (hy_mo r1)) k_in7 rfl rfl rfl (by decide) hcs rfl (Nat.le_of_ble_eq_true rfl) dL_law_802 ?_
  have js := j_kept h
  exact k_icmp_eqT (pc := 805) C 1287 dL_law_805 (by decide) js.1 (kont _ _ js.2)
theorem lc_picked (C : k_Cx p s m args meth c D cy ad bs k_KS (Mt_L nm)) (X : k_LX s ad bs b n xs) (hcs : cells ≤ room_1.cells ∧ slots ≤ room_1.slots) (hi : i + 5 < n) (h : k_R nC nB mi ml mi ml) (kont : ∀ mi ml, k_J mi ml → k_V p l e room_1 s m args below meth c D cy ad bs k_KS k_R0 cells slots Q mi ml 1287 (k_Lc i) []) : k_V p l e room_1 s m args below meth c D cy ad bs k_KS k_R0 cells slots Q mi ml 810 (k_Lc i) [] := by
  refine k_aload_n (pc := 810) C dL_law_810 rfl ?_
  refine k_arg (pc := 811) C X (j := 1) (by omega) rfl dL_law_811 dL_law_812 dL_law_813 dL_law_814 dL_law_815 ?_
  refine k_arg (pc := 816) C X (j := 2) (by omega) rfl dL_law_816 dL_law_817 dL_law_818 dL_law_819 dL_law_820 ?_
  refine k_callL (pc := 821) C cv_L_92 (ct_X6_picked) k_in6 rfl rfl rfl (by decide) hcs rfl (Nat.zero_le _) dL_law_821 ?_
  have r1 := r1_picked h (xs (i + 1)) (xs (i + 2))
  refine k_aload_n (pc := 824) C dL_law_824 rfl ?_
  refine k_arg (pc := 825) C X (j := 1) (by omega) rfl dL_law_825 dL_law_826 dL_law_827 dL_law_828 dL_law_829 ?_
  refine k_arg (pc := 830) C X (j := 2) (by omega) rfl dL_law_830 dL_law_831 dL_law_832 dL_law_833 dL_law_834 ?_
  refine k_callL (pc := 835) C cv_L_95 (ct_X7_picked (hy_mo r1)) k_in7 rfl rfl rfl (by decide) hcs rfl (Nat.le_of_ble_eq_true rfl) dL_law_835 ?_
  have js := j_picked h (xs (i + 1)) (xs (i + 2))
  exact k_icmp_eqT (pc := 838) C 1287 dL_law_838 (by decide) js.1 (kont _ _ js.2)
theorem lc_wear (C : k_Cx p s m args meth c D cy ad bs k_KS (Mt_L nm)) (X : k_LX s ad bs b n xs) (hcs : cells ≤ room_1.cells ∧ slots ≤ room_1.slots) (hi : i + 5 < n) (h : k_R nC nB mi ml mi ml) (kont : ∀ mi ml, k_J mi ml → k_V p l e room_1 s m args below meth c D cy ad bs k_KS k_R0 cells slots Q mi ml 1287 (k_Lc i) []) : k_V p l e room_1 s m args below meth c D cy ad bs k_KS k_R0 cells slots Q mi ml 843 (k_Lc i) [] := by
  refine k_aload_n (pc := 843) C dL_law_843 rfl ?_
  refine k_arg (pc := 844) C X (j := 1) (by omega) rfl dL_law_844 dL_law_845 dL_law_846 dL_law_847 dL_law_848 ?_
  refine k_arg (pc := 849) C X (j := 2) (by omega) rfl dL_law_849 dL_law_850 dL_law_851 dL_law_852 dL_law_853 ?_
  refine k_callL (pc := 854) C cv_L_96 (ct_X6_wear (hy_zo0 h)) k_in6 rfl rfl rfl (by decide) hcs rfl (Nat.zero_le _) dL_law_854 ?_
  have r1 := r1_wear h (xs (i + 1)) (xs (i + 2))
  refine k_aload_n (pc := 857) C dL_law_857 rfl ?_
  refine k_arg (pc := 858) C X (j := 1) (by omega) rfl dL_law_858 dL_law_859 dL_law_860 dL_law_861 dL_law_862 ?_
  refine k_arg (pc := 863) C X (j := 2) (by omega) rfl dL_law_863 dL_law_864 dL_law_865 dL_law_866 dL_law_867 ?_
  refine k_callL (pc := 868) C cv_L_99 (ct_X7_wear (hy_mo r1)) k_in7 rfl rfl rfl (by decide) hcs rfl (Nat.le_of_ble_eq_true rfl) dL_law_868 ?_
  have js := j_wear h (xs (i + 1)) (xs (i + 2))
  exact k_icmp_eqT (pc := 871) C 1287 dL_law_871 (by decide) js.1 (kont _ _ js.2)
theorem lc_unkept (C : k_Cx p s m args meth c D cy ad bs k_KS (Mt_L nm)) (X : k_LX s ad bs b n xs) (hcs : cells ≤ room_1.cells ∧ slots ≤ room_1.slots) (hi : i + 5 < n) (h : k_R nC nB mi ml mi ml) (kont : ∀ mi ml, k_J mi ml → k_V p l e room_1 s m args below meth c D cy ad bs k_KS k_R0 cells slots Q mi ml 1287 (k_Lc i) []) : k_V p l e room_1 s m args below meth c D cy ad bs k_KS k_R0 cells slots Q mi ml 876 (k_Lc i) [] := by
  refine k_aload_n (pc := 876) C dL_law_876 rfl ?_
  refine k_arg (pc := 877) C X (j := 1) (by omega) rfl dL_law_877 dL_law_878 dL_law_879 dL_law_880 dL_law_881 ?_
  refine k_arg (pc := 882) C X (j := 2) (by omega) rfl dL_law_882 dL_law_883 dL_law_884 dL_law_885 dL_law_886 ?_
  refine k_callL (pc := 887) C cv_L_100 (ct_X6_unkept (hy_zo0 h)) k_in6 rfl rfl rfl (by decide) hcs rfl (Nat.zero_le _) dL_law_887 ?_
  have r1 := r1_unkept h (xs (i + 1)) (xs (i + 2))
  refine k_aload_n (pc := 890) C dL_law_890 rfl ?_
  refine k_arg (pc := 891) C X (j := 1) (by omega) rfl dL_law_891 dL_law_892 dL_law_893 dL_law_894 dL_law_895 ?_
  refine k_arg (pc := 896) C X (j := 2) (by omega) rfl dL_law_896 dL_law_897 dL_law_898 dL_law_899 dL_law_900 ?_
  refine k_callL (pc := 901) C cv_L_103 (ct_X7_unkept (hy_mo r1)) k_in7 rfl rfl rfl (by decide) hcs rfl (Nat.le_of_ble_eq_true rfl) dL_law_901 ?_
  have js := j_unkept h (xs (i + 1)) (xs (i + 2))
  exact k_icmp_eqT (pc := 904) C 1287 dL_law_904 (by decide) js.1 (kont _ _ js.2)
theorem lc_parting (C : k_Cx p s m args meth c D cy ad bs k_KS (Mt_L nm)) (X : k_LX s ad bs b n xs) (hcs : cells ≤ room_1.cells ∧ slots ≤ room_1.slots) (hi : i + 5 < n) (h : k_R nC nB mi ml mi ml) (kont : ∀ mi ml, k_J mi ml → k_V p l e room_1 s m args below meth c D cy ad bs k_KS k_R0 cells slots Q mi ml 1287 (k_Lc i) []) : k_V p l e room_1 s m args below meth c D cy ad bs k_KS k_R0 cells slots Q mi ml 909 (k_Lc i) [] := by
  refine k_aload_n (pc := 909) C dL_law_909 rfl ?_
  refine k_arg (pc := 910) C X (j := 1) (by omega) rfl dL_law_910 dL_law_911 dL_law_912 dL_law_913 dL_law_914 ?_
  refine k_callL (pc := 915) C cv_L_104 (ct_X6_parting (hy_num (by decide) h)) k_in6 rfl rfl rfl (by decide) hcs rfl (Nat.zero_le _) dL_law_915 ?_
  have r1 := r1_parting h (xs (i + 1))
  refine k_aload_n (pc := 918) C dL_law_918 rfl ?_
  refine k_arg (pc := 919) C X (j := 1) (by omega) rfl dL_law_919 dL_law_920 dL_law_921 dL_law_922 dL_law_923 ?_
  refine k_callL (pc := 924) C cv_L_107 (ct_X7_parting (hy_mo r1)) k_in7 rfl rfl rfl (by decide) hcs rfl (Nat.le_of_ble_eq_true rfl) dL_law_924 ?_
  have js := j_parting h (xs (i + 1))
  exact k_icmp_eqT (pc := 927) C 1287 dL_law_927 (by decide) js.1 (kont _ _ js.2)
theorem lc_rests (C : k_Cx p s m args meth c D cy ad bs k_KS (Mt_L nm)) (X : k_LX s ad bs b n xs) (hcs : cells ≤ room_1.cells ∧ slots ≤ room_1.slots) (hi : i + 5 < n) (h : k_R nC nB mi ml mi ml) (kont : ∀ mi ml, k_J mi ml → k_V p l e room_1 s m args below meth c D cy ad bs k_KS k_R0 cells slots Q mi ml 1287 (k_Lc i) []) : k_V p l e room_1 s m args below meth c D cy ad bs k_KS k_R0 cells slots Q mi ml 932 (k_Lc i) [] := by
  refine k_aload_n (pc := 932) C dL_law_932 rfl ?_
  refine k_arg (pc := 933) C X (j := 1) (by omega) rfl dL_law_933 dL_law_934 dL_law_935 dL_law_936 dL_law_937 ?_
  refine k_callL (pc := 938) C cv_L_108 (ct_X6_rests) k_in6 rfl rfl rfl (by decide) hcs rfl (Nat.zero_le _) dL_law_938 ?_
  have r1 := r1_rests h (xs (i + 1))
  refine k_aload_n (pc := 941) C dL_law_941 rfl ?_
  refine k_arg (pc := 942) C X (j := 1) (by omega) rfl dL_law_942 dL_law_943 dL_law_944 dL_law_945 dL_law_946 ?_
  refine k_callL (pc := 947) C cv_L_111 (ct_X7_rests (hy_mo r1) (hy_pz r1)) k_in7 rfl rfl rfl (by decide) hcs rfl (Nat.le_of_ble_eq_true rfl) dL_law_947 ?_
  have js := j_rests h (xs (i + 1))
  exact k_icmp_eqT (pc := 950) C 1287 dL_law_950 (by decide) js.1 (kont _ _ js.2)
theorem lc_shun (C : k_Cx p s m args meth c D cy ad bs k_KS (Mt_L nm)) (X : k_LX s ad bs b n xs) (hcs : cells ≤ room_1.cells ∧ slots ≤ room_1.slots) (hi : i + 5 < n) (h : k_R nC nB mi ml mi ml) (kont : ∀ mi ml, k_J mi ml → k_V p l e room_1 s m args below meth c D cy ad bs k_KS k_R0 cells slots Q mi ml 1287 (k_Lc i) []) : k_V p l e room_1 s m args below meth c D cy ad bs k_KS k_R0 cells slots Q mi ml 955 (k_Lc i) [] := by
  refine k_aload_n (pc := 955) C dL_law_955 rfl ?_
  refine k_arg (pc := 956) C X (j := 1) (by omega) rfl dL_law_956 dL_law_957 dL_law_958 dL_law_959 dL_law_960 ?_
  refine k_arg (pc := 961) C X (j := 2) (by omega) rfl dL_law_961 dL_law_962 dL_law_963 dL_law_964 dL_law_965 ?_
  refine k_callL (pc := 966) C cv_L_112 (ct_X6_shun (hy_zo0 h)) k_in6 rfl rfl rfl (by decide) hcs rfl (Nat.zero_le _) dL_law_966 ?_
  have r1 := r1_shun h (xs (i + 1)) (xs (i + 2))
  refine k_aload_n (pc := 969) C dL_law_969 rfl ?_
  refine k_arg (pc := 970) C X (j := 1) (by omega) rfl dL_law_970 dL_law_971 dL_law_972 dL_law_973 dL_law_974 ?_
  refine k_arg (pc := 975) C X (j := 2) (by omega) rfl dL_law_975 dL_law_976 dL_law_977 dL_law_978 dL_law_979 ?_
  refine k_callL (pc := 980) C cv_L_115 (ct_X7_shun (hy_mo r1)) k_in7 rfl rfl rfl (by decide) hcs rfl (Nat.le_of_ble_eq_true rfl) dL_law_980 ?_
  have js := j_shun h (xs (i + 1)) (xs (i + 2))
  exact k_icmp_eqT (pc := 983) C 1287 dL_law_983 (by decide) js.1 (kont _ _ js.2)
theorem lc_rules (C : k_Cx p s m args meth c D cy ad bs k_KS (Mt_L nm)) (X : k_LX s ad bs b n xs) (hcs : cells ≤ room_1.cells ∧ slots ≤ room_1.slots) (hi : i + 5 < n) (h : k_R nC nB mi ml mi ml) (kont : ∀ mi ml, k_J mi ml → k_V p l e room_1 s m args below meth c D cy ad bs k_KS k_R0 cells slots Q mi ml 1287 (k_Lc i) []) : k_V p l e room_1 s m args below meth c D cy ad bs k_KS k_R0 cells slots Q mi ml 988 (k_Lc i) [] := by
  refine k_aload_n (pc := 988) C dL_law_988 rfl ?_
  refine k_arg (pc := 989) C X (j := 1) (by omega) rfl dL_law_989 dL_law_990 dL_law_991 dL_law_992 dL_law_993 ?_
  refine k_arg (pc := 994) C X (j := 2) (by omega) rfl dL_law_994 dL_law_995 dL_law_996 dL_law_997 dL_law_998 ?_
  refine k_callL (pc := 999) C cv_L_116 (ct_X6_rules (hy_zo0 h)) k_in6 rfl rfl rfl (by decide) hcs rfl (Nat.zero_le _) dL_law_999 ?_
  have r1 := r1_rules h (xs (i + 1)) (xs (i + 2))
  refine k_aload_n (pc := 1002) C dL_law_1002 rfl ?_
  refine k_arg (pc := 1003) C X (j := 1) (by omega) rfl dL_law_1003 dL_law_1004 dL_law_1005 dL_law_1006 dL_law_1007 ?_
  refine k_arg (pc := 1008) C X (j := 2) (by omega) rfl dL_law_1008 dL_law_1009 dL_law_1010 dL_law_1011 dL_law_1012 ?_
  refine k_callL (pc := 1013) C cv_L_119 (ct_X7_rules (hy_mo r1)) k_in7 rfl rfl rfl (by decide) hcs rfl (Nat.le_of_ble_eq_true rfl) dL_law_1013 ?_
  have js := j_rules h (xs (i + 1)) (xs (i + 2))
  exact k_icmp_eqT (pc := 1016) C 1287 dL_law_1016 (by decide) js.1 (kont _ _ js.2)
theorem lc_hide (C : k_Cx p s m args meth c D cy ad bs k_KS (Mt_L nm)) (X : k_LX s ad bs b n xs) (hcs : cells ≤ room_1.cells ∧ slots ≤ room_1.slots) (hi : i + 5 < n) (h : k_R nC nB mi ml mi ml) (kont : ∀ mi ml, k_J mi ml → k_V p l e room_1 s m args below meth c D cy ad bs k_KS k_R0 cells slots Q mi ml 1287 (k_Lc i) []) : k_V p l e room_1 s m args below meth c D cy ad bs k_KS k_R0 cells slots Q mi ml 1021 (k_Lc i) [] := by
  refine k_aload_n (pc := 1021) C dL_law_1021 rfl ?_
  refine k_callL (pc := 1022) C cv_L_120 (ct_X6_hide (mi := mi) (ml := ml)) k_in6 rfl rfl rfl (by decide) hcs rfl (Nat.zero_le _) dL_law_1022 ?_
  have r1 := r1_hide h
  refine k_aload_n (pc := 1025) C dL_law_1025 rfl ?_
  refine k_callL (pc := 1026) C cv_L_123 (ct_X7_hide (mi := (f_X6_hide mi).2) (ml := ml) (nC := nC) (nB := nB) (hy_mo r1)) k_in7 rfl rfl rfl (by decide) hcs rfl (Nat.le_of_ble_eq_true rfl) dL_law_1026 ?_
  have js := j_hide h
  exact k_icmp_eqT (pc := 1029) C 1287 dL_law_1029 (by decide) js.1 (kont _ _ js.2)
theorem lc_lose (C : k_Cx p s m args meth c D cy ad bs k_KS (Mt_L nm)) (X : k_LX s ad bs b n xs) (hcs : cells ≤ room_1.cells ∧ slots ≤ room_1.slots) (hi : i + 5 < n) (h : k_R nC nB mi ml mi ml) (kont : ∀ mi ml, k_J mi ml → k_V p l e room_1 s m args below meth c D cy ad bs k_KS k_R0 cells slots Q mi ml 1287 (k_Lc i) []) : k_V p l e room_1 s m args below meth c D cy ad bs k_KS k_R0 cells slots Q mi ml 1034 (k_Lc i) [] := by
  refine k_aload_n (pc := 1034) C dL_law_1034 rfl ?_
  refine k_arg (pc := 1035) C X (j := 1) (by omega) rfl dL_law_1035 dL_law_1036 dL_law_1037 dL_law_1038 dL_law_1039 ?_
  refine k_callL (pc := 1040) C cv_L_124 (ct_X6_lose (hy_zo0 h)) k_in6 rfl rfl rfl (by decide) hcs rfl (Nat.zero_le _) dL_law_1040 ?_
  have r1 := r1_lose h (xs (i + 1))
  refine k_aload_n (pc := 1043) C dL_law_1043 rfl ?_
  refine k_arg (pc := 1044) C X (j := 1) (by omega) rfl dL_law_1044 dL_law_1045 dL_law_1046 dL_law_1047 dL_law_1048 ?_
  refine k_callL (pc := 1049) C cv_L_127 (ct_X7_lose (hy_mo r1)) k_in7 rfl rfl rfl (by decide) hcs rfl (Nat.le_of_ble_eq_true rfl) dL_law_1049 ?_
  have js := j_lose h (xs (i + 1))
  exact k_icmp_eqT (pc := 1052) C 1287 dL_law_1052 (by decide) js.1 (kont _ _ js.2)
theorem lc_best (C : k_Cx p s m args meth c D cy ad bs k_KS (Mt_L nm)) (X : k_LX s ad bs b n xs) (hcs : cells ≤ room_1.cells ∧ slots ≤ room_1.slots) (hi : i + 5 < n) (h : k_R nC nB mi ml mi ml) (kont : ∀ mi ml, k_J mi ml → k_V p l e room_1 s m args below meth c D cy ad bs k_KS k_R0 cells slots Q mi ml 1287 (k_Lc i) []) : k_V p l e room_1 s m args below meth c D cy ad bs k_KS k_R0 cells slots Q mi ml 1057 (k_Lc i) [] := by
  refine k_aload_n (pc := 1057) C dL_law_1057 rfl ?_
  refine k_callL (pc := 1058) C cv_L_128 (ct_X6_best (hy_zo0 h)) k_in6 rfl rfl rfl (by decide) hcs rfl (Nat.zero_le _) dL_law_1058 ?_
  have r1 := r1_best h
  refine k_aload_n (pc := 1061) C dL_law_1061 rfl ?_
  refine k_callL (pc := 1062) C cv_L_131 (ct_X7_best (hy_mo r1)) k_in7 rfl rfl rfl (by decide) hcs rfl (Nat.le_of_ble_eq_true rfl) dL_law_1062 ?_
  have js := j_best h
  exact k_icmp_eqT (pc := 1065) C 1287 dL_law_1065 (by decide) js.1 (kont _ _ js.2)
theorem lc_judge (C : k_Cx p s m args meth c D cy ad bs k_KS (Mt_L nm)) (X : k_LX s ad bs b n xs) (hcs : cells ≤ room_1.cells ∧ slots ≤ room_1.slots) (hi : i + 5 < n) (h : k_R nC nB mi ml mi ml) (kont : ∀ mi ml, k_J mi ml → k_V p l e room_1 s m args below meth c D cy ad bs k_KS k_R0 cells slots Q mi ml 1287 (k_Lc i) []) : k_V p l e room_1 s m args below meth c D cy ad bs k_KS k_R0 cells slots Q mi ml 1070 (k_Lc i) [] := by
  refine k_aload_n (pc := 1070) C dL_law_1070 rfl ?_
  refine k_arg (pc := 1071) C X (j := 1) (by omega) rfl dL_law_1071 dL_law_1072 dL_law_1073 dL_law_1074 dL_law_1075 ?_
  refine k_arg (pc := 1076) C X (j := 2) (by omega) rfl dL_law_1076 dL_law_1077 dL_law_1078 dL_law_1079 dL_law_1080 ?_
  refine k_callL (pc := 1081) C cv_L_132 (ct_X6_judge) k_in6 rfl rfl rfl (by decide) hcs rfl (Nat.zero_le _) dL_law_1081 ?_
  have r1 := r1_judge h (xs (i + 1)) (xs (i + 2))
  refine k_aload_n (pc := 1084) C dL_law_1084 rfl ?_
  refine k_arg (pc := 1085) C X (j := 1) (by omega) rfl dL_law_1085 dL_law_1086 dL_law_1087 dL_law_1088 dL_law_1089 ?_
  refine k_arg (pc := 1090) C X (j := 2) (by omega) rfl dL_law_1090 dL_law_1091 dL_law_1092 dL_law_1093 dL_law_1094 ?_
  refine k_callL (pc := 1095) C cv_L_135 (ct_X7_judge (hy_mo r1)) k_in7 rfl rfl rfl (by decide) hcs rfl (Nat.le_of_ble_eq_true rfl) dL_law_1095 ?_
  have js := j_judge h (xs (i + 1)) (xs (i + 2))
  exact k_icmp_eqT (pc := 1098) C 1287 dL_law_1098 (by decide) js.1 (kont _ _ js.2)
theorem lc_mornings (C : k_Cx p s m args meth c D cy ad bs k_KS (Mt_L nm)) (X : k_LX s ad bs b n xs) (hcs : cells ≤ room_1.cells ∧ slots ≤ room_1.slots) (hi : i + 5 < n) (h : k_R nC nB mi ml mi ml) (kont : ∀ mi ml, k_J mi ml → k_V p l e room_1 s m args below meth c D cy ad bs k_KS k_R0 cells slots Q mi ml 1287 (k_Lc i) []) : k_V p l e room_1 s m args below meth c D cy ad bs k_KS k_R0 cells slots Q mi ml 1103 (k_Lc i) [] := by
  refine k_aload_n (pc := 1103) C dL_law_1103 rfl ?_
  refine k_arg (pc := 1104) C X (j := 1) (by omega) rfl dL_law_1104 dL_law_1105 dL_law_1106 dL_law_1107 dL_law_1108 ?_
  refine k_callL (pc := 1109) C cv_L_136 (ct_X6_mornings) k_in6 rfl rfl rfl (by decide) hcs rfl (Nat.zero_le _) dL_law_1109 ?_
  have r1 := r1_mornings h (xs (i + 1))
  refine k_aload_n (pc := 1112) C dL_law_1112 rfl ?_
  refine k_arg (pc := 1113) C X (j := 1) (by omega) rfl dL_law_1113 dL_law_1114 dL_law_1115 dL_law_1116 dL_law_1117 ?_
  refine k_callL (pc := 1118) C cv_L_139 (ct_X7_mornings (hy_mo r1)) k_in7 rfl rfl rfl (by decide) hcs rfl (Nat.le_of_ble_eq_true rfl) dL_law_1118 ?_
  have js := j_mornings h (xs (i + 1))
  exact k_icmp_eqT (pc := 1121) C 1287 dL_law_1121 (by decide) js.1 (kont _ _ js.2)
theorem lc_winters (C : k_Cx p s m args meth c D cy ad bs k_KS (Mt_L nm)) (X : k_LX s ad bs b n xs) (hcs : cells ≤ room_1.cells ∧ slots ≤ room_1.slots) (hi : i + 5 < n) (h : k_R nC nB mi ml mi ml) (kont : ∀ mi ml, k_J mi ml → k_V p l e room_1 s m args below meth c D cy ad bs k_KS k_R0 cells slots Q mi ml 1287 (k_Lc i) []) : k_V p l e room_1 s m args below meth c D cy ad bs k_KS k_R0 cells slots Q mi ml 1126 (k_Lc i) [] := by
  by_cases o : f_X6_isOutside (xs (i + 1)) 1 60 = 0
  · skip
    refine k_aload_n (pc := 1126) C dL_law_1126 rfl ?_
    refine k_arg (pc := 1127) C X (j := 1) (by omega) rfl dL_law_1127 dL_law_1128 dL_law_1129 dL_law_1130 dL_law_1131 ?_
    refine k_callL (pc := 1132) C cv_L_140 (ct_X6_wintersA o) k_in6 rfl rfl rfl (by decide) hcs rfl (Nat.zero_le _) dL_law_1132 ?_
    have r1 := r1_winters h (xs (i + 1))
    refine k_aload_n (pc := 1135) C dL_law_1135 rfl ?_
    refine k_arg (pc := 1136) C X (j := 1) (by omega) rfl dL_law_1136 dL_law_1137 dL_law_1138 dL_law_1139 dL_law_1140 ?_
    refine k_callL (pc := 1141) C cv_L_143 (ct_X7_winters (hy_mo r1)) k_in7 rfl rfl rfl (by decide) hcs rfl (Nat.le_of_ble_eq_true rfl) dL_law_1141 ?_
    have js := j_winters h (xs (i + 1))
    exact k_icmp_eqT (pc := 1144) C 1287 dL_law_1144 (by decide) js.1 (kont _ _ js.2)
  · skip
    refine k_aload_n (pc := 1126) C dL_law_1126 rfl ?_
    refine k_arg (pc := 1127) C X (j := 1) (by omega) rfl dL_law_1127 dL_law_1128 dL_law_1129 dL_law_1130 dL_law_1131 ?_
    refine k_callL (pc := 1132) C cv_L_140 (ct_X6_winters_out o) k_in6 rfl rfl rfl (by decide) hcs rfl (Nat.zero_le _) dL_law_1132 ?_
    have r1 := r1_winters h (xs (i + 1))
    refine k_aload_n (pc := 1135) C dL_law_1135 rfl ?_
    refine k_arg (pc := 1136) C X (j := 1) (by omega) rfl dL_law_1136 dL_law_1137 dL_law_1138 dL_law_1139 dL_law_1140 ?_
    refine k_callL (pc := 1141) C cv_L_143 (ct_X7_winters (hy_mo r1)) k_in7 rfl rfl rfl (by decide) hcs rfl (Nat.le_of_ble_eq_true rfl) dL_law_1141 ?_
    have js := j_winters h (xs (i + 1))
    exact k_icmp_eqT (pc := 1144) C 1287 dL_law_1144 (by decide) js.1 (kont _ _ js.2)
theorem lc_seed (C : k_Cx p s m args meth c D cy ad bs k_KS (Mt_L nm)) (X : k_LX s ad bs b n xs) (hcs : cells ≤ room_1.cells ∧ slots ≤ room_1.slots) (hi : i + 5 < n) (h : k_R nC nB mi ml mi ml) (kont : ∀ mi ml, k_J mi ml → k_V p l e room_1 s m args below meth c D cy ad bs k_KS k_R0 cells slots Q mi ml 1287 (k_Lc i) []) : k_V p l e room_1 s m args below meth c D cy ad bs k_KS k_R0 cells slots Q mi ml 1149 (k_Lc i) [] := by
  refine k_aload_n (pc := 1149) C dL_law_1149 rfl ?_
  refine k_arg (pc := 1150) C X (j := 1) (by omega) rfl dL_law_1150 dL_law_1151 dL_law_1152 dL_law_1153 dL_law_1154 ?_
  refine k_callL (pc := 1155) C cv_L_144 (ct_X6_seed) k_in6 rfl rfl rfl (by decide) hcs rfl (Nat.zero_le _) dL_law_1155 ?_
  have r1 := r1_seed h (xs (i + 1))
  refine k_aload_n (pc := 1158) C dL_law_1158 rfl ?_
  refine k_arg (pc := 1159) C X (j := 1) (by omega) rfl dL_law_1159 dL_law_1160 dL_law_1161 dL_law_1162 dL_law_1163 ?_
  refine k_callL (pc := 1164) C cv_L_147 (ct_X7_seed) k_in7 rfl rfl rfl (by decide) hcs rfl (Nat.le_of_ble_eq_true rfl) dL_law_1164 ?_
  have js := j_seed h (xs (i + 1))
  exact k_icmp_eqT (pc := 1167) C 1287 dL_law_1167 (by decide) js.1 (kont _ _ js.2)
theorem lc_act (C : k_Cx p s m args meth c D cy ad bs k_KS (Mt_L nm)) (X : k_LX s ad bs b n xs) (hcs : cells ≤ room_1.cells ∧ slots ≤ room_1.slots) (hi : i + 5 < n) (h : k_R nC nB mi ml mi ml) (kont : ∀ mi ml, k_J mi ml → k_V p l e room_1 s m args below meth c D cy ad bs k_KS k_R0 cells slots Q mi ml 1287 (k_Lc i) []) : k_V p l e room_1 s m args below meth c D cy ad bs k_KS k_R0 cells slots Q mi ml 1172 (k_Lc i) [] := by
  refine k_aload_n (pc := 1172) C dL_law_1172 rfl ?_
  refine k_arg (pc := 1173) C X (j := 1) (by omega) rfl dL_law_1173 dL_law_1174 dL_law_1175 dL_law_1176 dL_law_1177 ?_
  refine k_arg (pc := 1178) C X (j := 2) (by omega) rfl dL_law_1178 dL_law_1179 dL_law_1180 dL_law_1181 dL_law_1182 ?_
  refine k_arg (pc := 1183) C X (j := 3) (by omega) rfl dL_law_1183 dL_law_1184 dL_law_1185 dL_law_1186 dL_law_1187 ?_
  refine k_callL (pc := 1188) C cv_L_148 (ct_X6_act) k_in6 rfl rfl rfl (by decide) hcs rfl (Nat.zero_le _) dL_law_1188 ?_
  have r1 := r1_act h (xs (i + 1)) (xs (i + 2)) (xs (i + 3))
  refine k_aload_n (pc := 1191) C dL_law_1191 rfl ?_
  refine k_arg (pc := 1192) C X (j := 1) (by omega) rfl dL_law_1192 dL_law_1193 dL_law_1194 dL_law_1195 dL_law_1196 ?_
  refine k_arg (pc := 1197) C X (j := 2) (by omega) rfl dL_law_1197 dL_law_1198 dL_law_1199 dL_law_1200 dL_law_1201 ?_
  refine k_arg (pc := 1202) C X (j := 3) (by omega) rfl dL_law_1202 dL_law_1203 dL_law_1204 dL_law_1205 dL_law_1206 ?_
  refine k_callL (pc := 1207) C cv_L_151 (ct_X7_act (hy_mo r1)) k_in7 rfl rfl rfl (by decide) hcs rfl (Nat.le_of_ble_eq_true rfl) dL_law_1207 ?_
  have js := j_act h (xs (i + 1)) (xs (i + 2)) (xs (i + 3))
  exact k_icmp_eqT (pc := 1210) C 1287 dL_law_1210 (by decide) js.1 (kont _ _ js.2)
theorem lc_trace (C : k_Cx p s m args meth c D cy ad bs k_KS (Mt_L nm)) (X : k_LX s ad bs b n xs) (hcs : cells ≤ room_1.cells ∧ slots ≤ room_1.slots) (hi : i + 5 < n) (h : k_R nC nB mi ml mi ml) (kont : ∀ mi ml, k_J mi ml → k_V p l e room_1 s m args below meth c D cy ad bs k_KS k_R0 cells slots Q mi ml 1287 (k_Lc i) []) : k_V p l e room_1 s m args below meth c D cy ad bs k_KS k_R0 cells slots Q mi ml 1215 (k_Lc i) [] := by
  refine k_aload_n (pc := 1215) C dL_law_1215 rfl ?_
  refine k_arg (pc := 1216) C X (j := 1) (by omega) rfl dL_law_1216 dL_law_1217 dL_law_1218 dL_law_1219 dL_law_1220 ?_
  refine k_callL (pc := 1221) C cv_L_152 (ct_X6_trace) k_in6 rfl rfl rfl (by decide) hcs rfl (Nat.zero_le _) dL_law_1221 ?_
  have r1 := h
  refine k_aload_n (pc := 1224) C dL_law_1224 rfl ?_
  refine k_arg (pc := 1225) C X (j := 1) (by omega) rfl dL_law_1225 dL_law_1226 dL_law_1227 dL_law_1228 dL_law_1229 ?_
  refine k_callL (pc := 1230) C cv_L_155 (ct_X7_trace) k_in7 rfl rfl rfl (by decide) hcs rfl (Nat.le_of_ble_eq_true rfl) dL_law_1230 ?_
  exact k_icmp_eqT (pc := 1233) C 1287 dL_law_1233 (by decide) (q_trace h (xs (i + 1))) (kont _ _ ⟨nC, nB, h⟩)
theorem lc_image (C : k_Cx p s m args meth c D cy ad bs k_KS (Mt_L nm)) (X : k_LX s ad bs b n xs) (hcs : cells ≤ room_1.cells ∧ slots ≤ room_1.slots) (hi : i + 5 < n) (h : k_R nC nB mi ml mi ml) (kont : ∀ mi ml, k_J mi ml → k_V p l e room_1 s m args below meth c D cy ad bs k_KS k_R0 cells slots Q mi ml 1287 (k_Lc i) []) : k_V p l e room_1 s m args below meth c D cy ad bs k_KS k_R0 cells slots Q mi ml 1238 (k_Lc i) [] := by
  refine k_aload_n (pc := 1238) C dL_law_1238 rfl ?_
  refine k_callL (pc := 1239) C cv_L_156 (ct_X6_image (hy_zo0 h)) k_in6 rfl rfl rfl (by decide) hcs rfl (Nat.zero_le _) dL_law_1239 ?_
  have r1 := r1_image h
  refine k_aload_n (pc := 1242) C dL_law_1242 rfl ?_
  refine k_callL (pc := 1243) C cv_L_159 (ct_X7_image) k_in7 rfl rfl rfl (by decide) hcs rfl (Nat.le_of_ble_eq_true rfl) dL_law_1243 ?_
  have js := j_image h
  exact k_icmp_eqT (pc := 1246) C 1287 dL_law_1246 (by decide) js.1 (kont _ _ js.2)
theorem lc_restore (C : k_Cx p s m args meth c D cy ad bs k_KS (Mt_L nm)) (X : k_LX s ad bs b n xs) (hcs : cells ≤ room_1.cells ∧ slots ≤ room_1.slots) (hi : i + 5 < n) (h : k_R nC nB mi ml mi ml) (kont : ∀ mi ml, k_J mi ml → k_V p l e room_1 s m args below meth c D cy ad bs k_KS k_R0 cells slots Q mi ml 1287 (k_Lc i) []) : k_V p l e room_1 s m args below meth c D cy ad bs k_KS k_R0 cells slots Q mi ml 1251 (k_Lc i) [] := by
  refine k_aload_n (pc := 1251) C dL_law_1251 rfl ?_
  refine k_callL (pc := 1252) C cv_L_160 (ct_X6_restore (hy_zo2 h)) k_in6 rfl rfl rfl (by decide) hcs rfl (Nat.zero_le _) dL_law_1252 ?_
  have r1 := r1_restore h
  refine k_aload_n (pc := 1255) C dL_law_1255 rfl ?_
  refine k_callL (pc := 1256) C cv_L_163 (ct_X7_restore) k_in7 rfl rfl rfl (by decide) hcs rfl (Nat.le_of_ble_eq_true rfl) dL_law_1256 ?_
  have js := j_restore h
  exact k_icmp_eqT (pc := 1259) C 1287 dL_law_1259 (by decide) js.1 (kont _ _ js.2)
theorem lc_status (C : k_Cx p s m args meth c D cy ad bs k_KS (Mt_L nm)) (X : k_LX s ad bs b n xs) (hcs : cells ≤ room_1.cells ∧ slots ≤ room_1.slots) (hi : i + 5 < n) (h : k_R nC nB mi ml mi ml) (kont : ∀ mi ml, k_J mi ml → k_V p l e room_1 s m args below meth c D cy ad bs k_KS k_R0 cells slots Q mi ml 1287 (k_Lc i) []) : k_V p l e room_1 s m args below meth c D cy ad bs k_KS k_R0 cells slots Q mi ml 1264 (k_Lc i) [] := by
  refine k_aload_n (pc := 1264) C dL_law_1264 rfl ?_
  refine k_arg (pc := 1265) C X (j := 1) (by omega) rfl dL_law_1265 dL_law_1266 dL_law_1267 dL_law_1268 dL_law_1269 ?_
  refine k_callL (pc := 1270) C cv_L_164 (ct_X6_status) k_in6 rfl rfl rfl (by decide) hcs rfl (Nat.zero_le _) dL_law_1270 ?_
  have r1 := h
  refine k_aload_n (pc := 1273) C dL_law_1273 rfl ?_
  refine k_arg (pc := 1274) C X (j := 1) (by omega) rfl dL_law_1274 dL_law_1275 dL_law_1276 dL_law_1277 dL_law_1278 ?_
  refine k_callL (pc := 1279) C cv_L_167 (ct_X7_status (hy_mo r1)) k_in7 rfl rfl rfl (by decide) hcs rfl (Nat.le_of_ble_eq_true rfl) dL_law_1279 ?_
  exact k_icmp_eqT (pc := 1282) C 1287 dL_law_1282 (by decide) (q_status h (xs (i + 1))) (kont _ _ ⟨nC, nB, h⟩)
end LQ
