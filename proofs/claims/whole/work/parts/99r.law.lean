-- LAW A: by program (wip/whole/gen/d2.py): the law's cases
def miL_law : zM := (⟨"RegretLocksLaw", "law", "([I)Z"⟩, cL_law, 4, some .boolean)
abbrev lvL (i : Nat) : List (Option Value) := [some (.ref 2), some (.ref 16), some (.ref 160), some (.int (nI i))]
/-- a place of the script -/
def scV (G : zG) (i : Nat) : Int32 := zoX G 2 (nI i).toNatClampNeg
section LAWA
variable {G : zG} {rm : Room} {Q : List Frame → Array Value → State → State → Prop} {pc n : Nat} {st : List Value} {M : zMem} {X : zX} {cn : Nat × Nat} {i C N : Nat} {I : zMem → zX → Prop}
theorem j_arg {j : Nat} {jj : Int} (d0 : decode (zc miL_law) pc = .ok (.aload_n 0, 1)) (d1 : decode (zc miL_law) (pc + 1) = .ok (.iload_n 3, 1)) (d2 : decode (zc miL_law) (pc + 2) = .ok (.iconst jj, 1)) (d3 : decode (zc miL_law) (pc + 3) = .ok (.iadd, 1)) (d4 : decode (zc miL_law) (pc + 4) = .ok (.iaload, 1)) (hn : pc + 5 = n) (hj : Int32.ofInt jj = nI j) (hi : i + j < zoL G 2) (hL : zoL G 2 ≤ 3072) (kk : zAt G miL_law rm Q n (lvL i) (.int (scV G (i + j)) :: st) M X cn) : zAt G miL_law rm Q pc (lvL i) st M X cn := by
  subst hn
  refine j_aload_n d0 rfl rfl ?_
  refine j_iload_n d1 rfl rfl ?_
  refine j_iconst d2 rfl hj ?_
  refine j_iaddN d3 rfl rfl ?_
  exact j_sald d4 rfl (by decide) (vp_inN hi (by omega)) kk
theorem L_one (hx : xc X 16 = 8 ∧ 16 < xz X) (hL : zoL G 2 ≤ 3072) (hi : i + 5 < zoL G 2) (hO : OpC G miX9_one miX10_one [.int (scV G (i + 1)), .int (scV G (i + 2)), .int (scV G (i + 3)), .int (scV G (i + 4)), .int (scV G (i + 5))] M X I C N) (h1 : cn.1 + C ≤ 600000) (h2 : cn.2 + N ≤ 7302250) (kk : ∀ M4 X4, I M4 X4 → zAt G miL_law (zRm 2048 600000 7302250) Q 1697 (lvL i) [] M4 X4 (cn.1 + C, cn.2 + N)) : zAt G miL_law (zRm 2048 600000 7302250) Q 236 (lvL i) [] M X cn := by
  obtain ⟨d1, d2, r, Md, hd1, hd2, hC, hR⟩ := hO
  refine j_aload_n (n := 237) dL_law_236 rfl rfl ?_
  refine j_arg (n := 242) (j := 1) dL_law_237 dL_law_238 dL_law_239 dL_law_240 dL_law_241 rfl (by decide) (by omega) hL ?_
  refine j_arg (n := 247) (j := 2) dL_law_242 dL_law_243 dL_law_244 dL_law_245 dL_law_246 rfl (by decide) (by omega) hL ?_
  refine j_arg (n := 252) (j := 3) dL_law_247 dL_law_248 dL_law_249 dL_law_250 dL_law_251 rfl (by decide) (by omega) hL ?_
  refine j_arg (n := 257) (j := 4) dL_law_252 dL_law_253 dL_law_254 dL_law_255 dL_law_256 rfl (by decide) (by omega) hL ?_
  refine j_arg (n := 262) (j := 5) dL_law_257 dL_law_258 dL_law_259 dL_law_260 dL_law_261 rfl (by decide) (by omega) hL ?_
  refine j_callV (n := 265) (a := 16) (as := [.int (scV G (i + 1)), .int (scV G (i + 2)), .int (scV G (i + 3)), .int (scV G (i + 4)), .int (scV G (i + 5))]) (st := []) dL_law_262 rfl sL_13 hC (by omega) (by decide) rfl rfl (Nat.le_of_ble_eq_true rfl) hx.1 (by decide) hx.2 h1 h2 (fun v M1 X1 hp => ?_)
  obtain ⟨r0, e1, e2, hM1⟩ := hp
  subst e2
  subst e1
  obtain ⟨⟨x1, x2⟩, hR⟩ := hR M1 X1 hM1
  refine j_aload_n (n := 266) dL_law_265 rfl rfl ?_
  refine j_arg (n := 271) (j := 1) dL_law_266 dL_law_267 dL_law_268 dL_law_269 dL_law_270 rfl (by decide) (by omega) hL ?_
  refine j_arg (n := 276) (j := 2) dL_law_271 dL_law_272 dL_law_273 dL_law_274 dL_law_275 rfl (by decide) (by omega) hL ?_
  refine j_arg (n := 281) (j := 3) dL_law_276 dL_law_277 dL_law_278 dL_law_279 dL_law_280 rfl (by decide) (by omega) hL ?_
  refine j_arg (n := 286) (j := 4) dL_law_281 dL_law_282 dL_law_283 dL_law_284 dL_law_285 rfl (by decide) (by omega) hL ?_
  refine j_arg (n := 291) (j := 5) dL_law_286 dL_law_287 dL_law_288 dL_law_289 dL_law_290 rfl (by decide) (by omega) hL ?_
  refine j_callV (n := 294) (a := 160) (as := [.int (scV G (i + 1)), .int (scV G (i + 2)), .int (scV G (i + 3)), .int (scV G (i + 4)), .int (scV G (i + 5))]) (st := [.int r0]) dL_law_291 rfl sL_17 hR (by omega) (by decide) rfl rfl (Nat.le_of_ble_eq_true rfl) x1 (by decide) x2 h1 h2 (fun v M4 X4 hp => ?_)
  obtain ⟨r1, e3, e4, hI⟩ := hp
  subst e4
  subst e3
  exact j_icmp_eq (n := 297) (tg := 1697) dL_law_294 rfl rfl (fun _ => kk M4 X4 hI) (fun h => absurd rfl h)
theorem L_told (hx : xc X 16 = 8 ∧ 16 < xz X) (hL : zoL G 2 ≤ 3072) (hi : i + 5 < zoL G 2) (hO : OpC G miX9_told miX10_told [.int (scV G (i + 1)), .int (scV G (i + 2))] M X I C N) (h1 : cn.1 + C ≤ 600000) (h2 : cn.2 + N ≤ 7302250) (kk : ∀ M4 X4, I M4 X4 → zAt G miL_law (zRm 2048 600000 7302250) Q 1697 (lvL i) [] M4 X4 (cn.1 + C, cn.2 + N)) : zAt G miL_law (zRm 2048 600000 7302250) Q 299 (lvL i) [] M X cn := by
  obtain ⟨d1, d2, r, Md, hd1, hd2, hC, hR⟩ := hO
  refine j_aload_n (n := 300) dL_law_299 rfl rfl ?_
  refine j_arg (n := 305) (j := 1) dL_law_300 dL_law_301 dL_law_302 dL_law_303 dL_law_304 rfl (by decide) (by omega) hL ?_
  refine j_arg (n := 310) (j := 2) dL_law_305 dL_law_306 dL_law_307 dL_law_308 dL_law_309 rfl (by decide) (by omega) hL ?_
  refine j_callV (n := 313) (a := 16) (as := [.int (scV G (i + 1)), .int (scV G (i + 2))]) (st := []) dL_law_310 rfl sL_18 hC (by omega) (by decide) rfl rfl (Nat.le_of_ble_eq_true rfl) hx.1 (by decide) hx.2 h1 h2 (fun v M1 X1 hp => ?_)
  obtain ⟨r0, e1, e2, hM1⟩ := hp
  subst e2
  subst e1
  obtain ⟨⟨x1, x2⟩, hR⟩ := hR M1 X1 hM1
  refine j_aload_n (n := 314) dL_law_313 rfl rfl ?_
  refine j_arg (n := 319) (j := 1) dL_law_314 dL_law_315 dL_law_316 dL_law_317 dL_law_318 rfl (by decide) (by omega) hL ?_
  refine j_arg (n := 324) (j := 2) dL_law_319 dL_law_320 dL_law_321 dL_law_322 dL_law_323 rfl (by decide) (by omega) hL ?_
  refine j_callV (n := 327) (a := 160) (as := [.int (scV G (i + 1)), .int (scV G (i + 2))]) (st := [.int r0]) dL_law_324 rfl sL_22 hR (by omega) (by decide) rfl rfl (Nat.le_of_ble_eq_true rfl) x1 (by decide) x2 h1 h2 (fun v M4 X4 hp => ?_)
  obtain ⟨r1, e3, e4, hI⟩ := hp
  subst e4
  subst e3
  exact j_icmp_eq (n := 330) (tg := 1697) dL_law_327 rfl rfl (fun _ => kk M4 X4 hI) (fun h => absurd rfl h)
theorem L_as (hx : xc X 16 = 8 ∧ 16 < xz X) (hL : zoL G 2 ≤ 3072) (hi : i + 5 < zoL G 2) (hO : OpC G miX9_as miX10_as [.int (scV G (i + 1)), .int (scV G (i + 2))] M X I C N) (h1 : cn.1 + C ≤ 600000) (h2 : cn.2 + N ≤ 7302250) (kk : ∀ M4 X4, I M4 X4 → zAt G miL_law (zRm 2048 600000 7302250) Q 1697 (lvL i) [] M4 X4 (cn.1 + C, cn.2 + N)) : zAt G miL_law (zRm 2048 600000 7302250) Q 332 (lvL i) [] M X cn := by
  obtain ⟨d1, d2, r, Md, hd1, hd2, hC, hR⟩ := hO
  refine j_aload_n (n := 333) dL_law_332 rfl rfl ?_
  refine j_arg (n := 338) (j := 1) dL_law_333 dL_law_334 dL_law_335 dL_law_336 dL_law_337 rfl (by decide) (by omega) hL ?_
  refine j_arg (n := 343) (j := 2) dL_law_338 dL_law_339 dL_law_340 dL_law_341 dL_law_342 rfl (by decide) (by omega) hL ?_
  refine j_callV (n := 346) (a := 16) (as := [.int (scV G (i + 1)), .int (scV G (i + 2))]) (st := []) dL_law_343 rfl sL_23 hC (by omega) (by decide) rfl rfl (Nat.le_of_ble_eq_true rfl) hx.1 (by decide) hx.2 h1 h2 (fun v M1 X1 hp => ?_)
  obtain ⟨r0, e1, e2, hM1⟩ := hp
  subst e2
  subst e1
  obtain ⟨⟨x1, x2⟩, hR⟩ := hR M1 X1 hM1
  refine j_aload_n (n := 347) dL_law_346 rfl rfl ?_
  refine j_arg (n := 352) (j := 1) dL_law_347 dL_law_348 dL_law_349 dL_law_350 dL_law_351 rfl (by decide) (by omega) hL ?_
  refine j_arg (n := 357) (j := 2) dL_law_352 dL_law_353 dL_law_354 dL_law_355 dL_law_356 rfl (by decide) (by omega) hL ?_
  refine j_callV (n := 360) (a := 160) (as := [.int (scV G (i + 1)), .int (scV G (i + 2))]) (st := [.int r0]) dL_law_357 rfl sL_26 hR (by omega) (by decide) rfl rfl (Nat.le_of_ble_eq_true rfl) x1 (by decide) x2 h1 h2 (fun v M4 X4 hp => ?_)
  obtain ⟨r1, e3, e4, hI⟩ := hp
  subst e4
  subst e3
  exact j_icmp_eq (n := 363) (tg := 1697) dL_law_360 rfl rfl (fun _ => kk M4 X4 hI) (fun h => absurd rfl h)
theorem L_turns (hx : xc X 16 = 8 ∧ 16 < xz X) (hL : zoL G 2 ≤ 3072) (hi : i + 5 < zoL G 2) (hO : OpC G miX9_turns miX10_turns [.int (scV G (i + 1)), .int (scV G (i + 2))] M X I C N) (h1 : cn.1 + C ≤ 600000) (h2 : cn.2 + N ≤ 7302250) (kk : ∀ M4 X4, I M4 X4 → zAt G miL_law (zRm 2048 600000 7302250) Q 1697 (lvL i) [] M4 X4 (cn.1 + C, cn.2 + N)) : zAt G miL_law (zRm 2048 600000 7302250) Q 365 (lvL i) [] M X cn := by
  obtain ⟨d1, d2, r, Md, hd1, hd2, hC, hR⟩ := hO
  refine j_aload_n (n := 366) dL_law_365 rfl rfl ?_
  refine j_arg (n := 371) (j := 1) dL_law_366 dL_law_367 dL_law_368 dL_law_369 dL_law_370 rfl (by decide) (by omega) hL ?_
  refine j_arg (n := 376) (j := 2) dL_law_371 dL_law_372 dL_law_373 dL_law_374 dL_law_375 rfl (by decide) (by omega) hL ?_
  refine j_callV (n := 379) (a := 16) (as := [.int (scV G (i + 1)), .int (scV G (i + 2))]) (st := []) dL_law_376 rfl sL_27 hC (by omega) (by decide) rfl rfl (Nat.le_of_ble_eq_true rfl) hx.1 (by decide) hx.2 h1 h2 (fun v M1 X1 hp => ?_)
  obtain ⟨r0, e1, e2, hM1⟩ := hp
  subst e2
  subst e1
  obtain ⟨⟨x1, x2⟩, hR⟩ := hR M1 X1 hM1
  refine j_aload_n (n := 380) dL_law_379 rfl rfl ?_
  refine j_arg (n := 385) (j := 1) dL_law_380 dL_law_381 dL_law_382 dL_law_383 dL_law_384 rfl (by decide) (by omega) hL ?_
  refine j_arg (n := 390) (j := 2) dL_law_385 dL_law_386 dL_law_387 dL_law_388 dL_law_389 rfl (by decide) (by omega) hL ?_
  refine j_callV (n := 393) (a := 160) (as := [.int (scV G (i + 1)), .int (scV G (i + 2))]) (st := [.int r0]) dL_law_390 rfl sL_30 hR (by omega) (by decide) rfl rfl (Nat.le_of_ble_eq_true rfl) x1 (by decide) x2 h1 h2 (fun v M4 X4 hp => ?_)
  obtain ⟨r1, e3, e4, hI⟩ := hp
  subst e4
  subst e3
  exact j_icmp_eq (n := 396) (tg := 1697) dL_law_393 rfl rfl (fun _ => kk M4 X4 hI) (fun h => absurd rfl h)
theorem L_set (hx : xc X 16 = 8 ∧ 16 < xz X) (hL : zoL G 2 ≤ 3072) (hi : i + 5 < zoL G 2) (hO : OpC G miX9_set miX10_set [.int (scV G (i + 1)), .int (scV G (i + 2)), .int (scV G (i + 3))] M X I C N) (h1 : cn.1 + C ≤ 600000) (h2 : cn.2 + N ≤ 7302250) (kk : ∀ M4 X4, I M4 X4 → zAt G miL_law (zRm 2048 600000 7302250) Q 1697 (lvL i) [] M4 X4 (cn.1 + C, cn.2 + N)) : zAt G miL_law (zRm 2048 600000 7302250) Q 398 (lvL i) [] M X cn := by
  obtain ⟨d1, d2, r, Md, hd1, hd2, hC, hR⟩ := hO
  refine j_aload_n (n := 399) dL_law_398 rfl rfl ?_
  refine j_arg (n := 404) (j := 1) dL_law_399 dL_law_400 dL_law_401 dL_law_402 dL_law_403 rfl (by decide) (by omega) hL ?_
  refine j_arg (n := 409) (j := 2) dL_law_404 dL_law_405 dL_law_406 dL_law_407 dL_law_408 rfl (by decide) (by omega) hL ?_
  refine j_arg (n := 414) (j := 3) dL_law_409 dL_law_410 dL_law_411 dL_law_412 dL_law_413 rfl (by decide) (by omega) hL ?_
  refine j_callV (n := 417) (a := 16) (as := [.int (scV G (i + 1)), .int (scV G (i + 2)), .int (scV G (i + 3))]) (st := []) dL_law_414 rfl sL_31 hC (by omega) (by decide) rfl rfl (Nat.le_of_ble_eq_true rfl) hx.1 (by decide) hx.2 h1 h2 (fun v M1 X1 hp => ?_)
  obtain ⟨r0, e1, e2, hM1⟩ := hp
  subst e2
  subst e1
  obtain ⟨⟨x1, x2⟩, hR⟩ := hR M1 X1 hM1
  refine j_aload_n (n := 418) dL_law_417 rfl rfl ?_
  refine j_arg (n := 423) (j := 1) dL_law_418 dL_law_419 dL_law_420 dL_law_421 dL_law_422 rfl (by decide) (by omega) hL ?_
  refine j_arg (n := 428) (j := 2) dL_law_423 dL_law_424 dL_law_425 dL_law_426 dL_law_427 rfl (by decide) (by omega) hL ?_
  refine j_arg (n := 433) (j := 3) dL_law_428 dL_law_429 dL_law_430 dL_law_431 dL_law_432 rfl (by decide) (by omega) hL ?_
  refine j_callV (n := 436) (a := 160) (as := [.int (scV G (i + 1)), .int (scV G (i + 2)), .int (scV G (i + 3))]) (st := [.int r0]) dL_law_433 rfl sL_35 hR (by omega) (by decide) rfl rfl (Nat.le_of_ble_eq_true rfl) x1 (by decide) x2 h1 h2 (fun v M4 X4 hp => ?_)
  obtain ⟨r1, e3, e4, hI⟩ := hp
  subst e4
  subst e3
  exact j_icmp_eq (n := 439) (tg := 1697) dL_law_436 rfl rfl (fun _ => kk M4 X4 hI) (fun h => absurd rfl h)
theorem L_lock (hx : xc X 16 = 8 ∧ 16 < xz X) (hL : zoL G 2 ≤ 3072) (hi : i + 5 < zoL G 2) (hO : OpC G miX9_lock miX10_lock [.int (scV G (i + 1)), .int (scV G (i + 2)), .int (scV G (i + 3)), .int (scV G (i + 4))] M X I C N) (h1 : cn.1 + C ≤ 600000) (h2 : cn.2 + N ≤ 7302250) (kk : ∀ M4 X4, I M4 X4 → zAt G miL_law (zRm 2048 600000 7302250) Q 1697 (lvL i) [] M4 X4 (cn.1 + C, cn.2 + N)) : zAt G miL_law (zRm 2048 600000 7302250) Q 441 (lvL i) [] M X cn := by
  obtain ⟨d1, d2, r, Md, hd1, hd2, hC, hR⟩ := hO
  refine j_aload_n (n := 442) dL_law_441 rfl rfl ?_
  refine j_arg (n := 447) (j := 1) dL_law_442 dL_law_443 dL_law_444 dL_law_445 dL_law_446 rfl (by decide) (by omega) hL ?_
  refine j_arg (n := 452) (j := 2) dL_law_447 dL_law_448 dL_law_449 dL_law_450 dL_law_451 rfl (by decide) (by omega) hL ?_
  refine j_arg (n := 457) (j := 3) dL_law_452 dL_law_453 dL_law_454 dL_law_455 dL_law_456 rfl (by decide) (by omega) hL ?_
  refine j_arg (n := 462) (j := 4) dL_law_457 dL_law_458 dL_law_459 dL_law_460 dL_law_461 rfl (by decide) (by omega) hL ?_
  refine j_callV (n := 465) (a := 16) (as := [.int (scV G (i + 1)), .int (scV G (i + 2)), .int (scV G (i + 3)), .int (scV G (i + 4))]) (st := []) dL_law_462 rfl sL_36 hC (by omega) (by decide) rfl rfl (Nat.le_of_ble_eq_true rfl) hx.1 (by decide) hx.2 h1 h2 (fun v M1 X1 hp => ?_)
  obtain ⟨r0, e1, e2, hM1⟩ := hp
  subst e2
  subst e1
  obtain ⟨⟨x1, x2⟩, hR⟩ := hR M1 X1 hM1
  refine j_aload_n (n := 466) dL_law_465 rfl rfl ?_
  refine j_arg (n := 471) (j := 1) dL_law_466 dL_law_467 dL_law_468 dL_law_469 dL_law_470 rfl (by decide) (by omega) hL ?_
  refine j_arg (n := 476) (j := 2) dL_law_471 dL_law_472 dL_law_473 dL_law_474 dL_law_475 rfl (by decide) (by omega) hL ?_
  refine j_arg (n := 481) (j := 3) dL_law_476 dL_law_477 dL_law_478 dL_law_479 dL_law_480 rfl (by decide) (by omega) hL ?_
  refine j_arg (n := 486) (j := 4) dL_law_481 dL_law_482 dL_law_483 dL_law_484 dL_law_485 rfl (by decide) (by omega) hL ?_
  refine j_callV (n := 489) (a := 160) (as := [.int (scV G (i + 1)), .int (scV G (i + 2)), .int (scV G (i + 3)), .int (scV G (i + 4))]) (st := [.int r0]) dL_law_486 rfl sL_40 hR (by omega) (by decide) rfl rfl (Nat.le_of_ble_eq_true rfl) x1 (by decide) x2 h1 h2 (fun v M4 X4 hp => ?_)
  obtain ⟨r1, e3, e4, hI⟩ := hp
  subst e4
  subst e3
  exact j_icmp_eq (n := 492) (tg := 1697) dL_law_489 rfl rfl (fun _ => kk M4 X4 hI) (fun h => absurd rfl h)
theorem L_about (hx : xc X 16 = 8 ∧ 16 < xz X) (hL : zoL G 2 ≤ 3072) (hi : i + 5 < zoL G 2) (hO : OpC G miX9_about miX10_about [.int (scV G (i + 1)), .int (scV G (i + 2))] M X I C N) (h1 : cn.1 + C ≤ 600000) (h2 : cn.2 + N ≤ 7302250) (kk : ∀ M4 X4, I M4 X4 → zAt G miL_law (zRm 2048 600000 7302250) Q 1697 (lvL i) [] M4 X4 (cn.1 + C, cn.2 + N)) : zAt G miL_law (zRm 2048 600000 7302250) Q 494 (lvL i) [] M X cn := by
  obtain ⟨d1, d2, r, Md, hd1, hd2, hC, hR⟩ := hO
  refine j_aload_n (n := 495) dL_law_494 rfl rfl ?_
  refine j_arg (n := 500) (j := 1) dL_law_495 dL_law_496 dL_law_497 dL_law_498 dL_law_499 rfl (by decide) (by omega) hL ?_
  refine j_arg (n := 505) (j := 2) dL_law_500 dL_law_501 dL_law_502 dL_law_503 dL_law_504 rfl (by decide) (by omega) hL ?_
  refine j_callV (n := 508) (a := 16) (as := [.int (scV G (i + 1)), .int (scV G (i + 2))]) (st := []) dL_law_505 rfl sL_41 hC (by omega) (by decide) rfl rfl (Nat.le_of_ble_eq_true rfl) hx.1 (by decide) hx.2 h1 h2 (fun v M1 X1 hp => ?_)
  obtain ⟨r0, e1, e2, hM1⟩ := hp
  subst e2
  subst e1
  obtain ⟨⟨x1, x2⟩, hR⟩ := hR M1 X1 hM1
  refine j_aload_n (n := 509) dL_law_508 rfl rfl ?_
  refine j_arg (n := 514) (j := 1) dL_law_509 dL_law_510 dL_law_511 dL_law_512 dL_law_513 rfl (by decide) (by omega) hL ?_
  refine j_arg (n := 519) (j := 2) dL_law_514 dL_law_515 dL_law_516 dL_law_517 dL_law_518 rfl (by decide) (by omega) hL ?_
  refine j_callV (n := 522) (a := 160) (as := [.int (scV G (i + 1)), .int (scV G (i + 2))]) (st := [.int r0]) dL_law_519 rfl sL_44 hR (by omega) (by decide) rfl rfl (Nat.le_of_ble_eq_true rfl) x1 (by decide) x2 h1 h2 (fun v M4 X4 hp => ?_)
  obtain ⟨r1, e3, e4, hI⟩ := hp
  subst e4
  subst e3
  exact j_icmp_eq (n := 525) (tg := 1697) dL_law_522 rfl rfl (fun _ => kk M4 X4 hI) (fun h => absurd rfl h)
theorem L_sets (hx : xc X 16 = 8 ∧ 16 < xz X) (hL : zoL G 2 ≤ 3072) (hi : i + 5 < zoL G 2) (hO : OpC G miX9_sets miX10_sets [.int (scV G (i + 1)), .int (scV G (i + 2)), .int (scV G (i + 3))] M X I C N) (h1 : cn.1 + C ≤ 600000) (h2 : cn.2 + N ≤ 7302250) (kk : ∀ M4 X4, I M4 X4 → zAt G miL_law (zRm 2048 600000 7302250) Q 1697 (lvL i) [] M4 X4 (cn.1 + C, cn.2 + N)) : zAt G miL_law (zRm 2048 600000 7302250) Q 527 (lvL i) [] M X cn := by
  obtain ⟨d1, d2, r, Md, hd1, hd2, hC, hR⟩ := hO
  refine j_aload_n (n := 528) dL_law_527 rfl rfl ?_
  refine j_arg (n := 533) (j := 1) dL_law_528 dL_law_529 dL_law_530 dL_law_531 dL_law_532 rfl (by decide) (by omega) hL ?_
  refine j_arg (n := 538) (j := 2) dL_law_533 dL_law_534 dL_law_535 dL_law_536 dL_law_537 rfl (by decide) (by omega) hL ?_
  refine j_arg (n := 543) (j := 3) dL_law_538 dL_law_539 dL_law_540 dL_law_541 dL_law_542 rfl (by decide) (by omega) hL ?_
  refine j_callV (n := 546) (a := 16) (as := [.int (scV G (i + 1)), .int (scV G (i + 2)), .int (scV G (i + 3))]) (st := []) dL_law_543 rfl sL_45 hC (by omega) (by decide) rfl rfl (Nat.le_of_ble_eq_true rfl) hx.1 (by decide) hx.2 h1 h2 (fun v M1 X1 hp => ?_)
  obtain ⟨r0, e1, e2, hM1⟩ := hp
  subst e2
  subst e1
  obtain ⟨⟨x1, x2⟩, hR⟩ := hR M1 X1 hM1
  refine j_aload_n (n := 547) dL_law_546 rfl rfl ?_
  refine j_arg (n := 552) (j := 1) dL_law_547 dL_law_548 dL_law_549 dL_law_550 dL_law_551 rfl (by decide) (by omega) hL ?_
  refine j_arg (n := 557) (j := 2) dL_law_552 dL_law_553 dL_law_554 dL_law_555 dL_law_556 rfl (by decide) (by omega) hL ?_
  refine j_arg (n := 562) (j := 3) dL_law_557 dL_law_558 dL_law_559 dL_law_560 dL_law_561 rfl (by decide) (by omega) hL ?_
  refine j_callV (n := 565) (a := 160) (as := [.int (scV G (i + 1)), .int (scV G (i + 2)), .int (scV G (i + 3))]) (st := [.int r0]) dL_law_562 rfl sL_48 hR (by omega) (by decide) rfl rfl (Nat.le_of_ble_eq_true rfl) x1 (by decide) x2 h1 h2 (fun v M4 X4 hp => ?_)
  obtain ⟨r1, e3, e4, hI⟩ := hp
  subst e4
  subst e3
  exact j_icmp_eq (n := 568) (tg := 1697) dL_law_565 rfl rfl (fun _ => kk M4 X4 hI) (fun h => absurd rfl h)
theorem L_mends (hx : xc X 16 = 8 ∧ 16 < xz X) (hL : zoL G 2 ≤ 3072) (hi : i + 5 < zoL G 2) (hO : OpC G miX9_mends miX10_mends [.int (scV G (i + 1))] M X I C N) (h1 : cn.1 + C ≤ 600000) (h2 : cn.2 + N ≤ 7302250) (kk : ∀ M4 X4, I M4 X4 → zAt G miL_law (zRm 2048 600000 7302250) Q 1697 (lvL i) [] M4 X4 (cn.1 + C, cn.2 + N)) : zAt G miL_law (zRm 2048 600000 7302250) Q 570 (lvL i) [] M X cn := by
  obtain ⟨d1, d2, r, Md, hd1, hd2, hC, hR⟩ := hO
  refine j_aload_n (n := 571) dL_law_570 rfl rfl ?_
  refine j_arg (n := 576) (j := 1) dL_law_571 dL_law_572 dL_law_573 dL_law_574 dL_law_575 rfl (by decide) (by omega) hL ?_
  refine j_callV (n := 579) (a := 16) (as := [.int (scV G (i + 1))]) (st := []) dL_law_576 rfl sL_49 hC (by omega) (by decide) rfl rfl (Nat.le_of_ble_eq_true rfl) hx.1 (by decide) hx.2 h1 h2 (fun v M1 X1 hp => ?_)
  obtain ⟨r0, e1, e2, hM1⟩ := hp
  subst e2
  subst e1
  obtain ⟨⟨x1, x2⟩, hR⟩ := hR M1 X1 hM1
  refine j_aload_n (n := 580) dL_law_579 rfl rfl ?_
  refine j_arg (n := 585) (j := 1) dL_law_580 dL_law_581 dL_law_582 dL_law_583 dL_law_584 rfl (by decide) (by omega) hL ?_
  refine j_callV (n := 588) (a := 160) (as := [.int (scV G (i + 1))]) (st := [.int r0]) dL_law_585 rfl sL_53 hR (by omega) (by decide) rfl rfl (Nat.le_of_ble_eq_true rfl) x1 (by decide) x2 h1 h2 (fun v M4 X4 hp => ?_)
  obtain ⟨r1, e3, e4, hI⟩ := hp
  subst e4
  subst e3
  exact j_icmp_eq (n := 591) (tg := 1697) dL_law_588 rfl rfl (fun _ => kk M4 X4 hI) (fun h => absurd rfl h)
theorem L_rule (hx : xc X 16 = 8 ∧ 16 < xz X) (hL : zoL G 2 ≤ 3072) (hi : i + 5 < zoL G 2) (hO : OpC G miX9_rule miX10_rule [.int (scV G (i + 1)), .int (scV G (i + 2))] M X I C N) (h1 : cn.1 + C ≤ 600000) (h2 : cn.2 + N ≤ 7302250) (kk : ∀ M4 X4, I M4 X4 → zAt G miL_law (zRm 2048 600000 7302250) Q 1697 (lvL i) [] M4 X4 (cn.1 + C, cn.2 + N)) : zAt G miL_law (zRm 2048 600000 7302250) Q 593 (lvL i) [] M X cn := by
  obtain ⟨d1, d2, r, Md, hd1, hd2, hC, hR⟩ := hO
  refine j_aload_n (n := 594) dL_law_593 rfl rfl ?_
  refine j_arg (n := 599) (j := 1) dL_law_594 dL_law_595 dL_law_596 dL_law_597 dL_law_598 rfl (by decide) (by omega) hL ?_
  refine j_arg (n := 604) (j := 2) dL_law_599 dL_law_600 dL_law_601 dL_law_602 dL_law_603 rfl (by decide) (by omega) hL ?_
  refine j_callV (n := 607) (a := 16) (as := [.int (scV G (i + 1)), .int (scV G (i + 2))]) (st := []) dL_law_604 rfl sL_54 hC (by omega) (by decide) rfl rfl (Nat.le_of_ble_eq_true rfl) hx.1 (by decide) hx.2 h1 h2 (fun v M1 X1 hp => ?_)
  obtain ⟨r0, e1, e2, hM1⟩ := hp
  subst e2
  subst e1
  obtain ⟨⟨x1, x2⟩, hR⟩ := hR M1 X1 hM1
  refine j_aload_n (n := 608) dL_law_607 rfl rfl ?_
  refine j_arg (n := 613) (j := 1) dL_law_608 dL_law_609 dL_law_610 dL_law_611 dL_law_612 rfl (by decide) (by omega) hL ?_
  refine j_arg (n := 618) (j := 2) dL_law_613 dL_law_614 dL_law_615 dL_law_616 dL_law_617 rfl (by decide) (by omega) hL ?_
  refine j_callV (n := 621) (a := 160) (as := [.int (scV G (i + 1)), .int (scV G (i + 2))]) (st := [.int r0]) dL_law_618 rfl sL_57 hR (by omega) (by decide) rfl rfl (Nat.le_of_ble_eq_true rfl) x1 (by decide) x2 h1 h2 (fun v M4 X4 hp => ?_)
  obtain ⟨r1, e3, e4, hI⟩ := hp
  subst e4
  subst e3
  exact j_icmp_eq (n := 624) (tg := 1697) dL_law_621 rfl rfl (fun _ => kk M4 X4 hI) (fun h => absurd rfl h)
theorem L_at (hx : xc X 16 = 8 ∧ 16 < xz X) (hL : zoL G 2 ≤ 3072) (hi : i + 5 < zoL G 2) (hO : OpC G miX9_at miX10_at [.int (scV G (i + 1))] M X I C N) (h1 : cn.1 + C ≤ 600000) (h2 : cn.2 + N ≤ 7302250) (kk : ∀ M4 X4, I M4 X4 → zAt G miL_law (zRm 2048 600000 7302250) Q 1697 (lvL i) [] M4 X4 (cn.1 + C, cn.2 + N)) : zAt G miL_law (zRm 2048 600000 7302250) Q 626 (lvL i) [] M X cn := by
  obtain ⟨d1, d2, r, Md, hd1, hd2, hC, hR⟩ := hO
  refine j_aload_n (n := 627) dL_law_626 rfl rfl ?_
  refine j_arg (n := 632) (j := 1) dL_law_627 dL_law_628 dL_law_629 dL_law_630 dL_law_631 rfl (by decide) (by omega) hL ?_
  refine j_callV (n := 635) (a := 16) (as := [.int (scV G (i + 1))]) (st := []) dL_law_632 rfl sL_58 hC (by omega) (by decide) rfl rfl (Nat.le_of_ble_eq_true rfl) hx.1 (by decide) hx.2 h1 h2 (fun v M1 X1 hp => ?_)
  obtain ⟨r0, e1, e2, hM1⟩ := hp
  subst e2
  subst e1
  obtain ⟨⟨x1, x2⟩, hR⟩ := hR M1 X1 hM1
  refine j_aload_n (n := 636) dL_law_635 rfl rfl ?_
  refine j_arg (n := 641) (j := 1) dL_law_636 dL_law_637 dL_law_638 dL_law_639 dL_law_640 rfl (by decide) (by omega) hL ?_
  refine j_callV (n := 644) (a := 160) (as := [.int (scV G (i + 1))]) (st := [.int r0]) dL_law_641 rfl sL_61 hR (by omega) (by decide) rfl rfl (Nat.le_of_ble_eq_true rfl) x1 (by decide) x2 h1 h2 (fun v M4 X4 hp => ?_)
  obtain ⟨r1, e3, e4, hI⟩ := hp
  subst e4
  subst e3
  exact j_icmp_eq (n := 647) (tg := 1697) dL_law_644 rfl rfl (fun _ => kk M4 X4 hI) (fun h => absurd rfl h)
theorem L_deal (hx : xc X 16 = 8 ∧ 16 < xz X) (hL : zoL G 2 ≤ 3072) (hi : i + 5 < zoL G 2) (hO : OpC G miX9_deal miX10_deal [.int (scV G (i + 1))] M X I C N) (h1 : cn.1 + C ≤ 600000) (h2 : cn.2 + N ≤ 7302250) (kk : ∀ M4 X4, I M4 X4 → zAt G miL_law (zRm 2048 600000 7302250) Q 1697 (lvL i) [] M4 X4 (cn.1 + C, cn.2 + N)) : zAt G miL_law (zRm 2048 600000 7302250) Q 649 (lvL i) [] M X cn := by
  obtain ⟨d1, d2, r, Md, hd1, hd2, hC, hR⟩ := hO
  refine j_aload_n (n := 650) dL_law_649 rfl rfl ?_
  refine j_arg (n := 655) (j := 1) dL_law_650 dL_law_651 dL_law_652 dL_law_653 dL_law_654 rfl (by decide) (by omega) hL ?_
  refine j_callV (n := 658) (a := 16) (as := [.int (scV G (i + 1))]) (st := []) dL_law_655 rfl sL_62 hC (by omega) (by decide) rfl rfl (Nat.le_of_ble_eq_true rfl) hx.1 (by decide) hx.2 h1 h2 (fun v M1 X1 hp => ?_)
  obtain ⟨r0, e1, e2, hM1⟩ := hp
  subst e2
  subst e1
  obtain ⟨⟨x1, x2⟩, hR⟩ := hR M1 X1 hM1
  refine j_aload_n (n := 659) dL_law_658 rfl rfl ?_
  refine j_arg (n := 664) (j := 1) dL_law_659 dL_law_660 dL_law_661 dL_law_662 dL_law_663 rfl (by decide) (by omega) hL ?_
  refine j_callV (n := 667) (a := 160) (as := [.int (scV G (i + 1))]) (st := [.int r0]) dL_law_664 rfl sL_65 hR (by omega) (by decide) rfl rfl (Nat.le_of_ble_eq_true rfl) x1 (by decide) x2 h1 h2 (fun v M4 X4 hp => ?_)
  obtain ⟨r1, e3, e4, hI⟩ := hp
  subst e4
  subst e3
  exact j_icmp_eq (n := 670) (tg := 1697) dL_law_667 rfl rfl (fun _ => kk M4 X4 hI) (fun h => absurd rfl h)
theorem L_seed (hx : xc X 16 = 8 ∧ 16 < xz X) (hL : zoL G 2 ≤ 3072) (hi : i + 5 < zoL G 2) (hO : OpC G miX9_seed miX10_seed [.int (scV G (i + 1))] M X I C N) (h1 : cn.1 + C ≤ 600000) (h2 : cn.2 + N ≤ 7302250) (kk : ∀ M4 X4, I M4 X4 → zAt G miL_law (zRm 2048 600000 7302250) Q 1697 (lvL i) [] M4 X4 (cn.1 + C, cn.2 + N)) : zAt G miL_law (zRm 2048 600000 7302250) Q 672 (lvL i) [] M X cn := by
  obtain ⟨d1, d2, r, Md, hd1, hd2, hC, hR⟩ := hO
  refine j_aload_n (n := 673) dL_law_672 rfl rfl ?_
  refine j_arg (n := 678) (j := 1) dL_law_673 dL_law_674 dL_law_675 dL_law_676 dL_law_677 rfl (by decide) (by omega) hL ?_
  refine j_callV (n := 681) (a := 16) (as := [.int (scV G (i + 1))]) (st := []) dL_law_678 rfl sL_66 hC (by omega) (by decide) rfl rfl (Nat.le_of_ble_eq_true rfl) hx.1 (by decide) hx.2 h1 h2 (fun v M1 X1 hp => ?_)
  obtain ⟨r0, e1, e2, hM1⟩ := hp
  subst e2
  subst e1
  obtain ⟨⟨x1, x2⟩, hR⟩ := hR M1 X1 hM1
  refine j_aload_n (n := 682) dL_law_681 rfl rfl ?_
  refine j_arg (n := 687) (j := 1) dL_law_682 dL_law_683 dL_law_684 dL_law_685 dL_law_686 rfl (by decide) (by omega) hL ?_
  refine j_callV (n := 690) (a := 160) (as := [.int (scV G (i + 1))]) (st := [.int r0]) dL_law_687 rfl sL_69 hR (by omega) (by decide) rfl rfl (Nat.le_of_ble_eq_true rfl) x1 (by decide) x2 h1 h2 (fun v M4 X4 hp => ?_)
  obtain ⟨r1, e3, e4, hI⟩ := hp
  subst e4
  subst e3
  exact j_icmp_eq (n := 693) (tg := 1697) dL_law_690 rfl rfl (fun _ => kk M4 X4 hI) (fun h => absurd rfl h)
theorem L_passes (hx : xc X 16 = 8 ∧ 16 < xz X) (hL : zoL G 2 ≤ 3072) (hi : i + 5 < zoL G 2) (hO : OpC G miX9_passes miX10_passes [.int (scV G (i + 1)), .int (scV G (i + 2))] M X I C N) (h1 : cn.1 + C ≤ 600000) (h2 : cn.2 + N ≤ 7302250) (kk : ∀ M4 X4, I M4 X4 → zAt G miL_law (zRm 2048 600000 7302250) Q 1697 (lvL i) [] M4 X4 (cn.1 + C, cn.2 + N)) : zAt G miL_law (zRm 2048 600000 7302250) Q 695 (lvL i) [] M X cn := by
  obtain ⟨d1, d2, r, Md, hd1, hd2, hC, hR⟩ := hO
  refine j_aload_n (n := 696) dL_law_695 rfl rfl ?_
  refine j_arg (n := 701) (j := 1) dL_law_696 dL_law_697 dL_law_698 dL_law_699 dL_law_700 rfl (by decide) (by omega) hL ?_
  refine j_arg (n := 706) (j := 2) dL_law_701 dL_law_702 dL_law_703 dL_law_704 dL_law_705 rfl (by decide) (by omega) hL ?_
  refine j_callV (n := 709) (a := 16) (as := [.int (scV G (i + 1)), .int (scV G (i + 2))]) (st := []) dL_law_706 rfl sL_70 hC (by omega) (by decide) rfl rfl (Nat.le_of_ble_eq_true rfl) hx.1 (by decide) hx.2 h1 h2 (fun v M1 X1 hp => ?_)
  obtain ⟨r0, e1, e2, hM1⟩ := hp
  subst e2
  subst e1
  obtain ⟨⟨x1, x2⟩, hR⟩ := hR M1 X1 hM1
  refine j_aload_n (n := 710) dL_law_709 rfl rfl ?_
  refine j_arg (n := 715) (j := 1) dL_law_710 dL_law_711 dL_law_712 dL_law_713 dL_law_714 rfl (by decide) (by omega) hL ?_
  refine j_arg (n := 720) (j := 2) dL_law_715 dL_law_716 dL_law_717 dL_law_718 dL_law_719 rfl (by decide) (by omega) hL ?_
  refine j_callV (n := 723) (a := 160) (as := [.int (scV G (i + 1)), .int (scV G (i + 2))]) (st := [.int r0]) dL_law_720 rfl sL_73 hR (by omega) (by decide) rfl rfl (Nat.le_of_ble_eq_true rfl) x1 (by decide) x2 h1 h2 (fun v M4 X4 hp => ?_)
  obtain ⟨r1, e3, e4, hI⟩ := hp
  subst e4
  subst e3
  exact j_icmp_eq (n := 726) (tg := 1697) dL_law_723 rfl rfl (fun _ => kk M4 X4 hI) (fun h => absurd rfl h)
theorem L_days (hx : xc X 16 = 8 ∧ 16 < xz X) (hL : zoL G 2 ≤ 3072) (hi : i + 5 < zoL G 2) (hO : OpC G miX9_days miX10_days [.int (scV G (i + 1))] M X I C N) (h1 : cn.1 + C ≤ 600000) (h2 : cn.2 + N ≤ 7302250) (kk : ∀ M4 X4, I M4 X4 → zAt G miL_law (zRm 2048 600000 7302250) Q 1697 (lvL i) [] M4 X4 (cn.1 + C, cn.2 + N)) : zAt G miL_law (zRm 2048 600000 7302250) Q 728 (lvL i) [] M X cn := by
  obtain ⟨d1, d2, r, Md, hd1, hd2, hC, hR⟩ := hO
  refine j_aload_n (n := 729) dL_law_728 rfl rfl ?_
  refine j_arg (n := 734) (j := 1) dL_law_729 dL_law_730 dL_law_731 dL_law_732 dL_law_733 rfl (by decide) (by omega) hL ?_
  refine j_callV (n := 737) (a := 16) (as := [.int (scV G (i + 1))]) (st := []) dL_law_734 rfl sL_74 hC (by omega) (by decide) rfl rfl (Nat.le_of_ble_eq_true rfl) hx.1 (by decide) hx.2 h1 h2 (fun v M1 X1 hp => ?_)
  obtain ⟨r0, e1, e2, hM1⟩ := hp
  subst e2
  subst e1
  obtain ⟨⟨x1, x2⟩, hR⟩ := hR M1 X1 hM1
  refine j_aload_n (n := 738) dL_law_737 rfl rfl ?_
  refine j_arg (n := 743) (j := 1) dL_law_738 dL_law_739 dL_law_740 dL_law_741 dL_law_742 rfl (by decide) (by omega) hL ?_
  refine j_callV (n := 746) (a := 160) (as := [.int (scV G (i + 1))]) (st := [.int r0]) dL_law_743 rfl sL_77 hR (by omega) (by decide) rfl rfl (Nat.le_of_ble_eq_true rfl) x1 (by decide) x2 h1 h2 (fun v M4 X4 hp => ?_)
  obtain ⟨r1, e3, e4, hI⟩ := hp
  subst e4
  subst e3
  exact j_icmp_eq (n := 749) (tg := 1697) dL_law_746 rfl rfl (fun _ => kk M4 X4 hI) (fun h => absurd rfl h)
theorem L_town (hx : xc X 16 = 8 ∧ 16 < xz X) (hL : zoL G 2 ≤ 3072) (hi : i + 5 < zoL G 2) (hO : OpC G miX9_town miX10_town [.int (scV G (i + 1))] M X I C N) (h1 : cn.1 + C ≤ 600000) (h2 : cn.2 + N ≤ 7302250) (kk : ∀ M4 X4, I M4 X4 → zAt G miL_law (zRm 2048 600000 7302250) Q 1697 (lvL i) [] M4 X4 (cn.1 + C, cn.2 + N)) : zAt G miL_law (zRm 2048 600000 7302250) Q 751 (lvL i) [] M X cn := by
  obtain ⟨d1, d2, r, Md, hd1, hd2, hC, hR⟩ := hO
  refine j_aload_n (n := 752) dL_law_751 rfl rfl ?_
  refine j_arg (n := 757) (j := 1) dL_law_752 dL_law_753 dL_law_754 dL_law_755 dL_law_756 rfl (by decide) (by omega) hL ?_
  refine j_callV (n := 760) (a := 16) (as := [.int (scV G (i + 1))]) (st := []) dL_law_757 rfl sL_78 hC (by omega) (by decide) rfl rfl (Nat.le_of_ble_eq_true rfl) hx.1 (by decide) hx.2 h1 h2 (fun v M1 X1 hp => ?_)
  obtain ⟨r0, e1, e2, hM1⟩ := hp
  subst e2
  subst e1
  obtain ⟨⟨x1, x2⟩, hR⟩ := hR M1 X1 hM1
  refine j_aload_n (n := 761) dL_law_760 rfl rfl ?_
  refine j_arg (n := 766) (j := 1) dL_law_761 dL_law_762 dL_law_763 dL_law_764 dL_law_765 rfl (by decide) (by omega) hL ?_
  refine j_callV (n := 769) (a := 160) (as := [.int (scV G (i + 1))]) (st := [.int r0]) dL_law_766 rfl sL_81 hR (by omega) (by decide) rfl rfl (Nat.le_of_ble_eq_true rfl) x1 (by decide) x2 h1 h2 (fun v M4 X4 hp => ?_)
  obtain ⟨r1, e3, e4, hI⟩ := hp
  subst e4
  subst e3
  exact j_icmp_eq (n := 772) (tg := 1697) dL_law_769 rfl rfl (fun _ => kk M4 X4 hI) (fun h => absurd rfl h)
theorem L_reach (hx : xc X 16 = 8 ∧ 16 < xz X) (hL : zoL G 2 ≤ 3072) (hi : i + 5 < zoL G 2) (hO : OpC G miX9_reach miX10_reach [.int (scV G (i + 1))] M X I C N) (h1 : cn.1 + C ≤ 600000) (h2 : cn.2 + N ≤ 7302250) (kk : ∀ M4 X4, I M4 X4 → zAt G miL_law (zRm 2048 600000 7302250) Q 1697 (lvL i) [] M4 X4 (cn.1 + C, cn.2 + N)) : zAt G miL_law (zRm 2048 600000 7302250) Q 774 (lvL i) [] M X cn := by
  obtain ⟨d1, d2, r, Md, hd1, hd2, hC, hR⟩ := hO
  refine j_aload_n (n := 775) dL_law_774 rfl rfl ?_
  refine j_arg (n := 780) (j := 1) dL_law_775 dL_law_776 dL_law_777 dL_law_778 dL_law_779 rfl (by decide) (by omega) hL ?_
  refine j_callV (n := 783) (a := 16) (as := [.int (scV G (i + 1))]) (st := []) dL_law_780 rfl sL_82 hC (by omega) (by decide) rfl rfl (Nat.le_of_ble_eq_true rfl) hx.1 (by decide) hx.2 h1 h2 (fun v M1 X1 hp => ?_)
  obtain ⟨r0, e1, e2, hM1⟩ := hp
  subst e2
  subst e1
  obtain ⟨⟨x1, x2⟩, hR⟩ := hR M1 X1 hM1
  refine j_aload_n (n := 784) dL_law_783 rfl rfl ?_
  refine j_arg (n := 789) (j := 1) dL_law_784 dL_law_785 dL_law_786 dL_law_787 dL_law_788 rfl (by decide) (by omega) hL ?_
  refine j_callV (n := 792) (a := 160) (as := [.int (scV G (i + 1))]) (st := [.int r0]) dL_law_789 rfl sL_85 hR (by omega) (by decide) rfl rfl (Nat.le_of_ble_eq_true rfl) x1 (by decide) x2 h1 h2 (fun v M4 X4 hp => ?_)
  obtain ⟨r1, e3, e4, hI⟩ := hp
  subst e4
  subst e3
  exact j_icmp_eq (n := 795) (tg := 1697) dL_law_792 rfl rfl (fun _ => kk M4 X4 hI) (fun h => absurd rfl h)
theorem L_way (hx : xc X 16 = 8 ∧ 16 < xz X) (hL : zoL G 2 ≤ 3072) (hi : i + 5 < zoL G 2) (hO : OpC G miX9_way miX10_way [.int (scV G (i + 1)), .int (scV G (i + 2))] M X I C N) (h1 : cn.1 + C ≤ 600000) (h2 : cn.2 + N ≤ 7302250) (kk : ∀ M4 X4, I M4 X4 → zAt G miL_law (zRm 2048 600000 7302250) Q 1697 (lvL i) [] M4 X4 (cn.1 + C, cn.2 + N)) : zAt G miL_law (zRm 2048 600000 7302250) Q 797 (lvL i) [] M X cn := by
  obtain ⟨d1, d2, r, Md, hd1, hd2, hC, hR⟩ := hO
  refine j_aload_n (n := 798) dL_law_797 rfl rfl ?_
  refine j_arg (n := 803) (j := 1) dL_law_798 dL_law_799 dL_law_800 dL_law_801 dL_law_802 rfl (by decide) (by omega) hL ?_
  refine j_arg (n := 808) (j := 2) dL_law_803 dL_law_804 dL_law_805 dL_law_806 dL_law_807 rfl (by decide) (by omega) hL ?_
  refine j_callV (n := 811) (a := 16) (as := [.int (scV G (i + 1)), .int (scV G (i + 2))]) (st := []) dL_law_808 rfl sL_86 hC (by omega) (by decide) rfl rfl (Nat.le_of_ble_eq_true rfl) hx.1 (by decide) hx.2 h1 h2 (fun v M1 X1 hp => ?_)
  obtain ⟨r0, e1, e2, hM1⟩ := hp
  subst e2
  subst e1
  obtain ⟨⟨x1, x2⟩, hR⟩ := hR M1 X1 hM1
  refine j_aload_n (n := 812) dL_law_811 rfl rfl ?_
  refine j_arg (n := 817) (j := 1) dL_law_812 dL_law_813 dL_law_814 dL_law_815 dL_law_816 rfl (by decide) (by omega) hL ?_
  refine j_arg (n := 822) (j := 2) dL_law_817 dL_law_818 dL_law_819 dL_law_820 dL_law_821 rfl (by decide) (by omega) hL ?_
  refine j_callV (n := 825) (a := 160) (as := [.int (scV G (i + 1)), .int (scV G (i + 2))]) (st := [.int r0]) dL_law_822 rfl sL_89 hR (by omega) (by decide) rfl rfl (Nat.le_of_ble_eq_true rfl) x1 (by decide) x2 h1 h2 (fun v M4 X4 hp => ?_)
  obtain ⟨r1, e3, e4, hI⟩ := hp
  subst e4
  subst e3
  exact j_icmp_eq (n := 828) (tg := 1697) dL_law_825 rfl rfl (fun _ => kk M4 X4 hI) (fun h => absurd rfl h)
theorem L_pardoned (hx : xc X 16 = 8 ∧ 16 < xz X) (hL : zoL G 2 ≤ 3072) (hi : i + 5 < zoL G 2) (hO : OpC G miX9_pardoned miX10_pardoned [.int (scV G (i + 1))] M X I C N) (h1 : cn.1 + C ≤ 600000) (h2 : cn.2 + N ≤ 7302250) (kk : ∀ M4 X4, I M4 X4 → zAt G miL_law (zRm 2048 600000 7302250) Q 1697 (lvL i) [] M4 X4 (cn.1 + C, cn.2 + N)) : zAt G miL_law (zRm 2048 600000 7302250) Q 830 (lvL i) [] M X cn := by
  obtain ⟨d1, d2, r, Md, hd1, hd2, hC, hR⟩ := hO
  refine j_aload_n (n := 831) dL_law_830 rfl rfl ?_
  refine j_arg (n := 836) (j := 1) dL_law_831 dL_law_832 dL_law_833 dL_law_834 dL_law_835 rfl (by decide) (by omega) hL ?_
  refine j_callV (n := 839) (a := 16) (as := [.int (scV G (i + 1))]) (st := []) dL_law_836 rfl sL_90 hC (by omega) (by decide) rfl rfl (Nat.le_of_ble_eq_true rfl) hx.1 (by decide) hx.2 h1 h2 (fun v M1 X1 hp => ?_)
  obtain ⟨r0, e1, e2, hM1⟩ := hp
  subst e2
  subst e1
  obtain ⟨⟨x1, x2⟩, hR⟩ := hR M1 X1 hM1
  refine j_aload_n (n := 840) dL_law_839 rfl rfl ?_
  refine j_arg (n := 845) (j := 1) dL_law_840 dL_law_841 dL_law_842 dL_law_843 dL_law_844 rfl (by decide) (by omega) hL ?_
  refine j_callV (n := 848) (a := 160) (as := [.int (scV G (i + 1))]) (st := [.int r0]) dL_law_845 rfl sL_93 hR (by omega) (by decide) rfl rfl (Nat.le_of_ble_eq_true rfl) x1 (by decide) x2 h1 h2 (fun v M4 X4 hp => ?_)
  obtain ⟨r1, e3, e4, hI⟩ := hp
  subst e4
  subst e3
  exact j_icmp_eq (n := 851) (tg := 1697) dL_law_848 rfl rfl (fun _ => kk M4 X4 hI) (fun h => absurd rfl h)
theorem L_just (hx : xc X 16 = 8 ∧ 16 < xz X) (hL : zoL G 2 ≤ 3072) (hi : i + 5 < zoL G 2) (hO : OpC G miX9_just miX10_just [.int (scV G (i + 1)), .int (scV G (i + 2))] M X I C N) (h1 : cn.1 + C ≤ 600000) (h2 : cn.2 + N ≤ 7302250) (kk : ∀ M4 X4, I M4 X4 → zAt G miL_law (zRm 2048 600000 7302250) Q 1697 (lvL i) [] M4 X4 (cn.1 + C, cn.2 + N)) : zAt G miL_law (zRm 2048 600000 7302250) Q 853 (lvL i) [] M X cn := by
  obtain ⟨d1, d2, r, Md, hd1, hd2, hC, hR⟩ := hO
  refine j_aload_n (n := 854) dL_law_853 rfl rfl ?_
  refine j_arg (n := 859) (j := 1) dL_law_854 dL_law_855 dL_law_856 dL_law_857 dL_law_858 rfl (by decide) (by omega) hL ?_
  refine j_arg (n := 864) (j := 2) dL_law_859 dL_law_860 dL_law_861 dL_law_862 dL_law_863 rfl (by decide) (by omega) hL ?_
  refine j_callV (n := 867) (a := 16) (as := [.int (scV G (i + 1)), .int (scV G (i + 2))]) (st := []) dL_law_864 rfl sL_94 hC (by omega) (by decide) rfl rfl (Nat.le_of_ble_eq_true rfl) hx.1 (by decide) hx.2 h1 h2 (fun v M1 X1 hp => ?_)
  obtain ⟨r0, e1, e2, hM1⟩ := hp
  subst e2
  subst e1
  obtain ⟨⟨x1, x2⟩, hR⟩ := hR M1 X1 hM1
  refine j_aload_n (n := 868) dL_law_867 rfl rfl ?_
  refine j_arg (n := 873) (j := 1) dL_law_868 dL_law_869 dL_law_870 dL_law_871 dL_law_872 rfl (by decide) (by omega) hL ?_
  refine j_arg (n := 878) (j := 2) dL_law_873 dL_law_874 dL_law_875 dL_law_876 dL_law_877 rfl (by decide) (by omega) hL ?_
  refine j_callV (n := 881) (a := 160) (as := [.int (scV G (i + 1)), .int (scV G (i + 2))]) (st := [.int r0]) dL_law_878 rfl sL_97 hR (by omega) (by decide) rfl rfl (Nat.le_of_ble_eq_true rfl) x1 (by decide) x2 h1 h2 (fun v M4 X4 hp => ?_)
  obtain ⟨r1, e3, e4, hI⟩ := hp
  subst e4
  subst e3
  exact j_icmp_eq (n := 884) (tg := 1697) dL_law_881 rfl rfl (fun _ => kk M4 X4 hI) (fun h => absurd rfl h)
theorem L_sorry_ (hx : xc X 16 = 8 ∧ 16 < xz X) (hL : zoL G 2 ≤ 3072) (hi : i + 5 < zoL G 2) (hO : OpC G miX9_sorry miX10_sorry [.int (scV G (i + 1)), .int (scV G (i + 2))] M X I C N) (h1 : cn.1 + C ≤ 600000) (h2 : cn.2 + N ≤ 7302250) (kk : ∀ M4 X4, I M4 X4 → zAt G miL_law (zRm 2048 600000 7302250) Q 1697 (lvL i) [] M4 X4 (cn.1 + C, cn.2 + N)) : zAt G miL_law (zRm 2048 600000 7302250) Q 886 (lvL i) [] M X cn := by
  obtain ⟨d1, d2, r, Md, hd1, hd2, hC, hR⟩ := hO
  refine j_aload_n (n := 887) dL_law_886 rfl rfl ?_
  refine j_arg (n := 892) (j := 1) dL_law_887 dL_law_888 dL_law_889 dL_law_890 dL_law_891 rfl (by decide) (by omega) hL ?_
  refine j_arg (n := 897) (j := 2) dL_law_892 dL_law_893 dL_law_894 dL_law_895 dL_law_896 rfl (by decide) (by omega) hL ?_
  refine j_callV (n := 900) (a := 16) (as := [.int (scV G (i + 1)), .int (scV G (i + 2))]) (st := []) dL_law_897 rfl sL_98 hC (by omega) (by decide) rfl rfl (Nat.le_of_ble_eq_true rfl) hx.1 (by decide) hx.2 h1 h2 (fun v M1 X1 hp => ?_)
  obtain ⟨r0, e1, e2, hM1⟩ := hp
  subst e2
  subst e1
  obtain ⟨⟨x1, x2⟩, hR⟩ := hR M1 X1 hM1
  refine j_aload_n (n := 901) dL_law_900 rfl rfl ?_
  refine j_arg (n := 906) (j := 1) dL_law_901 dL_law_902 dL_law_903 dL_law_904 dL_law_905 rfl (by decide) (by omega) hL ?_
  refine j_arg (n := 911) (j := 2) dL_law_906 dL_law_907 dL_law_908 dL_law_909 dL_law_910 rfl (by decide) (by omega) hL ?_
  refine j_callV (n := 914) (a := 160) (as := [.int (scV G (i + 1)), .int (scV G (i + 2))]) (st := [.int r0]) dL_law_911 rfl sL_101 hR (by omega) (by decide) rfl rfl (Nat.le_of_ble_eq_true rfl) x1 (by decide) x2 h1 h2 (fun v M4 X4 hp => ?_)
  obtain ⟨r1, e3, e4, hI⟩ := hp
  subst e4
  subst e3
  exact j_icmp_eq (n := 917) (tg := 1697) dL_law_914 rfl rfl (fun _ => kk M4 X4 hI) (fun h => absurd rfl h)
theorem L_behind (hx : xc X 16 = 8 ∧ 16 < xz X) (hL : zoL G 2 ≤ 3072) (hi : i + 5 < zoL G 2) (hO : OpC G miX9_behind miX10_behind [.int (scV G (i + 1)), .int (scV G (i + 2))] M X I C N) (h1 : cn.1 + C ≤ 600000) (h2 : cn.2 + N ≤ 7302250) (kk : ∀ M4 X4, I M4 X4 → zAt G miL_law (zRm 2048 600000 7302250) Q 1697 (lvL i) [] M4 X4 (cn.1 + C, cn.2 + N)) : zAt G miL_law (zRm 2048 600000 7302250) Q 919 (lvL i) [] M X cn := by
  obtain ⟨d1, d2, r, Md, hd1, hd2, hC, hR⟩ := hO
  refine j_aload_n (n := 920) dL_law_919 rfl rfl ?_
  refine j_arg (n := 925) (j := 1) dL_law_920 dL_law_921 dL_law_922 dL_law_923 dL_law_924 rfl (by decide) (by omega) hL ?_
  refine j_arg (n := 930) (j := 2) dL_law_925 dL_law_926 dL_law_927 dL_law_928 dL_law_929 rfl (by decide) (by omega) hL ?_
  refine j_callV (n := 933) (a := 16) (as := [.int (scV G (i + 1)), .int (scV G (i + 2))]) (st := []) dL_law_930 rfl sL_102 hC (by omega) (by decide) rfl rfl (Nat.le_of_ble_eq_true rfl) hx.1 (by decide) hx.2 h1 h2 (fun v M1 X1 hp => ?_)
  obtain ⟨r0, e1, e2, hM1⟩ := hp
  subst e2
  subst e1
  obtain ⟨⟨x1, x2⟩, hR⟩ := hR M1 X1 hM1
  refine j_aload_n (n := 934) dL_law_933 rfl rfl ?_
  refine j_arg (n := 939) (j := 1) dL_law_934 dL_law_935 dL_law_936 dL_law_937 dL_law_938 rfl (by decide) (by omega) hL ?_
  refine j_arg (n := 944) (j := 2) dL_law_939 dL_law_940 dL_law_941 dL_law_942 dL_law_943 rfl (by decide) (by omega) hL ?_
  refine j_callV (n := 947) (a := 160) (as := [.int (scV G (i + 1)), .int (scV G (i + 2))]) (st := [.int r0]) dL_law_944 rfl sL_105 hR (by omega) (by decide) rfl rfl (Nat.le_of_ble_eq_true rfl) x1 (by decide) x2 h1 h2 (fun v M4 X4 hp => ?_)
  obtain ⟨r1, e3, e4, hI⟩ := hp
  subst e4
  subst e3
  exact j_icmp_eq (n := 950) (tg := 1697) dL_law_947 rfl rfl (fun _ => kk M4 X4 hI) (fun h => absurd rfl h)
theorem L_enters (hx : xc X 16 = 8 ∧ 16 < xz X) (hL : zoL G 2 ≤ 3072) (hi : i + 5 < zoL G 2) (hO : OpC G miX9_enters miX10_enters [.int (scV G (i + 1)), .int (scV G (i + 2))] M X I C N) (h1 : cn.1 + C ≤ 600000) (h2 : cn.2 + N ≤ 7302250) (kk : ∀ M4 X4, I M4 X4 → zAt G miL_law (zRm 2048 600000 7302250) Q 1697 (lvL i) [] M4 X4 (cn.1 + C, cn.2 + N)) : zAt G miL_law (zRm 2048 600000 7302250) Q 952 (lvL i) [] M X cn := by
  obtain ⟨d1, d2, r, Md, hd1, hd2, hC, hR⟩ := hO
  refine j_aload_n (n := 953) dL_law_952 rfl rfl ?_
  refine j_arg (n := 958) (j := 1) dL_law_953 dL_law_954 dL_law_955 dL_law_956 dL_law_957 rfl (by decide) (by omega) hL ?_
  refine j_arg (n := 963) (j := 2) dL_law_958 dL_law_959 dL_law_960 dL_law_961 dL_law_962 rfl (by decide) (by omega) hL ?_
  refine j_callV (n := 966) (a := 16) (as := [.int (scV G (i + 1)), .int (scV G (i + 2))]) (st := []) dL_law_963 rfl sL_106 hC (by omega) (by decide) rfl rfl (Nat.le_of_ble_eq_true rfl) hx.1 (by decide) hx.2 h1 h2 (fun v M1 X1 hp => ?_)
  obtain ⟨r0, e1, e2, hM1⟩ := hp
  subst e2
  subst e1
  obtain ⟨⟨x1, x2⟩, hR⟩ := hR M1 X1 hM1
  refine j_aload_n (n := 967) dL_law_966 rfl rfl ?_
  refine j_arg (n := 972) (j := 1) dL_law_967 dL_law_968 dL_law_969 dL_law_970 dL_law_971 rfl (by decide) (by omega) hL ?_
  refine j_arg (n := 977) (j := 2) dL_law_972 dL_law_973 dL_law_974 dL_law_975 dL_law_976 rfl (by decide) (by omega) hL ?_
  refine j_callV (n := 980) (a := 160) (as := [.int (scV G (i + 1)), .int (scV G (i + 2))]) (st := [.int r0]) dL_law_977 rfl sL_109 hR (by omega) (by decide) rfl rfl (Nat.le_of_ble_eq_true rfl) x1 (by decide) x2 h1 h2 (fun v M4 X4 hp => ?_)
  obtain ⟨r1, e3, e4, hI⟩ := hp
  subst e4
  subst e3
  exact j_icmp_eq (n := 983) (tg := 1697) dL_law_980 rfl rfl (fun _ => kk M4 X4 hI) (fun h => absurd rfl h)
theorem L_freed (hx : xc X 16 = 8 ∧ 16 < xz X) (hL : zoL G 2 ≤ 3072) (hi : i + 5 < zoL G 2) (hO : OpC G miX9_freed miX10_freed [.int (scV G (i + 1)), .int (scV G (i + 2))] M X I C N) (h1 : cn.1 + C ≤ 600000) (h2 : cn.2 + N ≤ 7302250) (kk : ∀ M4 X4, I M4 X4 → zAt G miL_law (zRm 2048 600000 7302250) Q 1697 (lvL i) [] M4 X4 (cn.1 + C, cn.2 + N)) : zAt G miL_law (zRm 2048 600000 7302250) Q 985 (lvL i) [] M X cn := by
  obtain ⟨d1, d2, r, Md, hd1, hd2, hC, hR⟩ := hO
  refine j_aload_n (n := 986) dL_law_985 rfl rfl ?_
  refine j_arg (n := 991) (j := 1) dL_law_986 dL_law_987 dL_law_988 dL_law_989 dL_law_990 rfl (by decide) (by omega) hL ?_
  refine j_arg (n := 996) (j := 2) dL_law_991 dL_law_992 dL_law_993 dL_law_994 dL_law_995 rfl (by decide) (by omega) hL ?_
  refine j_callV (n := 999) (a := 16) (as := [.int (scV G (i + 1)), .int (scV G (i + 2))]) (st := []) dL_law_996 rfl sL_110 hC (by omega) (by decide) rfl rfl (Nat.le_of_ble_eq_true rfl) hx.1 (by decide) hx.2 h1 h2 (fun v M1 X1 hp => ?_)
  obtain ⟨r0, e1, e2, hM1⟩ := hp
  subst e2
  subst e1
  obtain ⟨⟨x1, x2⟩, hR⟩ := hR M1 X1 hM1
  refine j_aload_n (n := 1000) dL_law_999 rfl rfl ?_
  refine j_arg (n := 1005) (j := 1) dL_law_1000 dL_law_1001 dL_law_1002 dL_law_1003 dL_law_1004 rfl (by decide) (by omega) hL ?_
  refine j_arg (n := 1010) (j := 2) dL_law_1005 dL_law_1006 dL_law_1007 dL_law_1008 dL_law_1009 rfl (by decide) (by omega) hL ?_
  refine j_callV (n := 1013) (a := 160) (as := [.int (scV G (i + 1)), .int (scV G (i + 2))]) (st := [.int r0]) dL_law_1010 rfl sL_113 hR (by omega) (by decide) rfl rfl (Nat.le_of_ble_eq_true rfl) x1 (by decide) x2 h1 h2 (fun v M4 X4 hp => ?_)
  obtain ⟨r1, e3, e4, hI⟩ := hp
  subst e4
  subst e3
  exact j_icmp_eq (n := 1016) (tg := 1697) dL_law_1013 rfl rfl (fun _ => kk M4 X4 hI) (fun h => absurd rfl h)
theorem L_becomes (hx : xc X 16 = 8 ∧ 16 < xz X) (hL : zoL G 2 ≤ 3072) (hi : i + 5 < zoL G 2) (hO : OpC G miX9_becomes miX10_becomes [.int (scV G (i + 1)), .int (scV G (i + 2)), .int (scV G (i + 3))] M X I C N) (h1 : cn.1 + C ≤ 600000) (h2 : cn.2 + N ≤ 7302250) (kk : ∀ M4 X4, I M4 X4 → zAt G miL_law (zRm 2048 600000 7302250) Q 1697 (lvL i) [] M4 X4 (cn.1 + C, cn.2 + N)) : zAt G miL_law (zRm 2048 600000 7302250) Q 1018 (lvL i) [] M X cn := by
  obtain ⟨d1, d2, r, Md, hd1, hd2, hC, hR⟩ := hO
  refine j_aload_n (n := 1019) dL_law_1018 rfl rfl ?_
  refine j_arg (n := 1024) (j := 1) dL_law_1019 dL_law_1020 dL_law_1021 dL_law_1022 dL_law_1023 rfl (by decide) (by omega) hL ?_
  refine j_arg (n := 1029) (j := 2) dL_law_1024 dL_law_1025 dL_law_1026 dL_law_1027 dL_law_1028 rfl (by decide) (by omega) hL ?_
  refine j_arg (n := 1034) (j := 3) dL_law_1029 dL_law_1030 dL_law_1031 dL_law_1032 dL_law_1033 rfl (by decide) (by omega) hL ?_
  refine j_callV (n := 1037) (a := 16) (as := [.int (scV G (i + 1)), .int (scV G (i + 2)), .int (scV G (i + 3))]) (st := []) dL_law_1034 rfl sL_114 hC (by omega) (by decide) rfl rfl (Nat.le_of_ble_eq_true rfl) hx.1 (by decide) hx.2 h1 h2 (fun v M1 X1 hp => ?_)
  obtain ⟨r0, e1, e2, hM1⟩ := hp
  subst e2
  subst e1
  obtain ⟨⟨x1, x2⟩, hR⟩ := hR M1 X1 hM1
  refine j_aload_n (n := 1038) dL_law_1037 rfl rfl ?_
  refine j_arg (n := 1043) (j := 1) dL_law_1038 dL_law_1039 dL_law_1040 dL_law_1041 dL_law_1042 rfl (by decide) (by omega) hL ?_
  refine j_arg (n := 1048) (j := 2) dL_law_1043 dL_law_1044 dL_law_1045 dL_law_1046 dL_law_1047 rfl (by decide) (by omega) hL ?_
  refine j_arg (n := 1053) (j := 3) dL_law_1048 dL_law_1049 dL_law_1050 dL_law_1051 dL_law_1052 rfl (by decide) (by omega) hL ?_
  refine j_callV (n := 1056) (a := 160) (as := [.int (scV G (i + 1)), .int (scV G (i + 2)), .int (scV G (i + 3))]) (st := [.int r0]) dL_law_1053 rfl sL_117 hR (by omega) (by decide) rfl rfl (Nat.le_of_ble_eq_true rfl) x1 (by decide) x2 h1 h2 (fun v M4 X4 hp => ?_)
  obtain ⟨r1, e3, e4, hI⟩ := hp
  subst e4
  subst e3
  exact j_icmp_eq (n := 1059) (tg := 1697) dL_law_1056 rfl rfl (fun _ => kk M4 X4 hI) (fun h => absurd rfl h)
theorem L_like (hx : xc X 16 = 8 ∧ 16 < xz X) (hL : zoL G 2 ≤ 3072) (hi : i + 5 < zoL G 2) (hO : OpC G miX9_like miX10_like [.int (scV G (i + 1)), .int (scV G (i + 2))] M X I C N) (h1 : cn.1 + C ≤ 600000) (h2 : cn.2 + N ≤ 7302250) (kk : ∀ M4 X4, I M4 X4 → zAt G miL_law (zRm 2048 600000 7302250) Q 1697 (lvL i) [] M4 X4 (cn.1 + C, cn.2 + N)) : zAt G miL_law (zRm 2048 600000 7302250) Q 1061 (lvL i) [] M X cn := by
  obtain ⟨d1, d2, r, Md, hd1, hd2, hC, hR⟩ := hO
  refine j_aload_n (n := 1062) dL_law_1061 rfl rfl ?_
  refine j_arg (n := 1067) (j := 1) dL_law_1062 dL_law_1063 dL_law_1064 dL_law_1065 dL_law_1066 rfl (by decide) (by omega) hL ?_
  refine j_arg (n := 1072) (j := 2) dL_law_1067 dL_law_1068 dL_law_1069 dL_law_1070 dL_law_1071 rfl (by decide) (by omega) hL ?_
  refine j_callV (n := 1075) (a := 16) (as := [.int (scV G (i + 1)), .int (scV G (i + 2))]) (st := []) dL_law_1072 rfl sL_118 hC (by omega) (by decide) rfl rfl (Nat.le_of_ble_eq_true rfl) hx.1 (by decide) hx.2 h1 h2 (fun v M1 X1 hp => ?_)
  obtain ⟨r0, e1, e2, hM1⟩ := hp
  subst e2
  subst e1
  obtain ⟨⟨x1, x2⟩, hR⟩ := hR M1 X1 hM1
  refine j_aload_n (n := 1076) dL_law_1075 rfl rfl ?_
  refine j_arg (n := 1081) (j := 1) dL_law_1076 dL_law_1077 dL_law_1078 dL_law_1079 dL_law_1080 rfl (by decide) (by omega) hL ?_
  refine j_arg (n := 1086) (j := 2) dL_law_1081 dL_law_1082 dL_law_1083 dL_law_1084 dL_law_1085 rfl (by decide) (by omega) hL ?_
  refine j_callV (n := 1089) (a := 160) (as := [.int (scV G (i + 1)), .int (scV G (i + 2))]) (st := [.int r0]) dL_law_1086 rfl sL_121 hR (by omega) (by decide) rfl rfl (Nat.le_of_ble_eq_true rfl) x1 (by decide) x2 h1 h2 (fun v M4 X4 hp => ?_)
  obtain ⟨r1, e3, e4, hI⟩ := hp
  subst e4
  subst e3
  exact j_icmp_eq (n := 1092) (tg := 1697) dL_law_1089 rfl rfl (fun _ => kk M4 X4 hI) (fun h => absurd rfl h)
theorem L_fee (hx : xc X 16 = 8 ∧ 16 < xz X) (hL : zoL G 2 ≤ 3072) (hi : i + 5 < zoL G 2) (hO : OpC G miX9_fee miX10_fee [] M X I C N) (h1 : cn.1 + C ≤ 600000) (h2 : cn.2 + N ≤ 7302250) (kk : ∀ M4 X4, I M4 X4 → zAt G miL_law (zRm 2048 600000 7302250) Q 1697 (lvL i) [] M4 X4 (cn.1 + C, cn.2 + N)) : zAt G miL_law (zRm 2048 600000 7302250) Q 1094 (lvL i) [] M X cn := by
  obtain ⟨d1, d2, r, Md, hd1, hd2, hC, hR⟩ := hO
  refine j_aload_n (n := 1095) dL_law_1094 rfl rfl ?_
  refine j_callV (n := 1098) (a := 16) (as := []) (st := []) dL_law_1095 rfl sL_122 hC (by omega) (by decide) rfl rfl (Nat.le_of_ble_eq_true rfl) hx.1 (by decide) hx.2 h1 h2 (fun v M1 X1 hp => ?_)
  obtain ⟨r0, e1, e2, hM1⟩ := hp
  subst e2
  subst e1
  obtain ⟨⟨x1, x2⟩, hR⟩ := hR M1 X1 hM1
  refine j_aload_n (n := 1099) dL_law_1098 rfl rfl ?_
  refine j_callV (n := 1102) (a := 160) (as := []) (st := [.int r0]) dL_law_1099 rfl sL_126 hR (by omega) (by decide) rfl rfl (Nat.le_of_ble_eq_true rfl) x1 (by decide) x2 h1 h2 (fun v M4 X4 hp => ?_)
  obtain ⟨r1, e3, e4, hI⟩ := hp
  subst e4
  subst e3
  exact j_icmp_eq (n := 1105) (tg := 1697) dL_law_1102 rfl rfl (fun _ => kk M4 X4 hI) (fun h => absurd rfl h)
theorem L_fine (hx : xc X 16 = 8 ∧ 16 < xz X) (hL : zoL G 2 ≤ 3072) (hi : i + 5 < zoL G 2) (hO : OpC G miX9_fine miX10_fine [.int (scV G (i + 1))] M X I C N) (h1 : cn.1 + C ≤ 600000) (h2 : cn.2 + N ≤ 7302250) (kk : ∀ M4 X4, I M4 X4 → zAt G miL_law (zRm 2048 600000 7302250) Q 1697 (lvL i) [] M4 X4 (cn.1 + C, cn.2 + N)) : zAt G miL_law (zRm 2048 600000 7302250) Q 1107 (lvL i) [] M X cn := by
  obtain ⟨d1, d2, r, Md, hd1, hd2, hC, hR⟩ := hO
  refine j_aload_n (n := 1108) dL_law_1107 rfl rfl ?_
  refine j_arg (n := 1113) (j := 1) dL_law_1108 dL_law_1109 dL_law_1110 dL_law_1111 dL_law_1112 rfl (by decide) (by omega) hL ?_
  refine j_callV (n := 1116) (a := 16) (as := [.int (scV G (i + 1))]) (st := []) dL_law_1113 rfl sL_127 hC (by omega) (by decide) rfl rfl (Nat.le_of_ble_eq_true rfl) hx.1 (by decide) hx.2 h1 h2 (fun v M1 X1 hp => ?_)
  obtain ⟨r0, e1, e2, hM1⟩ := hp
  subst e2
  subst e1
  obtain ⟨⟨x1, x2⟩, hR⟩ := hR M1 X1 hM1
  refine j_aload_n (n := 1117) dL_law_1116 rfl rfl ?_
  refine j_arg (n := 1122) (j := 1) dL_law_1117 dL_law_1118 dL_law_1119 dL_law_1120 dL_law_1121 rfl (by decide) (by omega) hL ?_
  refine j_callV (n := 1125) (a := 160) (as := [.int (scV G (i + 1))]) (st := [.int r0]) dL_law_1122 rfl sL_130 hR (by omega) (by decide) rfl rfl (Nat.le_of_ble_eq_true rfl) x1 (by decide) x2 h1 h2 (fun v M4 X4 hp => ?_)
  obtain ⟨r1, e3, e4, hI⟩ := hp
  subst e4
  subst e3
  exact j_icmp_eq (n := 1128) (tg := 1697) dL_law_1125 rfl rfl (fun _ => kk M4 X4 hI) (fun h => absurd rfl h)
theorem L_feed (hx : xc X 16 = 8 ∧ 16 < xz X) (hL : zoL G 2 ≤ 3072) (hi : i + 5 < zoL G 2) (hO : OpC G miX9_feed miX10_feed [.int (scV G (i + 1)), .int (scV G (i + 2)), .int (scV G (i + 3))] M X I C N) (h1 : cn.1 + C ≤ 600000) (h2 : cn.2 + N ≤ 7302250) (kk : ∀ M4 X4, I M4 X4 → zAt G miL_law (zRm 2048 600000 7302250) Q 1697 (lvL i) [] M4 X4 (cn.1 + C, cn.2 + N)) : zAt G miL_law (zRm 2048 600000 7302250) Q 1130 (lvL i) [] M X cn := by
  obtain ⟨d1, d2, r, Md, hd1, hd2, hC, hR⟩ := hO
  refine j_aload_n (n := 1131) dL_law_1130 rfl rfl ?_
  refine j_arg (n := 1136) (j := 1) dL_law_1131 dL_law_1132 dL_law_1133 dL_law_1134 dL_law_1135 rfl (by decide) (by omega) hL ?_
  refine j_arg (n := 1141) (j := 2) dL_law_1136 dL_law_1137 dL_law_1138 dL_law_1139 dL_law_1140 rfl (by decide) (by omega) hL ?_
  refine j_arg (n := 1146) (j := 3) dL_law_1141 dL_law_1142 dL_law_1143 dL_law_1144 dL_law_1145 rfl (by decide) (by omega) hL ?_
  refine j_callV (n := 1149) (a := 16) (as := [.int (scV G (i + 1)), .int (scV G (i + 2)), .int (scV G (i + 3))]) (st := []) dL_law_1146 rfl sL_131 hC (by omega) (by decide) rfl rfl (Nat.le_of_ble_eq_true rfl) hx.1 (by decide) hx.2 h1 h2 (fun v M1 X1 hp => ?_)
  obtain ⟨r0, e1, e2, hM1⟩ := hp
  subst e2
  subst e1
  obtain ⟨⟨x1, x2⟩, hR⟩ := hR M1 X1 hM1
  refine j_aload_n (n := 1150) dL_law_1149 rfl rfl ?_
  refine j_arg (n := 1155) (j := 1) dL_law_1150 dL_law_1151 dL_law_1152 dL_law_1153 dL_law_1154 rfl (by decide) (by omega) hL ?_
  refine j_arg (n := 1160) (j := 2) dL_law_1155 dL_law_1156 dL_law_1157 dL_law_1158 dL_law_1159 rfl (by decide) (by omega) hL ?_
  refine j_arg (n := 1165) (j := 3) dL_law_1160 dL_law_1161 dL_law_1162 dL_law_1163 dL_law_1164 rfl (by decide) (by omega) hL ?_
  refine j_callV (n := 1168) (a := 160) (as := [.int (scV G (i + 1)), .int (scV G (i + 2)), .int (scV G (i + 3))]) (st := [.int r0]) dL_law_1165 rfl sL_134 hR (by omega) (by decide) rfl rfl (Nat.le_of_ble_eq_true rfl) x1 (by decide) x2 h1 h2 (fun v M4 X4 hp => ?_)
  obtain ⟨r1, e3, e4, hI⟩ := hp
  subst e4
  subst e3
  exact j_icmp_eq (n := 1171) (tg := 1697) dL_law_1168 rfl rfl (fun _ => kk M4 X4 hI) (fun h => absurd rfl h)
theorem L_trim (hx : xc X 16 = 8 ∧ 16 < xz X) (hL : zoL G 2 ≤ 3072) (hi : i + 5 < zoL G 2) (hO : OpC G miX9_trim miX10_trim [.int (scV G (i + 1))] M X I C N) (h1 : cn.1 + C ≤ 600000) (h2 : cn.2 + N ≤ 7302250) (kk : ∀ M4 X4, I M4 X4 → zAt G miL_law (zRm 2048 600000 7302250) Q 1697 (lvL i) [] M4 X4 (cn.1 + C, cn.2 + N)) : zAt G miL_law (zRm 2048 600000 7302250) Q 1173 (lvL i) [] M X cn := by
  obtain ⟨d1, d2, r, Md, hd1, hd2, hC, hR⟩ := hO
  refine j_aload_n (n := 1174) dL_law_1173 rfl rfl ?_
  refine j_arg (n := 1179) (j := 1) dL_law_1174 dL_law_1175 dL_law_1176 dL_law_1177 dL_law_1178 rfl (by decide) (by omega) hL ?_
  refine j_callV (n := 1182) (a := 16) (as := [.int (scV G (i + 1))]) (st := []) dL_law_1179 rfl sL_135 hC (by omega) (by decide) rfl rfl (Nat.le_of_ble_eq_true rfl) hx.1 (by decide) hx.2 h1 h2 (fun v M1 X1 hp => ?_)
  obtain ⟨r0, e1, e2, hM1⟩ := hp
  subst e2
  subst e1
  obtain ⟨⟨x1, x2⟩, hR⟩ := hR M1 X1 hM1
  refine j_aload_n (n := 1183) dL_law_1182 rfl rfl ?_
  refine j_arg (n := 1188) (j := 1) dL_law_1183 dL_law_1184 dL_law_1185 dL_law_1186 dL_law_1187 rfl (by decide) (by omega) hL ?_
  refine j_callV (n := 1191) (a := 160) (as := [.int (scV G (i + 1))]) (st := [.int r0]) dL_law_1188 rfl sL_138 hR (by omega) (by decide) rfl rfl (Nat.le_of_ble_eq_true rfl) x1 (by decide) x2 h1 h2 (fun v M4 X4 hp => ?_)
  obtain ⟨r1, e3, e4, hI⟩ := hp
  subst e4
  subst e3
  exact j_icmp_eq (n := 1194) (tg := 1697) dL_law_1191 rfl rfl (fun _ => kk M4 X4 hI) (fun h => absurd rfl h)
theorem L_text (hx : xc X 16 = 8 ∧ 16 < xz X) (hL : zoL G 2 ≤ 3072) (hi : i + 5 < zoL G 2) (hO : OpC G miX9_text miX10_text [] M X I C N) (h1 : cn.1 + C ≤ 600000) (h2 : cn.2 + N ≤ 7302250) (kk : ∀ M4 X4, I M4 X4 → zAt G miL_law (zRm 2048 600000 7302250) Q 1697 (lvL i) [] M4 X4 (cn.1 + C, cn.2 + N)) : zAt G miL_law (zRm 2048 600000 7302250) Q 1196 (lvL i) [] M X cn := by
  obtain ⟨d1, d2, r, Md, hd1, hd2, hC, hR⟩ := hO
  refine j_aload_n (n := 1197) dL_law_1196 rfl rfl ?_
  refine j_callV (n := 1200) (a := 16) (as := []) (st := []) dL_law_1197 rfl sL_139 hC (by omega) (by decide) rfl rfl (Nat.le_of_ble_eq_true rfl) hx.1 (by decide) hx.2 h1 h2 (fun v M1 X1 hp => ?_)
  obtain ⟨r0, e1, e2, hM1⟩ := hp
  subst e2
  subst e1
  obtain ⟨⟨x1, x2⟩, hR⟩ := hR M1 X1 hM1
  refine j_aload_n (n := 1201) dL_law_1200 rfl rfl ?_
  refine j_callV (n := 1204) (a := 160) (as := []) (st := [.int r0]) dL_law_1201 rfl sL_142 hR (by omega) (by decide) rfl rfl (Nat.le_of_ble_eq_true rfl) x1 (by decide) x2 h1 h2 (fun v M4 X4 hp => ?_)
  obtain ⟨r1, e3, e4, hI⟩ := hp
  subst e4
  subst e3
  exact j_icmp_eq (n := 1207) (tg := 1697) dL_law_1204 rfl rfl (fun _ => kk M4 X4 hI) (fun h => absurd rfl h)
theorem L_textTold (hx : xc X 16 = 8 ∧ 16 < xz X) (hL : zoL G 2 ≤ 3072) (hi : i + 5 < zoL G 2) (hO : OpC G miX9_textTold miX10_textTold [.int (scV G (i + 1)), .int (scV G (i + 2))] M X I C N) (h1 : cn.1 + C ≤ 600000) (h2 : cn.2 + N ≤ 7302250) (kk : ∀ M4 X4, I M4 X4 → zAt G miL_law (zRm 2048 600000 7302250) Q 1697 (lvL i) [] M4 X4 (cn.1 + C, cn.2 + N)) : zAt G miL_law (zRm 2048 600000 7302250) Q 1209 (lvL i) [] M X cn := by
  obtain ⟨d1, d2, r, Md, hd1, hd2, hC, hR⟩ := hO
  refine j_aload_n (n := 1210) dL_law_1209 rfl rfl ?_
  refine j_arg (n := 1215) (j := 1) dL_law_1210 dL_law_1211 dL_law_1212 dL_law_1213 dL_law_1214 rfl (by decide) (by omega) hL ?_
  refine j_arg (n := 1220) (j := 2) dL_law_1215 dL_law_1216 dL_law_1217 dL_law_1218 dL_law_1219 rfl (by decide) (by omega) hL ?_
  refine j_callV (n := 1223) (a := 16) (as := [.int (scV G (i + 1)), .int (scV G (i + 2))]) (st := []) dL_law_1220 rfl sL_143 hC (by omega) (by decide) rfl rfl (Nat.le_of_ble_eq_true rfl) hx.1 (by decide) hx.2 h1 h2 (fun v M1 X1 hp => ?_)
  obtain ⟨r0, e1, e2, hM1⟩ := hp
  subst e2
  subst e1
  obtain ⟨⟨x1, x2⟩, hR⟩ := hR M1 X1 hM1
  refine j_aload_n (n := 1224) dL_law_1223 rfl rfl ?_
  refine j_arg (n := 1229) (j := 1) dL_law_1224 dL_law_1225 dL_law_1226 dL_law_1227 dL_law_1228 rfl (by decide) (by omega) hL ?_
  refine j_arg (n := 1234) (j := 2) dL_law_1229 dL_law_1230 dL_law_1231 dL_law_1232 dL_law_1233 rfl (by decide) (by omega) hL ?_
  refine j_callV (n := 1237) (a := 160) (as := [.int (scV G (i + 1)), .int (scV G (i + 2))]) (st := [.int r0]) dL_law_1234 rfl sL_146 hR (by omega) (by decide) rfl rfl (Nat.le_of_ble_eq_true rfl) x1 (by decide) x2 h1 h2 (fun v M4 X4 hp => ?_)
  obtain ⟨r1, e3, e4, hI⟩ := hp
  subst e4
  subst e3
  exact j_icmp_eq (n := 1240) (tg := 1697) dL_law_1237 rfl rfl (fun _ => kk M4 X4 hI) (fun h => absurd rfl h)
theorem L_why (hx : xc X 16 = 8 ∧ 16 < xz X) (hL : zoL G 2 ≤ 3072) (hi : i + 5 < zoL G 2) (hO : OpC G miX9_why miX10_why [.int (scV G (i + 1))] M X I C N) (h1 : cn.1 + C ≤ 600000) (h2 : cn.2 + N ≤ 7302250) (kk : ∀ M4 X4, I M4 X4 → zAt G miL_law (zRm 2048 600000 7302250) Q 1697 (lvL i) [] M4 X4 (cn.1 + C, cn.2 + N)) : zAt G miL_law (zRm 2048 600000 7302250) Q 1242 (lvL i) [] M X cn := by
  obtain ⟨d1, d2, r, Md, hd1, hd2, hC, hR⟩ := hO
  refine j_aload_n (n := 1243) dL_law_1242 rfl rfl ?_
  refine j_arg (n := 1248) (j := 1) dL_law_1243 dL_law_1244 dL_law_1245 dL_law_1246 dL_law_1247 rfl (by decide) (by omega) hL ?_
  refine j_callV (n := 1251) (a := 16) (as := [.int (scV G (i + 1))]) (st := []) dL_law_1248 rfl sL_147 hC (by omega) (by decide) rfl rfl (Nat.le_of_ble_eq_true rfl) hx.1 (by decide) hx.2 h1 h2 (fun v M1 X1 hp => ?_)
  obtain ⟨r0, e1, e2, hM1⟩ := hp
  subst e2
  subst e1
  obtain ⟨⟨x1, x2⟩, hR⟩ := hR M1 X1 hM1
  refine j_aload_n (n := 1252) dL_law_1251 rfl rfl ?_
  refine j_arg (n := 1257) (j := 1) dL_law_1252 dL_law_1253 dL_law_1254 dL_law_1255 dL_law_1256 rfl (by decide) (by omega) hL ?_
  refine j_callV (n := 1260) (a := 160) (as := [.int (scV G (i + 1))]) (st := [.int r0]) dL_law_1257 rfl sL_150 hR (by omega) (by decide) rfl rfl (Nat.le_of_ble_eq_true rfl) x1 (by decide) x2 h1 h2 (fun v M4 X4 hp => ?_)
  obtain ⟨r1, e3, e4, hI⟩ := hp
  subst e4
  subst e3
  exact j_icmp_eq (n := 1263) (tg := 1697) dL_law_1260 rfl rfl (fun _ => kk M4 X4 hI) (fun h => absurd rfl h)
theorem L_sheet (hx : xc X 16 = 8 ∧ 16 < xz X) (hL : zoL G 2 ≤ 3072) (hi : i + 5 < zoL G 2) (hO : OpC G miX9_sheet miX10_sheet [.int (scV G (i + 1)), .int (scV G (i + 2)), .int (scV G (i + 3))] M X I C N) (h1 : cn.1 + C ≤ 600000) (h2 : cn.2 + N ≤ 7302250) (kk : ∀ M4 X4, I M4 X4 → zAt G miL_law (zRm 2048 600000 7302250) Q 1697 (lvL i) [] M4 X4 (cn.1 + C, cn.2 + N)) : zAt G miL_law (zRm 2048 600000 7302250) Q 1265 (lvL i) [] M X cn := by
  obtain ⟨d1, d2, r, Md, hd1, hd2, hC, hR⟩ := hO
  refine j_aload_n (n := 1266) dL_law_1265 rfl rfl ?_
  refine j_arg (n := 1271) (j := 1) dL_law_1266 dL_law_1267 dL_law_1268 dL_law_1269 dL_law_1270 rfl (by decide) (by omega) hL ?_
  refine j_arg (n := 1276) (j := 2) dL_law_1271 dL_law_1272 dL_law_1273 dL_law_1274 dL_law_1275 rfl (by decide) (by omega) hL ?_
  refine j_arg (n := 1281) (j := 3) dL_law_1276 dL_law_1277 dL_law_1278 dL_law_1279 dL_law_1280 rfl (by decide) (by omega) hL ?_
  refine j_callV (n := 1284) (a := 16) (as := [.int (scV G (i + 1)), .int (scV G (i + 2)), .int (scV G (i + 3))]) (st := []) dL_law_1281 rfl sL_151 hC (by omega) (by decide) rfl rfl (Nat.le_of_ble_eq_true rfl) hx.1 (by decide) hx.2 h1 h2 (fun v M1 X1 hp => ?_)
  obtain ⟨r0, e1, e2, hM1⟩ := hp
  subst e2
  subst e1
  obtain ⟨⟨x1, x2⟩, hR⟩ := hR M1 X1 hM1
  refine j_aload_n (n := 1285) dL_law_1284 rfl rfl ?_
  refine j_arg (n := 1290) (j := 1) dL_law_1285 dL_law_1286 dL_law_1287 dL_law_1288 dL_law_1289 rfl (by decide) (by omega) hL ?_
  refine j_arg (n := 1295) (j := 2) dL_law_1290 dL_law_1291 dL_law_1292 dL_law_1293 dL_law_1294 rfl (by decide) (by omega) hL ?_
  refine j_arg (n := 1300) (j := 3) dL_law_1295 dL_law_1296 dL_law_1297 dL_law_1298 dL_law_1299 rfl (by decide) (by omega) hL ?_
  refine j_callV (n := 1303) (a := 160) (as := [.int (scV G (i + 1)), .int (scV G (i + 2)), .int (scV G (i + 3))]) (st := [.int r0]) dL_law_1300 rfl sL_154 hR (by omega) (by decide) rfl rfl (Nat.le_of_ble_eq_true rfl) x1 (by decide) x2 h1 h2 (fun v M4 X4 hp => ?_)
  obtain ⟨r1, e3, e4, hI⟩ := hp
  subst e4
  subst e3
  exact j_icmp_eq (n := 1306) (tg := 1697) dL_law_1303 rfl rfl (fun _ => kk M4 X4 hI) (fun h => absurd rfl h)
theorem L_mark (hx : xc X 16 = 8 ∧ 16 < xz X) (hL : zoL G 2 ≤ 3072) (hi : i + 5 < zoL G 2) (hO : OpC G miX9_mark miX10_mark [.int (scV G (i + 1)), .int (scV G (i + 2)), .int (scV G (i + 3))] M X I C N) (h1 : cn.1 + C ≤ 600000) (h2 : cn.2 + N ≤ 7302250) (kk : ∀ M4 X4, I M4 X4 → zAt G miL_law (zRm 2048 600000 7302250) Q 1697 (lvL i) [] M4 X4 (cn.1 + C, cn.2 + N)) : zAt G miL_law (zRm 2048 600000 7302250) Q 1308 (lvL i) [] M X cn := by
  obtain ⟨d1, d2, r, Md, hd1, hd2, hC, hR⟩ := hO
  refine j_aload_n (n := 1309) dL_law_1308 rfl rfl ?_
  refine j_arg (n := 1314) (j := 1) dL_law_1309 dL_law_1310 dL_law_1311 dL_law_1312 dL_law_1313 rfl (by decide) (by omega) hL ?_
  refine j_arg (n := 1319) (j := 2) dL_law_1314 dL_law_1315 dL_law_1316 dL_law_1317 dL_law_1318 rfl (by decide) (by omega) hL ?_
  refine j_arg (n := 1324) (j := 3) dL_law_1319 dL_law_1320 dL_law_1321 dL_law_1322 dL_law_1323 rfl (by decide) (by omega) hL ?_
  refine j_callV (n := 1327) (a := 16) (as := [.int (scV G (i + 1)), .int (scV G (i + 2)), .int (scV G (i + 3))]) (st := []) dL_law_1324 rfl sL_155 hC (by omega) (by decide) rfl rfl (Nat.le_of_ble_eq_true rfl) hx.1 (by decide) hx.2 h1 h2 (fun v M1 X1 hp => ?_)
  obtain ⟨r0, e1, e2, hM1⟩ := hp
  subst e2
  subst e1
  obtain ⟨⟨x1, x2⟩, hR⟩ := hR M1 X1 hM1
  refine j_aload_n (n := 1328) dL_law_1327 rfl rfl ?_
  refine j_arg (n := 1333) (j := 1) dL_law_1328 dL_law_1329 dL_law_1330 dL_law_1331 dL_law_1332 rfl (by decide) (by omega) hL ?_
  refine j_arg (n := 1338) (j := 2) dL_law_1333 dL_law_1334 dL_law_1335 dL_law_1336 dL_law_1337 rfl (by decide) (by omega) hL ?_
  refine j_arg (n := 1343) (j := 3) dL_law_1338 dL_law_1339 dL_law_1340 dL_law_1341 dL_law_1342 rfl (by decide) (by omega) hL ?_
  refine j_callV (n := 1346) (a := 160) (as := [.int (scV G (i + 1)), .int (scV G (i + 2)), .int (scV G (i + 3))]) (st := [.int r0]) dL_law_1343 rfl sL_158 hR (by omega) (by decide) rfl rfl (Nat.le_of_ble_eq_true rfl) x1 (by decide) x2 h1 h2 (fun v M4 X4 hp => ?_)
  obtain ⟨r1, e3, e4, hI⟩ := hp
  subst e4
  subst e3
  exact j_icmp_eq (n := 1349) (tg := 1697) dL_law_1346 rfl rfl (fun _ => kk M4 X4 hI) (fun h => absurd rfl h)
theorem L_pour (hx : xc X 16 = 8 ∧ 16 < xz X) (hL : zoL G 2 ≤ 3072) (hi : i + 5 < zoL G 2) (hO : OpC G miX9_pour miX10_pour [.int (scV G (i + 1))] M X I C N) (h1 : cn.1 + C ≤ 600000) (h2 : cn.2 + N ≤ 7302250) (kk : ∀ M4 X4, I M4 X4 → zAt G miL_law (zRm 2048 600000 7302250) Q 1697 (lvL i) [] M4 X4 (cn.1 + C, cn.2 + N)) : zAt G miL_law (zRm 2048 600000 7302250) Q 1351 (lvL i) [] M X cn := by
  obtain ⟨d1, d2, r, Md, hd1, hd2, hC, hR⟩ := hO
  refine j_aload_n (n := 1352) dL_law_1351 rfl rfl ?_
  refine j_arg (n := 1357) (j := 1) dL_law_1352 dL_law_1353 dL_law_1354 dL_law_1355 dL_law_1356 rfl (by decide) (by omega) hL ?_
  refine j_callV (n := 1360) (a := 16) (as := [.int (scV G (i + 1))]) (st := []) dL_law_1357 rfl sL_159 hC (by omega) (by decide) rfl rfl (Nat.le_of_ble_eq_true rfl) hx.1 (by decide) hx.2 h1 h2 (fun v M1 X1 hp => ?_)
  obtain ⟨r0, e1, e2, hM1⟩ := hp
  subst e2
  subst e1
  obtain ⟨⟨x1, x2⟩, hR⟩ := hR M1 X1 hM1
  refine j_aload_n (n := 1361) dL_law_1360 rfl rfl ?_
  refine j_arg (n := 1366) (j := 1) dL_law_1361 dL_law_1362 dL_law_1363 dL_law_1364 dL_law_1365 rfl (by decide) (by omega) hL ?_
  refine j_callV (n := 1369) (a := 160) (as := [.int (scV G (i + 1))]) (st := [.int r0]) dL_law_1366 rfl sL_162 hR (by omega) (by decide) rfl rfl (Nat.le_of_ble_eq_true rfl) x1 (by decide) x2 h1 h2 (fun v M4 X4 hp => ?_)
  obtain ⟨r1, e3, e4, hI⟩ := hp
  subst e4
  subst e3
  exact j_icmp_eq (n := 1372) (tg := 1697) dL_law_1369 rfl rfl (fun _ => kk M4 X4 hI) (fun h => absurd rfl h)
theorem L_reads (hx : xc X 16 = 8 ∧ 16 < xz X) (hL : zoL G 2 ≤ 3072) (hi : i + 5 < zoL G 2) (hO : OpC G miX9_reads miX10_reads [.int (scV G (i + 1))] M X I C N) (h1 : cn.1 + C ≤ 600000) (h2 : cn.2 + N ≤ 7302250) (kk : ∀ M4 X4, I M4 X4 → zAt G miL_law (zRm 2048 600000 7302250) Q 1697 (lvL i) [] M4 X4 (cn.1 + C, cn.2 + N)) : zAt G miL_law (zRm 2048 600000 7302250) Q 1374 (lvL i) [] M X cn := by
  obtain ⟨d1, d2, r, Md, hd1, hd2, hC, hR⟩ := hO
  refine j_aload_n (n := 1375) dL_law_1374 rfl rfl ?_
  refine j_arg (n := 1380) (j := 1) dL_law_1375 dL_law_1376 dL_law_1377 dL_law_1378 dL_law_1379 rfl (by decide) (by omega) hL ?_
  refine j_callV (n := 1383) (a := 16) (as := [.int (scV G (i + 1))]) (st := []) dL_law_1380 rfl sL_163 hC (by omega) (by decide) rfl rfl (Nat.le_of_ble_eq_true rfl) hx.1 (by decide) hx.2 h1 h2 (fun v M1 X1 hp => ?_)
  obtain ⟨r0, e1, e2, hM1⟩ := hp
  subst e2
  subst e1
  obtain ⟨⟨x1, x2⟩, hR⟩ := hR M1 X1 hM1
  refine j_aload_n (n := 1384) dL_law_1383 rfl rfl ?_
  refine j_arg (n := 1389) (j := 1) dL_law_1384 dL_law_1385 dL_law_1386 dL_law_1387 dL_law_1388 rfl (by decide) (by omega) hL ?_
  refine j_callV (n := 1392) (a := 160) (as := [.int (scV G (i + 1))]) (st := [.int r0]) dL_law_1389 rfl sL_166 hR (by omega) (by decide) rfl rfl (Nat.le_of_ble_eq_true rfl) x1 (by decide) x2 h1 h2 (fun v M4 X4 hp => ?_)
  obtain ⟨r1, e3, e4, hI⟩ := hp
  subst e4
  subst e3
  exact j_icmp_eq (n := 1395) (tg := 1697) dL_law_1392 rfl rfl (fun _ => kk M4 X4 hI) (fun h => absurd rfl h)
theorem L_copy (hx : xc X 16 = 8 ∧ 16 < xz X) (hL : zoL G 2 ≤ 3072) (hi : i + 5 < zoL G 2) (hO : OpC G miX9_copy miX10_copy [.int (scV G (i + 1)), .int (scV G (i + 2)), .int (scV G (i + 3)), .int (scV G (i + 4)), .int (scV G (i + 5))] M X I C N) (h1 : cn.1 + C ≤ 600000) (h2 : cn.2 + N ≤ 7302250) (kk : ∀ M4 X4, I M4 X4 → zAt G miL_law (zRm 2048 600000 7302250) Q 1697 (lvL i) [] M4 X4 (cn.1 + C, cn.2 + N)) : zAt G miL_law (zRm 2048 600000 7302250) Q 1397 (lvL i) [] M X cn := by
  obtain ⟨d1, d2, r, Md, hd1, hd2, hC, hR⟩ := hO
  refine j_aload_n (n := 1398) dL_law_1397 rfl rfl ?_
  refine j_arg (n := 1403) (j := 1) dL_law_1398 dL_law_1399 dL_law_1400 dL_law_1401 dL_law_1402 rfl (by decide) (by omega) hL ?_
  refine j_arg (n := 1408) (j := 2) dL_law_1403 dL_law_1404 dL_law_1405 dL_law_1406 dL_law_1407 rfl (by decide) (by omega) hL ?_
  refine j_arg (n := 1413) (j := 3) dL_law_1408 dL_law_1409 dL_law_1410 dL_law_1411 dL_law_1412 rfl (by decide) (by omega) hL ?_
  refine j_arg (n := 1418) (j := 4) dL_law_1413 dL_law_1414 dL_law_1415 dL_law_1416 dL_law_1417 rfl (by decide) (by omega) hL ?_
  refine j_arg (n := 1423) (j := 5) dL_law_1418 dL_law_1419 dL_law_1420 dL_law_1421 dL_law_1422 rfl (by decide) (by omega) hL ?_
  refine j_callV (n := 1426) (a := 16) (as := [.int (scV G (i + 1)), .int (scV G (i + 2)), .int (scV G (i + 3)), .int (scV G (i + 4)), .int (scV G (i + 5))]) (st := []) dL_law_1423 rfl sL_167 hC (by omega) (by decide) rfl rfl (Nat.le_of_ble_eq_true rfl) hx.1 (by decide) hx.2 h1 h2 (fun v M1 X1 hp => ?_)
  obtain ⟨r0, e1, e2, hM1⟩ := hp
  subst e2
  subst e1
  obtain ⟨⟨x1, x2⟩, hR⟩ := hR M1 X1 hM1
  refine j_aload_n (n := 1427) dL_law_1426 rfl rfl ?_
  refine j_arg (n := 1432) (j := 1) dL_law_1427 dL_law_1428 dL_law_1429 dL_law_1430 dL_law_1431 rfl (by decide) (by omega) hL ?_
  refine j_arg (n := 1437) (j := 2) dL_law_1432 dL_law_1433 dL_law_1434 dL_law_1435 dL_law_1436 rfl (by decide) (by omega) hL ?_
  refine j_arg (n := 1442) (j := 3) dL_law_1437 dL_law_1438 dL_law_1439 dL_law_1440 dL_law_1441 rfl (by decide) (by omega) hL ?_
  refine j_arg (n := 1447) (j := 4) dL_law_1442 dL_law_1443 dL_law_1444 dL_law_1445 dL_law_1446 rfl (by decide) (by omega) hL ?_
  refine j_arg (n := 1452) (j := 5) dL_law_1447 dL_law_1448 dL_law_1449 dL_law_1450 dL_law_1451 rfl (by decide) (by omega) hL ?_
  refine j_callV (n := 1455) (a := 160) (as := [.int (scV G (i + 1)), .int (scV G (i + 2)), .int (scV G (i + 3)), .int (scV G (i + 4)), .int (scV G (i + 5))]) (st := [.int r0]) dL_law_1452 rfl sL_170 hR (by omega) (by decide) rfl rfl (Nat.le_of_ble_eq_true rfl) x1 (by decide) x2 h1 h2 (fun v M4 X4 hp => ?_)
  obtain ⟨r1, e3, e4, hI⟩ := hp
  subst e4
  subst e3
  exact j_icmp_eq (n := 1458) (tg := 1697) dL_law_1455 rfl rfl (fun _ => kk M4 X4 hI) (fun h => absurd rfl h)
theorem L_lay (hx : xc X 16 = 8 ∧ 16 < xz X) (hL : zoL G 2 ≤ 3072) (hi : i + 5 < zoL G 2) (hO : OpC G miX9_lay miX10_lay [.int (scV G (i + 1)), .int (scV G (i + 2)), .int (scV G (i + 3))] M X I C N) (h1 : cn.1 + C ≤ 600000) (h2 : cn.2 + N ≤ 7302250) (kk : ∀ M4 X4, I M4 X4 → zAt G miL_law (zRm 2048 600000 7302250) Q 1697 (lvL i) [] M4 X4 (cn.1 + C, cn.2 + N)) : zAt G miL_law (zRm 2048 600000 7302250) Q 1460 (lvL i) [] M X cn := by
  obtain ⟨d1, d2, r, Md, hd1, hd2, hC, hR⟩ := hO
  refine j_aload_n (n := 1461) dL_law_1460 rfl rfl ?_
  refine j_arg (n := 1466) (j := 1) dL_law_1461 dL_law_1462 dL_law_1463 dL_law_1464 dL_law_1465 rfl (by decide) (by omega) hL ?_
  refine j_arg (n := 1471) (j := 2) dL_law_1466 dL_law_1467 dL_law_1468 dL_law_1469 dL_law_1470 rfl (by decide) (by omega) hL ?_
  refine j_arg (n := 1476) (j := 3) dL_law_1471 dL_law_1472 dL_law_1473 dL_law_1474 dL_law_1475 rfl (by decide) (by omega) hL ?_
  refine j_callV (n := 1479) (a := 16) (as := [.int (scV G (i + 1)), .int (scV G (i + 2)), .int (scV G (i + 3))]) (st := []) dL_law_1476 rfl sL_171 hC (by omega) (by decide) rfl rfl (Nat.le_of_ble_eq_true rfl) hx.1 (by decide) hx.2 h1 h2 (fun v M1 X1 hp => ?_)
  obtain ⟨r0, e1, e2, hM1⟩ := hp
  subst e2
  subst e1
  obtain ⟨⟨x1, x2⟩, hR⟩ := hR M1 X1 hM1
  refine j_aload_n (n := 1480) dL_law_1479 rfl rfl ?_
  refine j_arg (n := 1485) (j := 1) dL_law_1480 dL_law_1481 dL_law_1482 dL_law_1483 dL_law_1484 rfl (by decide) (by omega) hL ?_
  refine j_arg (n := 1490) (j := 2) dL_law_1485 dL_law_1486 dL_law_1487 dL_law_1488 dL_law_1489 rfl (by decide) (by omega) hL ?_
  refine j_arg (n := 1495) (j := 3) dL_law_1490 dL_law_1491 dL_law_1492 dL_law_1493 dL_law_1494 rfl (by decide) (by omega) hL ?_
  refine j_callV (n := 1498) (a := 160) (as := [.int (scV G (i + 1)), .int (scV G (i + 2)), .int (scV G (i + 3))]) (st := [.int r0]) dL_law_1495 rfl sL_174 hR (by omega) (by decide) rfl rfl (Nat.le_of_ble_eq_true rfl) x1 (by decide) x2 h1 h2 (fun v M4 X4 hp => ?_)
  obtain ⟨r1, e3, e4, hI⟩ := hp
  subst e4
  subst e3
  exact j_icmp_eq (n := 1501) (tg := 1697) dL_law_1498 rfl rfl (fun _ => kk M4 X4 hI) (fun h => absurd rfl h)
theorem L_ask (hx : xc X 16 = 8 ∧ 16 < xz X) (hL : zoL G 2 ≤ 3072) (hi : i + 5 < zoL G 2) (hO : OpC G miX9_ask miX10_ask [.int (scV G (i + 1)), .int (scV G (i + 2))] M X I C N) (h1 : cn.1 + C ≤ 600000) (h2 : cn.2 + N ≤ 7302250) (kk : ∀ M4 X4, I M4 X4 → zAt G miL_law (zRm 2048 600000 7302250) Q 1697 (lvL i) [] M4 X4 (cn.1 + C, cn.2 + N)) : zAt G miL_law (zRm 2048 600000 7302250) Q 1503 (lvL i) [] M X cn := by
  obtain ⟨d1, d2, r, Md, hd1, hd2, hC, hR⟩ := hO
  refine j_aload_n (n := 1504) dL_law_1503 rfl rfl ?_
  refine j_arg (n := 1509) (j := 1) dL_law_1504 dL_law_1505 dL_law_1506 dL_law_1507 dL_law_1508 rfl (by decide) (by omega) hL ?_
  refine j_arg (n := 1514) (j := 2) dL_law_1509 dL_law_1510 dL_law_1511 dL_law_1512 dL_law_1513 rfl (by decide) (by omega) hL ?_
  refine j_callV (n := 1517) (a := 16) (as := [.int (scV G (i + 1)), .int (scV G (i + 2))]) (st := []) dL_law_1514 rfl sL_175 hC (by omega) (by decide) rfl rfl (Nat.le_of_ble_eq_true rfl) hx.1 (by decide) hx.2 h1 h2 (fun v M1 X1 hp => ?_)
  obtain ⟨r0, e1, e2, hM1⟩ := hp
  subst e2
  subst e1
  obtain ⟨⟨x1, x2⟩, hR⟩ := hR M1 X1 hM1
  refine j_aload_n (n := 1518) dL_law_1517 rfl rfl ?_
  refine j_arg (n := 1523) (j := 1) dL_law_1518 dL_law_1519 dL_law_1520 dL_law_1521 dL_law_1522 rfl (by decide) (by omega) hL ?_
  refine j_arg (n := 1528) (j := 2) dL_law_1523 dL_law_1524 dL_law_1525 dL_law_1526 dL_law_1527 rfl (by decide) (by omega) hL ?_
  refine j_callV (n := 1531) (a := 160) (as := [.int (scV G (i + 1)), .int (scV G (i + 2))]) (st := [.int r0]) dL_law_1528 rfl sL_178 hR (by omega) (by decide) rfl rfl (Nat.le_of_ble_eq_true rfl) x1 (by decide) x2 h1 h2 (fun v M4 X4 hp => ?_)
  obtain ⟨r1, e3, e4, hI⟩ := hp
  subst e4
  subst e3
  exact j_icmp_eq (n := 1534) (tg := 1697) dL_law_1531 rfl rfl (fun _ => kk M4 X4 hI) (fun h => absurd rfl h)
theorem L_item (hx : xc X 16 = 8 ∧ 16 < xz X) (hL : zoL G 2 ≤ 3072) (hi : i + 5 < zoL G 2) (hO : OpC G miX9_item miX10_item [.int (scV G (i + 1)), .int (scV G (i + 2))] M X I C N) (h1 : cn.1 + C ≤ 600000) (h2 : cn.2 + N ≤ 7302250) (kk : ∀ M4 X4, I M4 X4 → zAt G miL_law (zRm 2048 600000 7302250) Q 1697 (lvL i) [] M4 X4 (cn.1 + C, cn.2 + N)) : zAt G miL_law (zRm 2048 600000 7302250) Q 1536 (lvL i) [] M X cn := by
  obtain ⟨d1, d2, r, Md, hd1, hd2, hC, hR⟩ := hO
  refine j_aload_n (n := 1537) dL_law_1536 rfl rfl ?_
  refine j_arg (n := 1542) (j := 1) dL_law_1537 dL_law_1538 dL_law_1539 dL_law_1540 dL_law_1541 rfl (by decide) (by omega) hL ?_
  refine j_arg (n := 1547) (j := 2) dL_law_1542 dL_law_1543 dL_law_1544 dL_law_1545 dL_law_1546 rfl (by decide) (by omega) hL ?_
  refine j_callV (n := 1550) (a := 16) (as := [.int (scV G (i + 1)), .int (scV G (i + 2))]) (st := []) dL_law_1547 rfl sL_179 hC (by omega) (by decide) rfl rfl (Nat.le_of_ble_eq_true rfl) hx.1 (by decide) hx.2 h1 h2 (fun v M1 X1 hp => ?_)
  obtain ⟨r0, e1, e2, hM1⟩ := hp
  subst e2
  subst e1
  obtain ⟨⟨x1, x2⟩, hR⟩ := hR M1 X1 hM1
  refine j_aload_n (n := 1551) dL_law_1550 rfl rfl ?_
  refine j_arg (n := 1556) (j := 1) dL_law_1551 dL_law_1552 dL_law_1553 dL_law_1554 dL_law_1555 rfl (by decide) (by omega) hL ?_
  refine j_arg (n := 1561) (j := 2) dL_law_1556 dL_law_1557 dL_law_1558 dL_law_1559 dL_law_1560 rfl (by decide) (by omega) hL ?_
  refine j_callV (n := 1564) (a := 160) (as := [.int (scV G (i + 1)), .int (scV G (i + 2))]) (st := [.int r0]) dL_law_1561 rfl sL_182 hR (by omega) (by decide) rfl rfl (Nat.le_of_ble_eq_true rfl) x1 (by decide) x2 h1 h2 (fun v M4 X4 hp => ?_)
  obtain ⟨r1, e3, e4, hI⟩ := hp
  subst e4
  subst e3
  exact j_icmp_eq (n := 1567) (tg := 1697) dL_law_1564 rfl rfl (fun _ => kk M4 X4 hI) (fun h => absurd rfl h)
theorem L_rest (hx : xc X 16 = 8 ∧ 16 < xz X) (hL : zoL G 2 ≤ 3072) (hi : i + 5 < zoL G 2) (hO : OpC G miX9_rest miX10_rest [.int (scV G (i + 1)), .int (scV G (i + 2))] M X I C N) (h1 : cn.1 + C ≤ 600000) (h2 : cn.2 + N ≤ 7302250) (kk : ∀ M4 X4, I M4 X4 → zAt G miL_law (zRm 2048 600000 7302250) Q 1697 (lvL i) [] M4 X4 (cn.1 + C, cn.2 + N)) : zAt G miL_law (zRm 2048 600000 7302250) Q 1569 (lvL i) [] M X cn := by
  obtain ⟨d1, d2, r, Md, hd1, hd2, hC, hR⟩ := hO
  refine j_aload_n (n := 1570) dL_law_1569 rfl rfl ?_
  refine j_arg (n := 1575) (j := 1) dL_law_1570 dL_law_1571 dL_law_1572 dL_law_1573 dL_law_1574 rfl (by decide) (by omega) hL ?_
  refine j_arg (n := 1580) (j := 2) dL_law_1575 dL_law_1576 dL_law_1577 dL_law_1578 dL_law_1579 rfl (by decide) (by omega) hL ?_
  refine j_callV (n := 1583) (a := 16) (as := [.int (scV G (i + 1)), .int (scV G (i + 2))]) (st := []) dL_law_1580 rfl sL_183 hC (by omega) (by decide) rfl rfl (Nat.le_of_ble_eq_true rfl) hx.1 (by decide) hx.2 h1 h2 (fun v M1 X1 hp => ?_)
  obtain ⟨r0, e1, e2, hM1⟩ := hp
  subst e2
  subst e1
  obtain ⟨⟨x1, x2⟩, hR⟩ := hR M1 X1 hM1
  refine j_aload_n (n := 1584) dL_law_1583 rfl rfl ?_
  refine j_arg (n := 1589) (j := 1) dL_law_1584 dL_law_1585 dL_law_1586 dL_law_1587 dL_law_1588 rfl (by decide) (by omega) hL ?_
  refine j_arg (n := 1594) (j := 2) dL_law_1589 dL_law_1590 dL_law_1591 dL_law_1592 dL_law_1593 rfl (by decide) (by omega) hL ?_
  refine j_callV (n := 1597) (a := 160) (as := [.int (scV G (i + 1)), .int (scV G (i + 2))]) (st := [.int r0]) dL_law_1594 rfl sL_186 hR (by omega) (by decide) rfl rfl (Nat.le_of_ble_eq_true rfl) x1 (by decide) x2 h1 h2 (fun v M4 X4 hp => ?_)
  obtain ⟨r1, e3, e4, hI⟩ := hp
  subst e4
  subst e3
  exact j_icmp_eq (n := 1600) (tg := 1697) dL_law_1597 rfl rfl (fun _ => kk M4 X4 hI) (fun h => absurd rfl h)
theorem L_tell (hx : xc X 16 = 8 ∧ 16 < xz X) (hL : zoL G 2 ≤ 3072) (hi : i + 5 < zoL G 2) (hO : OpC G miX9_tell miX10_tell [.int (scV G (i + 1))] M X I C N) (h1 : cn.1 + C ≤ 600000) (h2 : cn.2 + N ≤ 7302250) (kk : ∀ M4 X4, I M4 X4 → zAt G miL_law (zRm 2048 600000 7302250) Q 1697 (lvL i) [] M4 X4 (cn.1 + C, cn.2 + N)) : zAt G miL_law (zRm 2048 600000 7302250) Q 1602 (lvL i) [] M X cn := by
  obtain ⟨d1, d2, r, Md, hd1, hd2, hC, hR⟩ := hO
  refine j_aload_n (n := 1603) dL_law_1602 rfl rfl ?_
  refine j_arg (n := 1608) (j := 1) dL_law_1603 dL_law_1604 dL_law_1605 dL_law_1606 dL_law_1607 rfl (by decide) (by omega) hL ?_
  refine j_callV (n := 1611) (a := 16) (as := [.int (scV G (i + 1))]) (st := []) dL_law_1608 rfl sL_187 hC (by omega) (by decide) rfl rfl (Nat.le_of_ble_eq_true rfl) hx.1 (by decide) hx.2 h1 h2 (fun v M1 X1 hp => ?_)
  obtain ⟨r0, e1, e2, hM1⟩ := hp
  subst e2
  subst e1
  obtain ⟨⟨x1, x2⟩, hR⟩ := hR M1 X1 hM1
  refine j_aload_n (n := 1612) dL_law_1611 rfl rfl ?_
  refine j_arg (n := 1617) (j := 1) dL_law_1612 dL_law_1613 dL_law_1614 dL_law_1615 dL_law_1616 rfl (by decide) (by omega) hL ?_
  refine j_callV (n := 1620) (a := 160) (as := [.int (scV G (i + 1))]) (st := [.int r0]) dL_law_1617 rfl sL_190 hR (by omega) (by decide) rfl rfl (Nat.le_of_ble_eq_true rfl) x1 (by decide) x2 h1 h2 (fun v M4 X4 hp => ?_)
  obtain ⟨r1, e3, e4, hI⟩ := hp
  subst e4
  subst e3
  exact j_icmp_eq (n := 1623) (tg := 1697) dL_law_1620 rfl rfl (fun _ => kk M4 X4 hI) (fun h => absurd rfl h)
theorem L_check (hx : xc X 16 = 8 ∧ 16 < xz X) (hL : zoL G 2 ≤ 3072) (hi : i + 5 < zoL G 2) (hO : OpC G miX9_check miX10_check [.int (scV G (i + 1))] M X I C N) (h1 : cn.1 + C ≤ 600000) (h2 : cn.2 + N ≤ 7302250) (kk : ∀ M4 X4, I M4 X4 → zAt G miL_law (zRm 2048 600000 7302250) Q 1697 (lvL i) [] M4 X4 (cn.1 + C, cn.2 + N)) : zAt G miL_law (zRm 2048 600000 7302250) Q 1625 (lvL i) [] M X cn := by
  obtain ⟨d1, d2, r, Md, hd1, hd2, hC, hR⟩ := hO
  refine j_aload_n (n := 1626) dL_law_1625 rfl rfl ?_
  refine j_arg (n := 1631) (j := 1) dL_law_1626 dL_law_1627 dL_law_1628 dL_law_1629 dL_law_1630 rfl (by decide) (by omega) hL ?_
  refine j_callV (n := 1634) (a := 16) (as := [.int (scV G (i + 1))]) (st := []) dL_law_1631 rfl sL_191 hC (by omega) (by decide) rfl rfl (Nat.le_of_ble_eq_true rfl) hx.1 (by decide) hx.2 h1 h2 (fun v M1 X1 hp => ?_)
  obtain ⟨r0, e1, e2, hM1⟩ := hp
  subst e2
  subst e1
  obtain ⟨⟨x1, x2⟩, hR⟩ := hR M1 X1 hM1
  refine j_aload_n (n := 1635) dL_law_1634 rfl rfl ?_
  refine j_arg (n := 1640) (j := 1) dL_law_1635 dL_law_1636 dL_law_1637 dL_law_1638 dL_law_1639 rfl (by decide) (by omega) hL ?_
  refine j_callV (n := 1643) (a := 160) (as := [.int (scV G (i + 1))]) (st := [.int r0]) dL_law_1640 rfl sL_194 hR (by omega) (by decide) rfl rfl (Nat.le_of_ble_eq_true rfl) x1 (by decide) x2 h1 h2 (fun v M4 X4 hp => ?_)
  obtain ⟨r1, e3, e4, hI⟩ := hp
  subst e4
  subst e3
  exact j_icmp_eq (n := 1646) (tg := 1697) dL_law_1643 rfl rfl (fun _ => kk M4 X4 hI) (fun h => absurd rfl h)
theorem L_keep (hx : xc X 16 = 8 ∧ 16 < xz X) (hL : zoL G 2 ≤ 3072) (hi : i + 5 < zoL G 2) (hO : OpC G miX9_keep miX10_keep [] M X I C N) (h1 : cn.1 + C ≤ 600000) (h2 : cn.2 + N ≤ 7302250) (kk : ∀ M4 X4, I M4 X4 → zAt G miL_law (zRm 2048 600000 7302250) Q 1697 (lvL i) [] M4 X4 (cn.1 + C, cn.2 + N)) : zAt G miL_law (zRm 2048 600000 7302250) Q 1648 (lvL i) [] M X cn := by
  obtain ⟨d1, d2, r, Md, hd1, hd2, hC, hR⟩ := hO
  refine j_aload_n (n := 1649) dL_law_1648 rfl rfl ?_
  refine j_callV (n := 1652) (a := 16) (as := []) (st := []) dL_law_1649 rfl sL_195 hC (by omega) (by decide) rfl rfl (Nat.le_of_ble_eq_true rfl) hx.1 (by decide) hx.2 h1 h2 (fun v M1 X1 hp => ?_)
  obtain ⟨r0, e1, e2, hM1⟩ := hp
  subst e2
  subst e1
  obtain ⟨⟨x1, x2⟩, hR⟩ := hR M1 X1 hM1
  refine j_aload_n (n := 1653) dL_law_1652 rfl rfl ?_
  refine j_callV (n := 1656) (a := 160) (as := []) (st := [.int r0]) dL_law_1653 rfl sL_198 hR (by omega) (by decide) rfl rfl (Nat.le_of_ble_eq_true rfl) x1 (by decide) x2 h1 h2 (fun v M4 X4 hp => ?_)
  obtain ⟨r1, e3, e4, hI⟩ := hp
  subst e4
  subst e3
  exact j_icmp_eq (n := 1659) (tg := 1697) dL_law_1656 rfl rfl (fun _ => kk M4 X4 hI) (fun h => absurd rfl h)
theorem L_back (hx : xc X 16 = 8 ∧ 16 < xz X) (hL : zoL G 2 ≤ 3072) (hi : i + 5 < zoL G 2) (hO : OpC G miX9_back miX10_back [] M X I C N) (h1 : cn.1 + C ≤ 600000) (h2 : cn.2 + N ≤ 7302250) (kk : ∀ M4 X4, I M4 X4 → zAt G miL_law (zRm 2048 600000 7302250) Q 1697 (lvL i) [] M4 X4 (cn.1 + C, cn.2 + N)) : zAt G miL_law (zRm 2048 600000 7302250) Q 1661 (lvL i) [] M X cn := by
  obtain ⟨d1, d2, r, Md, hd1, hd2, hC, hR⟩ := hO
  refine j_aload_n (n := 1662) dL_law_1661 rfl rfl ?_
  refine j_callV (n := 1665) (a := 16) (as := []) (st := []) dL_law_1662 rfl sL_199 hC (by omega) (by decide) rfl rfl (Nat.le_of_ble_eq_true rfl) hx.1 (by decide) hx.2 h1 h2 (fun v M1 X1 hp => ?_)
  obtain ⟨r0, e1, e2, hM1⟩ := hp
  subst e2
  subst e1
  obtain ⟨⟨x1, x2⟩, hR⟩ := hR M1 X1 hM1
  refine j_aload_n (n := 1666) dL_law_1665 rfl rfl ?_
  refine j_callV (n := 1669) (a := 160) (as := []) (st := [.int r0]) dL_law_1666 rfl sL_202 hR (by omega) (by decide) rfl rfl (Nat.le_of_ble_eq_true rfl) x1 (by decide) x2 h1 h2 (fun v M4 X4 hp => ?_)
  obtain ⟨r1, e3, e4, hI⟩ := hp
  subst e4
  subst e3
  exact j_icmp_eq (n := 1672) (tg := 1697) dL_law_1669 rfl rfl (fun _ => kk M4 X4 hI) (fun h => absurd rfl h)
theorem L_count (hx : xc X 16 = 8 ∧ 16 < xz X) (hL : zoL G 2 ≤ 3072) (hi : i + 5 < zoL G 2) (hO : OpC G miX9_count miX10_count [.int (scV G (i + 1))] M X I C N) (h1 : cn.1 + C ≤ 600000) (h2 : cn.2 + N ≤ 7302250) (kk : ∀ M4 X4, I M4 X4 → zAt G miL_law (zRm 2048 600000 7302250) Q 1697 (lvL i) [] M4 X4 (cn.1 + C, cn.2 + N)) : zAt G miL_law (zRm 2048 600000 7302250) Q 1674 (lvL i) [] M X cn := by
  obtain ⟨d1, d2, r, Md, hd1, hd2, hC, hR⟩ := hO
  refine j_aload_n (n := 1675) dL_law_1674 rfl rfl ?_
  refine j_arg (n := 1680) (j := 1) dL_law_1675 dL_law_1676 dL_law_1677 dL_law_1678 dL_law_1679 rfl (by decide) (by omega) hL ?_
  refine j_callV (n := 1683) (a := 16) (as := [.int (scV G (i + 1))]) (st := []) dL_law_1680 rfl sL_203 hC (by omega) (by decide) rfl rfl (Nat.le_of_ble_eq_true rfl) hx.1 (by decide) hx.2 h1 h2 (fun v M1 X1 hp => ?_)
  obtain ⟨r0, e1, e2, hM1⟩ := hp
  subst e2
  subst e1
  obtain ⟨⟨x1, x2⟩, hR⟩ := hR M1 X1 hM1
  refine j_aload_n (n := 1684) dL_law_1683 rfl rfl ?_
  refine j_arg (n := 1689) (j := 1) dL_law_1684 dL_law_1685 dL_law_1686 dL_law_1687 dL_law_1688 rfl (by decide) (by omega) hL ?_
  refine j_callV (n := 1692) (a := 160) (as := [.int (scV G (i + 1))]) (st := [.int r0]) dL_law_1689 rfl sL_206 hR (by omega) (by decide) rfl rfl (Nat.le_of_ble_eq_true rfl) x1 (by decide) x2 h1 h2 (fun v M4 X4 hp => ?_)
  obtain ⟨r1, e3, e4, hI⟩ := hp
  subst e4
  subst e3
  exact j_icmp_eq (n := 1695) (tg := 1697) dL_law_1692 rfl rfl (fun _ => kk M4 X4 hI) (fun h => absurd rfl h)
end LAWA
