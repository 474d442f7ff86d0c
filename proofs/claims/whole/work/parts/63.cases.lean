theorem lwc0 {G : GX} {p : Program} {e : Env} {s : State} {m : MethodId} {below : List Frame} {meth : Method} {c : Code} {b L : Nat} {xs : Nat → Int32} {ls : Array Slot} {i : Nat} {mem : Mem} (X : LX G p s m meth c b L xs ls i) (hi : i + 5 ≤ L ∧ L ≤ 2560) (hm : Inv mem) (k : ∀ m2 : Mem, Inv m2 → LW G p e s m below meth c b ls m2 1306 []) : LW G p e s m below meth c b ls mem 200 [] := by
  refine lw_al1 X dL_law_200 ?_
  refine lw_arg X hi 1 (by decide) (by decide) dL_law_201 dL_law_202 dL_law_203 dL_law_204 dL_law_205 ?_
  refine lw_call X (P0 (xs (i + 1)) mem hm).ty rfl rfl okX5_feed insX5_feed selX5_feed lkL_13 rfl rfl (Nat.le_of_ble_eq_true rfl) dL_law_206 (fun v m1 z => ?_)
  obtain ⟨x, rfl⟩ := z.1.1 rfl
  refine lw_al2 X dL_law_209 ?_
  refine lw_arg X hi 1 (by decide) (by decide) dL_law_210 dL_law_211 dL_law_212 dL_law_213 dL_law_214 ?_
  refine lw_call X z.2 rfl rfl okX6_feed insX6_feed selX6_feed lkL_17 rfl rfl (Nat.le_of_ble_eq_true rfl) dL_law_215 (fun w m2 y => ?_)
  obtain ⟨rfl, hI⟩ := y
  refine lw_stk (st2 := [.int x, .int x]) rfl ?_
  exact lw_eqI X dL_law_218 (by decide) (k m2 hI)
theorem lwc1 {G : GX} {p : Program} {e : Env} {s : State} {m : MethodId} {below : List Frame} {meth : Method} {c : Code} {b L : Nat} {xs : Nat → Int32} {ls : Array Slot} {i : Nat} {mem : Mem} (X : LX G p s m meth c b L xs ls i) (hi : i + 5 ≤ L ∧ L ≤ 2560) (hm : Inv mem) (k : ∀ m2 : Mem, Inv m2 → LW G p e s m below meth c b ls m2 1306 []) : LW G p e s m below meth c b ls mem 223 [] := by
  refine lw_al1 X dL_law_223 ?_
  refine lw_arg X hi 1 (by decide) (by decide) dL_law_224 dL_law_225 dL_law_226 dL_law_227 dL_law_228 ?_
  refine lw_call X (P1 (xs (i + 1)) mem hm).ty rfl rfl okX5_end insX5_end selX5_end lkL_18 rfl rfl (Nat.le_of_ble_eq_true rfl) dL_law_229 (fun v m1 z => ?_)
  obtain ⟨x, rfl⟩ := z.1.1 rfl
  refine lw_al2 X dL_law_232 ?_
  refine lw_arg X hi 1 (by decide) (by decide) dL_law_233 dL_law_234 dL_law_235 dL_law_236 dL_law_237 ?_
  refine lw_call X z.2 rfl rfl okX6_end insX6_end selX6_end lkL_21 rfl rfl (Nat.le_of_ble_eq_true rfl) dL_law_238 (fun w m2 y => ?_)
  obtain ⟨rfl, hI⟩ := y
  refine lw_stk (st2 := [.int x, .int x]) rfl ?_
  exact lw_eqI X dL_law_241 (by decide) (k m2 hI)
theorem lwc2 {G : GX} {p : Program} {e : Env} {s : State} {m : MethodId} {below : List Frame} {meth : Method} {c : Code} {b L : Nat} {xs : Nat → Int32} {ls : Array Slot} {i : Nat} {mem : Mem} (X : LX G p s m meth c b L xs ls i) (hi : i + 5 ≤ L ∧ L ≤ 2560) (hm : Inv mem) (k : ∀ m2 : Mem, Inv m2 → LW G p e s m below meth c b ls m2 1306 []) : LW G p e s m below meth c b ls mem 246 [] := by
  refine lw_al1 X dL_law_246 ?_
  refine lw_call X (P2 mem hm).ty rfl rfl okX5_text insX5_text selX5_text lkL_22 rfl rfl (Nat.le_of_ble_eq_true rfl) dL_law_247 (fun v m1 z => ?_)
  obtain ⟨x, rfl⟩ := z.1.1 rfl
  refine lw_al2 X dL_law_250 ?_
  refine lw_call X z.2 rfl rfl okX6_text insX6_text selX6_text lkL_26 rfl rfl (Nat.le_of_ble_eq_true rfl) dL_law_251 (fun w m2 y => ?_)
  obtain ⟨rfl, hI⟩ := y
  refine lw_stk (st2 := [.int x, .int x]) rfl ?_
  exact lw_eqI X dL_law_254 (by decide) (k m2 hI)
theorem lwc3 {G : GX} {p : Program} {e : Env} {s : State} {m : MethodId} {below : List Frame} {meth : Method} {c : Code} {b L : Nat} {xs : Nat → Int32} {ls : Array Slot} {i : Nat} {mem : Mem} (X : LX G p s m meth c b L xs ls i) (hi : i + 5 ≤ L ∧ L ≤ 2560) (hm : Inv mem) (k : ∀ m2 : Mem, Inv m2 → LW G p e s m below meth c b ls m2 1306 []) : LW G p e s m below meth c b ls mem 259 [] := by
  refine lw_al1 X dL_law_259 ?_
  refine lw_call X (P3 mem hm).ty rfl rfl okX5_fault insX5_fault selX5_fault lkL_27 rfl rfl (Nat.le_of_ble_eq_true rfl) dL_law_260 (fun v m1 z => ?_)
  obtain ⟨x, rfl⟩ := z.1.1 rfl
  refine lw_al2 X dL_law_263 ?_
  refine lw_call X z.2 rfl rfl okX6_fault insX6_fault selX6_fault lkL_30 rfl rfl (Nat.le_of_ble_eq_true rfl) dL_law_264 (fun w m2 y => ?_)
  obtain ⟨rfl, hI⟩ := y
  refine lw_stk (st2 := [.int x, .int x]) rfl ?_
  exact lw_eqI X dL_law_267 (by decide) (k m2 hI)
theorem lwc4 {G : GX} {p : Program} {e : Env} {s : State} {m : MethodId} {below : List Frame} {meth : Method} {c : Code} {b L : Nat} {xs : Nat → Int32} {ls : Array Slot} {i : Nat} {mem : Mem} (X : LX G p s m meth c b L xs ls i) (hi : i + 5 ≤ L ∧ L ≤ 2560) (hm : Inv mem) (k : ∀ m2 : Mem, Inv m2 → LW G p e s m below meth c b ls m2 1306 []) : LW G p e s m below meth c b ls mem 272 [] := by
  refine lw_al1 X dL_law_272 ?_
  refine lw_arg X hi 1 (by decide) (by decide) dL_law_273 dL_law_274 dL_law_275 dL_law_276 dL_law_277 ?_
  refine lw_call X (P4 (xs (i + 1)) mem hm).ty rfl rfl okX5_rule insX5_rule selX5_rule lkL_31 rfl rfl (Nat.le_of_ble_eq_true rfl) dL_law_278 (fun v m1 z => ?_)
  obtain ⟨x, rfl⟩ := z.1.1 rfl
  refine lw_al2 X dL_law_281 ?_
  refine lw_arg X hi 1 (by decide) (by decide) dL_law_282 dL_law_283 dL_law_284 dL_law_285 dL_law_286 ?_
  refine lw_call X z.2 rfl rfl okX6_rule insX6_rule selX6_rule lkL_34 rfl rfl (Nat.le_of_ble_eq_true rfl) dL_law_287 (fun w m2 y => ?_)
  obtain ⟨rfl, hI⟩ := y
  refine lw_stk (st2 := [.int x, .int x]) rfl ?_
  exact lw_eqI X dL_law_290 (by decide) (k m2 hI)
theorem lwc5 {G : GX} {p : Program} {e : Env} {s : State} {m : MethodId} {below : List Frame} {meth : Method} {c : Code} {b L : Nat} {xs : Nat → Int32} {ls : Array Slot} {i : Nat} {mem : Mem} (X : LX G p s m meth c b L xs ls i) (hi : i + 5 ≤ L ∧ L ≤ 2560) (hm : Inv mem) (k : ∀ m2 : Mem, Inv m2 → LW G p e s m below meth c b ls m2 1306 []) : LW G p e s m below meth c b ls mem 295 [] := by
  refine lw_al1 X dL_law_295 ?_
  refine lw_arg X hi 1 (by decide) (by decide) dL_law_296 dL_law_297 dL_law_298 dL_law_299 dL_law_300 ?_
  refine lw_arg X hi 2 (by decide) (by decide) dL_law_301 dL_law_302 dL_law_303 dL_law_304 dL_law_305 ?_
  refine lw_call X (P5 (xs (i + 1)) (xs (i + 2)) mem hm).ty rfl rfl okX5_clock insX5_clock selX5_clock lkL_35 rfl rfl (Nat.le_of_ble_eq_true rfl) dL_law_306 (fun v m1 z => ?_)
  obtain ⟨x, rfl⟩ := z.1.1 rfl
  refine lw_al2 X dL_law_309 ?_
  refine lw_arg X hi 1 (by decide) (by decide) dL_law_310 dL_law_311 dL_law_312 dL_law_313 dL_law_314 ?_
  refine lw_arg X hi 2 (by decide) (by decide) dL_law_315 dL_law_316 dL_law_317 dL_law_318 dL_law_319 ?_
  refine lw_call X z.2 rfl rfl okX6_clock insX6_clock selX6_clock lkL_39 rfl rfl (Nat.le_of_ble_eq_true rfl) dL_law_320 (fun w m2 y => ?_)
  obtain ⟨rfl, hI⟩ := y
  refine lw_stk (st2 := [.int x, .int x]) rfl ?_
  exact lw_eqI X dL_law_323 (by decide) (k m2 hI)
theorem lwc6 {G : GX} {p : Program} {e : Env} {s : State} {m : MethodId} {below : List Frame} {meth : Method} {c : Code} {b L : Nat} {xs : Nat → Int32} {ls : Array Slot} {i : Nat} {mem : Mem} (X : LX G p s m meth c b L xs ls i) (hi : i + 5 ≤ L ∧ L ≤ 2560) (hm : Inv mem) (k : ∀ m2 : Mem, Inv m2 → LW G p e s m below meth c b ls m2 1306 []) : LW G p e s m below meth c b ls mem 328 [] := by
  refine lw_al1 X dL_law_328 ?_
  refine lw_arg X hi 1 (by decide) (by decide) dL_law_329 dL_law_330 dL_law_331 dL_law_332 dL_law_333 ?_
  refine lw_arg X hi 2 (by decide) (by decide) dL_law_334 dL_law_335 dL_law_336 dL_law_337 dL_law_338 ?_
  refine lw_arg X hi 3 (by decide) (by decide) dL_law_339 dL_law_340 dL_law_341 dL_law_342 dL_law_343 ?_
  refine lw_call X (P6 (xs (i + 1)) (xs (i + 2)) (xs (i + 3)) mem hm).ty rfl rfl okX5_alter insX5_alter selX5_alter lkL_40 rfl rfl (Nat.le_of_ble_eq_true rfl) dL_law_344 (fun v m1 z => ?_)
  obtain ⟨x, rfl⟩ := z.1.1 rfl
  refine lw_al2 X dL_law_347 ?_
  refine lw_arg X hi 1 (by decide) (by decide) dL_law_348 dL_law_349 dL_law_350 dL_law_351 dL_law_352 ?_
  refine lw_arg X hi 2 (by decide) (by decide) dL_law_353 dL_law_354 dL_law_355 dL_law_356 dL_law_357 ?_
  refine lw_arg X hi 3 (by decide) (by decide) dL_law_358 dL_law_359 dL_law_360 dL_law_361 dL_law_362 ?_
  refine lw_call X z.2 rfl rfl okX6_alter insX6_alter selX6_alter lkL_44 rfl rfl (Nat.le_of_ble_eq_true rfl) dL_law_363 (fun w m2 y => ?_)
  obtain ⟨rfl, hI⟩ := y
  refine lw_stk (st2 := [.int x, .int x]) rfl ?_
  exact lw_eqI X dL_law_366 (by decide) (k m2 hI)
theorem lwc7 {G : GX} {p : Program} {e : Env} {s : State} {m : MethodId} {below : List Frame} {meth : Method} {c : Code} {b L : Nat} {xs : Nat → Int32} {ls : Array Slot} {i : Nat} {mem : Mem} (X : LX G p s m meth c b L xs ls i) (hi : i + 5 ≤ L ∧ L ≤ 2560) (hm : Inv mem) (k : ∀ m2 : Mem, Inv m2 → LW G p e s m below meth c b ls m2 1306 []) : LW G p e s m below meth c b ls mem 371 [] := by
  refine lw_al1 X dL_law_371 ?_
  refine lw_arg X hi 1 (by decide) (by decide) dL_law_372 dL_law_373 dL_law_374 dL_law_375 dL_law_376 ?_
  refine lw_call X (P7 (xs (i + 1)) mem hm).ty rfl rfl okX5_push insX5_push selX5_push lkL_45 rfl rfl (Nat.le_of_ble_eq_true rfl) dL_law_377 (fun v m1 z => ?_)
  obtain ⟨x, rfl⟩ := z.1.1 rfl
  refine lw_al2 X dL_law_380 ?_
  refine lw_arg X hi 1 (by decide) (by decide) dL_law_381 dL_law_382 dL_law_383 dL_law_384 dL_law_385 ?_
  refine lw_call X z.2 rfl rfl okX6_push insX6_push selX6_push lkL_48 rfl rfl (Nat.le_of_ble_eq_true rfl) dL_law_386 (fun w m2 y => ?_)
  obtain ⟨rfl, hI⟩ := y
  refine lw_stk (st2 := [.int x, .int x]) rfl ?_
  exact lw_eqI X dL_law_389 (by decide) (k m2 hI)
theorem lwc8 {G : GX} {p : Program} {e : Env} {s : State} {m : MethodId} {below : List Frame} {meth : Method} {c : Code} {b L : Nat} {xs : Nat → Int32} {ls : Array Slot} {i : Nat} {mem : Mem} (X : LX G p s m meth c b L xs ls i) (hi : i + 5 ≤ L ∧ L ≤ 2560) (hm : Inv mem) (k : ∀ m2 : Mem, Inv m2 → LW G p e s m below meth c b ls m2 1306 []) : LW G p e s m below meth c b ls mem 394 [] := by
  refine lw_al1 X dL_law_394 ?_
  refine lw_arg X hi 1 (by decide) (by decide) dL_law_395 dL_law_396 dL_law_397 dL_law_398 dL_law_399 ?_
  refine lw_arg X hi 2 (by decide) (by decide) dL_law_400 dL_law_401 dL_law_402 dL_law_403 dL_law_404 ?_
  refine lw_call X (P8 (xs (i + 1)) (xs (i + 2)) mem hm).ty rfl rfl okX5_hang insX5_hang selX5_hang lkL_49 rfl rfl (Nat.le_of_ble_eq_true rfl) dL_law_405 (fun v m1 z => ?_)
  obtain ⟨x, rfl⟩ := z.1.1 rfl
  refine lw_al2 X dL_law_408 ?_
  refine lw_arg X hi 1 (by decide) (by decide) dL_law_409 dL_law_410 dL_law_411 dL_law_412 dL_law_413 ?_
  refine lw_arg X hi 2 (by decide) (by decide) dL_law_414 dL_law_415 dL_law_416 dL_law_417 dL_law_418 ?_
  refine lw_call X z.2 rfl rfl okX6_hang insX6_hang selX6_hang lkL_52 rfl rfl (Nat.le_of_ble_eq_true rfl) dL_law_419 (fun w m2 y => ?_)
  obtain ⟨rfl, hI⟩ := y
  refine lw_stk (st2 := [.int x, .int x]) rfl ?_
  exact lw_eqI X dL_law_422 (by decide) (k m2 hI)
theorem lwc9 {G : GX} {p : Program} {e : Env} {s : State} {m : MethodId} {below : List Frame} {meth : Method} {c : Code} {b L : Nat} {xs : Nat → Int32} {ls : Array Slot} {i : Nat} {mem : Mem} (X : LX G p s m meth c b L xs ls i) (hi : i + 5 ≤ L ∧ L ≤ 2560) (hm : Inv mem) (k : ∀ m2 : Mem, Inv m2 → LW G p e s m below meth c b ls m2 1306 []) : LW G p e s m below meth c b ls mem 427 [] := by
  refine lw_al1 X dL_law_427 ?_
  refine lw_arg X hi 1 (by decide) (by decide) dL_law_428 dL_law_429 dL_law_430 dL_law_431 dL_law_432 ?_
  refine lw_call X (P9 (xs (i + 1)) mem hm).ty rfl rfl okX5_cut insX5_cut selX5_cut lkL_53 rfl rfl (Nat.le_of_ble_eq_true rfl) dL_law_433 (fun v m1 z => ?_)
  obtain ⟨x, rfl⟩ := z.1.1 rfl
  refine lw_al2 X dL_law_436 ?_
  refine lw_arg X hi 1 (by decide) (by decide) dL_law_437 dL_law_438 dL_law_439 dL_law_440 dL_law_441 ?_
  refine lw_call X z.2 rfl rfl okX6_cut insX6_cut selX6_cut lkL_56 rfl rfl (Nat.le_of_ble_eq_true rfl) dL_law_442 (fun w m2 y => ?_)
  obtain ⟨rfl, hI⟩ := y
  refine lw_stk (st2 := [.int x, .int x]) rfl ?_
  exact lw_eqI X dL_law_445 (by decide) (k m2 hI)
theorem lwc10 {G : GX} {p : Program} {e : Env} {s : State} {m : MethodId} {below : List Frame} {meth : Method} {c : Code} {b L : Nat} {xs : Nat → Int32} {ls : Array Slot} {i : Nat} {mem : Mem} (X : LX G p s m meth c b L xs ls i) (hi : i + 5 ≤ L ∧ L ≤ 2560) (hm : Inv mem) (k : ∀ m2 : Mem, Inv m2 → LW G p e s m below meth c b ls m2 1306 []) : LW G p e s m below meth c b ls mem 450 [] := by
  refine lw_al1 X dL_law_450 ?_
  refine lw_arg X hi 1 (by decide) (by decide) dL_law_451 dL_law_452 dL_law_453 dL_law_454 dL_law_455 ?_
  refine lw_arg X hi 2 (by decide) (by decide) dL_law_456 dL_law_457 dL_law_458 dL_law_459 dL_law_460 ?_
  refine lw_call X (P10 (xs (i + 1)) (xs (i + 2)) mem hm).ty rfl rfl okX5_knock insX5_knock selX5_knock lkL_57 rfl rfl (Nat.le_of_ble_eq_true rfl) dL_law_461 (fun v m1 z => ?_)
  obtain ⟨x, rfl⟩ := z.1.1 rfl
  refine lw_al2 X dL_law_464 ?_
  refine lw_arg X hi 1 (by decide) (by decide) dL_law_465 dL_law_466 dL_law_467 dL_law_468 dL_law_469 ?_
  refine lw_arg X hi 2 (by decide) (by decide) dL_law_470 dL_law_471 dL_law_472 dL_law_473 dL_law_474 ?_
  refine lw_call X z.2 rfl rfl okX6_knock insX6_knock selX6_knock lkL_60 rfl rfl (Nat.le_of_ble_eq_true rfl) dL_law_475 (fun w m2 y => ?_)
  obtain ⟨rfl, hI⟩ := y
  refine lw_stk (st2 := [.int x, .int x]) rfl ?_
  exact lw_eqI X dL_law_478 (by decide) (k m2 hI)
theorem lwc11 {G : GX} {p : Program} {e : Env} {s : State} {m : MethodId} {below : List Frame} {meth : Method} {c : Code} {b L : Nat} {xs : Nat → Int32} {ls : Array Slot} {i : Nat} {mem : Mem} (X : LX G p s m meth c b L xs ls i) (hi : i + 5 ≤ L ∧ L ≤ 2560) (hm : Inv mem) (k : ∀ m2 : Mem, Inv m2 → LW G p e s m below meth c b ls m2 1306 []) : LW G p e s m below meth c b ls mem 483 [] := by
  refine lw_al1 X dL_law_483 ?_
  refine lw_arg X hi 1 (by decide) (by decide) dL_law_484 dL_law_485 dL_law_486 dL_law_487 dL_law_488 ?_
  refine lw_call X (P11 (xs (i + 1)) mem hm).ty rfl rfl okX5_ticks insX5_ticks selX5_ticks lkL_61 rfl rfl (Nat.le_of_ble_eq_true rfl) dL_law_489 (fun v m1 z => ?_)
  obtain ⟨x, rfl⟩ := z.1.1 rfl
  refine lw_al2 X dL_law_492 ?_
  refine lw_arg X hi 1 (by decide) (by decide) dL_law_493 dL_law_494 dL_law_495 dL_law_496 dL_law_497 ?_
  refine lw_call X z.2 rfl rfl okX6_ticks insX6_ticks selX6_ticks lkL_64 rfl rfl (Nat.le_of_ble_eq_true rfl) dL_law_498 (fun w m2 y => ?_)
  obtain ⟨rfl, hI⟩ := y
  refine lw_stk (st2 := [.int x, .int x]) rfl ?_
  exact lw_eqI X dL_law_501 (by decide) (k m2 hI)
theorem lwc12 {G : GX} {p : Program} {e : Env} {s : State} {m : MethodId} {below : List Frame} {meth : Method} {c : Code} {b L : Nat} {xs : Nat → Int32} {ls : Array Slot} {i : Nat} {mem : Mem} (X : LX G p s m meth c b L xs ls i) (hi : i + 5 ≤ L ∧ L ≤ 2560) (hm : Inv mem) (k : ∀ m2 : Mem, Inv m2 → LW G p e s m below meth c b ls m2 1306 []) : LW G p e s m below meth c b ls mem 506 [] := by
  refine lw_al1 X dL_law_506 ?_
  refine lw_arg X hi 1 (by decide) (by decide) dL_law_507 dL_law_508 dL_law_509 dL_law_510 dL_law_511 ?_
  refine lw_arg X hi 2 (by decide) (by decide) dL_law_512 dL_law_513 dL_law_514 dL_law_515 dL_law_516 ?_
  refine lw_call X (P12 (xs (i + 1)) (xs (i + 2)) mem hm).ty rfl rfl okX5_runs insX5_runs selX5_runs lkL_65 rfl rfl (Nat.le_of_ble_eq_true rfl) dL_law_517 (fun v m1 z => ?_)
  obtain ⟨x, rfl⟩ := z.1.1 rfl
  refine lw_al2 X dL_law_520 ?_
  refine lw_arg X hi 1 (by decide) (by decide) dL_law_521 dL_law_522 dL_law_523 dL_law_524 dL_law_525 ?_
  refine lw_arg X hi 2 (by decide) (by decide) dL_law_526 dL_law_527 dL_law_528 dL_law_529 dL_law_530 ?_
  refine lw_call X z.2 rfl rfl okX6_runs insX6_runs selX6_runs lkL_68 rfl rfl (Nat.le_of_ble_eq_true rfl) dL_law_531 (fun w m2 y => ?_)
  obtain ⟨rfl, hI⟩ := y
  refine lw_stk (st2 := [.int x, .int x]) rfl ?_
  exact lw_eqI X dL_law_534 (by decide) (k m2 hI)
theorem lwc13 {G : GX} {p : Program} {e : Env} {s : State} {m : MethodId} {below : List Frame} {meth : Method} {c : Code} {b L : Nat} {xs : Nat → Int32} {ls : Array Slot} {i : Nat} {mem : Mem} (X : LX G p s m meth c b L xs ls i) (hi : i + 5 ≤ L ∧ L ≤ 2560) (hm : Inv mem) (k : ∀ m2 : Mem, Inv m2 → LW G p e s m below meth c b ls m2 1306 []) : LW G p e s m below meth c b ls mem 539 [] := by
  refine lw_al1 X dL_law_539 ?_
  refine lw_arg X hi 1 (by decide) (by decide) dL_law_540 dL_law_541 dL_law_542 dL_law_543 dL_law_544 ?_
  refine lw_arg X hi 2 (by decide) (by decide) dL_law_545 dL_law_546 dL_law_547 dL_law_548 dL_law_549 ?_
  refine lw_arg X hi 3 (by decide) (by decide) dL_law_550 dL_law_551 dL_law_552 dL_law_553 dL_law_554 ?_
  refine lw_call X (P13 (xs (i + 1)) (xs (i + 2)) (xs (i + 3)) mem hm).ty rfl rfl okX5_ahead insX5_ahead selX5_ahead lkL_69 rfl rfl (Nat.le_of_ble_eq_true rfl) dL_law_555 (fun v m1 z => ?_)
  obtain ⟨x, rfl⟩ := z.1.1 rfl
  refine lw_al2 X dL_law_558 ?_
  refine lw_arg X hi 1 (by decide) (by decide) dL_law_559 dL_law_560 dL_law_561 dL_law_562 dL_law_563 ?_
  refine lw_arg X hi 2 (by decide) (by decide) dL_law_564 dL_law_565 dL_law_566 dL_law_567 dL_law_568 ?_
  refine lw_arg X hi 3 (by decide) (by decide) dL_law_569 dL_law_570 dL_law_571 dL_law_572 dL_law_573 ?_
  refine lw_call X z.2 rfl rfl okX6_ahead insX6_ahead selX6_ahead lkL_72 rfl rfl (Nat.le_of_ble_eq_true rfl) dL_law_574 (fun w m2 y => ?_)
  obtain ⟨rfl, hI⟩ := y
  refine lw_stk (st2 := [.int x, .int x]) rfl ?_
  exact lw_eqI X dL_law_577 (by decide) (k m2 hI)
theorem lwc14 {G : GX} {p : Program} {e : Env} {s : State} {m : MethodId} {below : List Frame} {meth : Method} {c : Code} {b L : Nat} {xs : Nat → Int32} {ls : Array Slot} {i : Nat} {mem : Mem} (X : LX G p s m meth c b L xs ls i) (hi : i + 5 ≤ L ∧ L ≤ 2560) (hm : Inv mem) (k : ∀ m2 : Mem, Inv m2 → LW G p e s m below meth c b ls m2 1306 []) : LW G p e s m below meth c b ls mem 582 [] := by
  refine lw_al1 X dL_law_582 ?_
  refine lw_arg X hi 1 (by decide) (by decide) dL_law_583 dL_law_584 dL_law_585 dL_law_586 dL_law_587 ?_
  refine lw_call X (P14 (xs (i + 1)) mem hm).ty rfl rfl okX5_beats insX5_beats selX5_beats lkL_73 rfl rfl (Nat.le_of_ble_eq_true rfl) dL_law_588 (fun v m1 z => ?_)
  obtain ⟨x, rfl⟩ := z.1.1 rfl
  refine lw_al2 X dL_law_591 ?_
  refine lw_arg X hi 1 (by decide) (by decide) dL_law_592 dL_law_593 dL_law_594 dL_law_595 dL_law_596 ?_
  refine lw_call X z.2 rfl rfl okX6_beats insX6_beats selX6_beats lkL_76 rfl rfl (Nat.le_of_ble_eq_true rfl) dL_law_597 (fun w m2 y => ?_)
  obtain ⟨rfl, hI⟩ := y
  refine lw_stk (st2 := [.int x, .int x]) rfl ?_
  exact lw_eqI X dL_law_600 (by decide) (k m2 hI)
theorem lwc15 {G : GX} {p : Program} {e : Env} {s : State} {m : MethodId} {below : List Frame} {meth : Method} {c : Code} {b L : Nat} {xs : Nat → Int32} {ls : Array Slot} {i : Nat} {mem : Mem} (X : LX G p s m meth c b L xs ls i) (hi : i + 5 ≤ L ∧ L ≤ 2560) (hm : Inv mem) (k : ∀ m2 : Mem, Inv m2 → LW G p e s m below meth c b ls m2 1306 []) : LW G p e s m below meth c b ls mem 605 [] := by
  refine lw_al1 X dL_law_605 ?_
  refine lw_call X (P15 mem hm).ty rfl rfl okX5_together insX5_together selX5_together lkL_77 rfl rfl (Nat.le_of_ble_eq_true rfl) dL_law_606 (fun v m1 z => ?_)
  obtain ⟨x, rfl⟩ := z.1.1 rfl
  refine lw_al2 X dL_law_609 ?_
  refine lw_call X z.2 rfl rfl okX6_together insX6_together selX6_together lkL_80 rfl rfl (Nat.le_of_ble_eq_true rfl) dL_law_610 (fun w m2 y => ?_)
  obtain ⟨rfl, hI⟩ := y
  refine lw_stk (st2 := [.int x, .int x]) rfl ?_
  exact lw_eqI X dL_law_613 (by decide) (k m2 hI)
theorem lwc16 {G : GX} {p : Program} {e : Env} {s : State} {m : MethodId} {below : List Frame} {meth : Method} {c : Code} {b L : Nat} {xs : Nat → Int32} {ls : Array Slot} {i : Nat} {mem : Mem} (X : LX G p s m meth c b L xs ls i) (hi : i + 5 ≤ L ∧ L ≤ 2560) (hm : Inv mem) (k : ∀ m2 : Mem, Inv m2 → LW G p e s m below meth c b ls m2 1306 []) : LW G p e s m below meth c b ls mem 618 [] := by
  refine lw_al1 X dL_law_618 ?_
  refine lw_call X (P16 mem hm).ty rfl rfl okX5_again insX5_again selX5_again lkL_81 rfl rfl (Nat.le_of_ble_eq_true rfl) dL_law_619 (fun v m1 z => ?_)
  obtain ⟨x, rfl⟩ := z.1.1 rfl
  refine lw_al2 X dL_law_622 ?_
  refine lw_call X z.2 rfl rfl okX6_again insX6_again selX6_again lkL_84 rfl rfl (Nat.le_of_ble_eq_true rfl) dL_law_623 (fun w m2 y => ?_)
  obtain ⟨rfl, hI⟩ := y
  refine lw_stk (st2 := [.int x, .int x]) rfl ?_
  exact lw_eqI X dL_law_626 (by decide) (k m2 hI)
theorem lwc17 {G : GX} {p : Program} {e : Env} {s : State} {m : MethodId} {below : List Frame} {meth : Method} {c : Code} {b L : Nat} {xs : Nat → Int32} {ls : Array Slot} {i : Nat} {mem : Mem} (X : LX G p s m meth c b L xs ls i) (hi : i + 5 ≤ L ∧ L ≤ 2560) (hm : Inv mem) (k : ∀ m2 : Mem, Inv m2 → LW G p e s m below meth c b ls m2 1306 []) : LW G p e s m below meth c b ls mem 631 [] := by
  refine lw_al1 X dL_law_631 ?_
  refine lw_arg X hi 1 (by decide) (by decide) dL_law_632 dL_law_633 dL_law_634 dL_law_635 dL_law_636 ?_
  refine lw_arg X hi 2 (by decide) (by decide) dL_law_637 dL_law_638 dL_law_639 dL_law_640 dL_law_641 ?_
  refine lw_call X (P17 (xs (i + 1)) (xs (i + 2)) mem hm).ty rfl rfl okX5_period insX5_period selX5_period lkL_85 rfl rfl (Nat.le_of_ble_eq_true rfl) dL_law_642 (fun v m1 z => ?_)
  obtain ⟨x, rfl⟩ := z.1.1 rfl
  refine lw_al2 X dL_law_645 ?_
  refine lw_arg X hi 1 (by decide) (by decide) dL_law_646 dL_law_647 dL_law_648 dL_law_649 dL_law_650 ?_
  refine lw_arg X hi 2 (by decide) (by decide) dL_law_651 dL_law_652 dL_law_653 dL_law_654 dL_law_655 ?_
  refine lw_call X z.2 rfl rfl okX6_period insX6_period selX6_period lkL_88 rfl rfl (Nat.le_of_ble_eq_true rfl) dL_law_656 (fun w m2 y => ?_)
  obtain ⟨rfl, hI⟩ := y
  refine lw_stk (st2 := [.int x, .int x]) rfl ?_
  exact lw_eqI X dL_law_659 (by decide) (k m2 hI)
theorem lwc18 {G : GX} {p : Program} {e : Env} {s : State} {m : MethodId} {below : List Frame} {meth : Method} {c : Code} {b L : Nat} {xs : Nat → Int32} {ls : Array Slot} {i : Nat} {mem : Mem} (X : LX G p s m meth c b L xs ls i) (hi : i + 5 ≤ L ∧ L ≤ 2560) (hm : Inv mem) (k : ∀ m2 : Mem, Inv m2 → LW G p e s m below meth c b ls m2 1306 []) : LW G p e s m below meth c b ls mem 664 [] := by
  refine lw_al1 X dL_law_664 ?_
  refine lw_arg X hi 1 (by decide) (by decide) dL_law_665 dL_law_666 dL_law_667 dL_law_668 dL_law_669 ?_
  refine lw_arg X hi 2 (by decide) (by decide) dL_law_670 dL_law_671 dL_law_672 dL_law_673 dL_law_674 ?_
  refine lw_call X (P18 (xs (i + 1)) (xs (i + 2)) mem hm).ty rfl rfl okX5_hand insX5_hand selX5_hand lkL_89 rfl rfl (Nat.le_of_ble_eq_true rfl) dL_law_675 (fun v m1 z => ?_)
  obtain ⟨x, rfl⟩ := z.1.1 rfl
  refine lw_al2 X dL_law_678 ?_
  refine lw_arg X hi 1 (by decide) (by decide) dL_law_679 dL_law_680 dL_law_681 dL_law_682 dL_law_683 ?_
  refine lw_arg X hi 2 (by decide) (by decide) dL_law_684 dL_law_685 dL_law_686 dL_law_687 dL_law_688 ?_
  refine lw_call X z.2 rfl rfl okX6_hand insX6_hand selX6_hand lkL_92 rfl rfl (Nat.le_of_ble_eq_true rfl) dL_law_689 (fun w m2 y => ?_)
  obtain ⟨rfl, hI⟩ := y
  refine lw_stk (st2 := [.int x, .int x]) rfl ?_
  exact lw_eqI X dL_law_692 (by decide) (k m2 hI)
theorem lwc19 {G : GX} {p : Program} {e : Env} {s : State} {m : MethodId} {below : List Frame} {meth : Method} {c : Code} {b L : Nat} {xs : Nat → Int32} {ls : Array Slot} {i : Nat} {mem : Mem} (X : LX G p s m meth c b L xs ls i) (hi : i + 5 ≤ L ∧ L ≤ 2560) (hm : Inv mem) (k : ∀ m2 : Mem, Inv m2 → LW G p e s m below meth c b ls m2 1306 []) : LW G p e s m below meth c b ls mem 697 [] := by
  refine lw_al1 X dL_law_697 ?_
  refine lw_arg X hi 1 (by decide) (by decide) dL_law_698 dL_law_699 dL_law_700 dL_law_701 dL_law_702 ?_
  refine lw_arg X hi 2 (by decide) (by decide) dL_law_703 dL_law_704 dL_law_705 dL_law_706 dL_law_707 ?_
  refine lw_call X (P19 (xs (i + 1)) (xs (i + 2)) mem hm).ty rfl rfl okX5_kind insX5_kind selX5_kind lkL_93 rfl rfl (Nat.le_of_ble_eq_true rfl) dL_law_708 (fun v m1 z => ?_)
  obtain ⟨x, rfl⟩ := z.1.1 rfl
  refine lw_al2 X dL_law_711 ?_
  refine lw_arg X hi 1 (by decide) (by decide) dL_law_712 dL_law_713 dL_law_714 dL_law_715 dL_law_716 ?_
  refine lw_arg X hi 2 (by decide) (by decide) dL_law_717 dL_law_718 dL_law_719 dL_law_720 dL_law_721 ?_
  refine lw_call X z.2 rfl rfl okX6_kind insX6_kind selX6_kind lkL_96 rfl rfl (Nat.le_of_ble_eq_true rfl) dL_law_722 (fun w m2 y => ?_)
  obtain ⟨rfl, hI⟩ := y
  refine lw_stk (st2 := [.int x, .int x]) rfl ?_
  exact lw_eqI X dL_law_725 (by decide) (k m2 hI)
theorem lwc20 {G : GX} {p : Program} {e : Env} {s : State} {m : MethodId} {below : List Frame} {meth : Method} {c : Code} {b L : Nat} {xs : Nat → Int32} {ls : Array Slot} {i : Nat} {mem : Mem} (X : LX G p s m meth c b L xs ls i) (hi : i + 5 ≤ L ∧ L ≤ 2560) (hm : Inv mem) (k : ∀ m2 : Mem, Inv m2 → LW G p e s m below meth c b ls m2 1306 []) : LW G p e s m below meth c b ls mem 730 [] := by
  refine lw_al1 X dL_law_730 ?_
  refine lw_arg X hi 1 (by decide) (by decide) dL_law_731 dL_law_732 dL_law_733 dL_law_734 dL_law_735 ?_
  refine lw_call X (P20 (xs (i + 1)) mem hm).ty rfl rfl okX5_force insX5_force selX5_force lkL_97 rfl rfl (Nat.le_of_ble_eq_true rfl) dL_law_736 (fun v m1 z => ?_)
  obtain ⟨x, rfl⟩ := z.1.1 rfl
  refine lw_al2 X dL_law_739 ?_
  refine lw_arg X hi 1 (by decide) (by decide) dL_law_740 dL_law_741 dL_law_742 dL_law_743 dL_law_744 ?_
  refine lw_call X z.2 rfl rfl okX6_force insX6_force selX6_force lkL_100 rfl rfl (Nat.le_of_ble_eq_true rfl) dL_law_745 (fun w m2 y => ?_)
  obtain ⟨rfl, hI⟩ := y
  refine lw_stk (st2 := [.int x, .int x]) rfl ?_
  exact lw_eqI X dL_law_748 (by decide) (k m2 hI)
theorem lwc21 {G : GX} {p : Program} {e : Env} {s : State} {m : MethodId} {below : List Frame} {meth : Method} {c : Code} {b L : Nat} {xs : Nat → Int32} {ls : Array Slot} {i : Nat} {mem : Mem} (X : LX G p s m meth c b L xs ls i) (hi : i + 5 ≤ L ∧ L ≤ 2560) (hm : Inv mem) (k : ∀ m2 : Mem, Inv m2 → LW G p e s m below meth c b ls m2 1306 []) : LW G p e s m below meth c b ls mem 753 [] := by
  refine lw_al1 X dL_law_753 ?_
  refine lw_arg X hi 1 (by decide) (by decide) dL_law_754 dL_law_755 dL_law_756 dL_law_757 dL_law_758 ?_
  refine lw_call X (P21 (xs (i + 1)) mem hm).ty rfl rfl okX5_away insX5_away selX5_away lkL_101 rfl rfl (Nat.le_of_ble_eq_true rfl) dL_law_759 (fun v m1 z => ?_)
  obtain ⟨x, rfl⟩ := z.1.1 rfl
  refine lw_al2 X dL_law_762 ?_
  refine lw_arg X hi 1 (by decide) (by decide) dL_law_763 dL_law_764 dL_law_765 dL_law_766 dL_law_767 ?_
  refine lw_call X z.2 rfl rfl okX6_away insX6_away selX6_away lkL_104 rfl rfl (Nat.le_of_ble_eq_true rfl) dL_law_768 (fun w m2 y => ?_)
  obtain ⟨rfl, hI⟩ := y
  refine lw_stk (st2 := [.int x, .int x]) rfl ?_
  exact lw_eqI X dL_law_771 (by decide) (k m2 hI)
theorem lwc22 {G : GX} {p : Program} {e : Env} {s : State} {m : MethodId} {below : List Frame} {meth : Method} {c : Code} {b L : Nat} {xs : Nat → Int32} {ls : Array Slot} {i : Nat} {mem : Mem} (X : LX G p s m meth c b L xs ls i) (hi : i + 5 ≤ L ∧ L ≤ 2560) (hm : Inv mem) (k : ∀ m2 : Mem, Inv m2 → LW G p e s m below meth c b ls m2 1306 []) : LW G p e s m below meth c b ls mem 776 [] := by
  refine lw_al1 X dL_law_776 ?_
  refine lw_arg X hi 1 (by decide) (by decide) dL_law_777 dL_law_778 dL_law_779 dL_law_780 dL_law_781 ?_
  refine lw_arg X hi 2 (by decide) (by decide) dL_law_782 dL_law_783 dL_law_784 dL_law_785 dL_law_786 ?_
  refine lw_arg X hi 3 (by decide) (by decide) dL_law_787 dL_law_788 dL_law_789 dL_law_790 dL_law_791 ?_
  refine lw_arg X hi 4 (by decide) (by decide) dL_law_792 dL_law_793 dL_law_794 dL_law_795 dL_law_796 ?_
  refine lw_call X (P22 (xs (i + 1)) (xs (i + 2)) (xs (i + 3)) (xs (i + 4)) mem hm).ty rfl rfl okX5_luck insX5_luck selX5_luck lkL_105 rfl rfl (Nat.le_of_ble_eq_true rfl) dL_law_797 (fun v m1 z => ?_)
  obtain ⟨x, rfl⟩ := z.1.2 rfl
  refine lw_al2 X dL_law_800 ?_
  refine lw_arg X hi 1 (by decide) (by decide) dL_law_801 dL_law_802 dL_law_803 dL_law_804 dL_law_805 ?_
  refine lw_arg X hi 2 (by decide) (by decide) dL_law_806 dL_law_807 dL_law_808 dL_law_809 dL_law_810 ?_
  refine lw_arg X hi 3 (by decide) (by decide) dL_law_811 dL_law_812 dL_law_813 dL_law_814 dL_law_815 ?_
  refine lw_arg X hi 4 (by decide) (by decide) dL_law_816 dL_law_817 dL_law_818 dL_law_819 dL_law_820 ?_
  refine lw_call X z.2 rfl rfl okX6_luck insX6_luck selX6_luck lkL_109 rfl rfl (Nat.le_of_ble_eq_true rfl) dL_law_821 (fun w m2 y => ?_)
  obtain ⟨rfl, hI⟩ := y
  refine lw_stk (st2 := [.long x, .long x]) rfl ?_
  exact lw_eqL X dL_law_824 dL_law_825 (by decide) (k m2 hI)
theorem lwc23 {G : GX} {p : Program} {e : Env} {s : State} {m : MethodId} {below : List Frame} {meth : Method} {c : Code} {b L : Nat} {xs : Nat → Int32} {ls : Array Slot} {i : Nat} {mem : Mem} (X : LX G p s m meth c b L xs ls i) (hi : i + 5 ≤ L ∧ L ≤ 2560) (hm : Inv mem) (k : ∀ m2 : Mem, Inv m2 → LW G p e s m below meth c b ls m2 1306 []) : LW G p e s m below meth c b ls mem 830 [] := by
  refine lw_al1 X dL_law_830 ?_
  refine lw_arg X hi 1 (by decide) (by decide) dL_law_831 dL_law_832 dL_law_833 dL_law_834 dL_law_835 ?_
  refine lw_arg X hi 2 (by decide) (by decide) dL_law_836 dL_law_837 dL_law_838 dL_law_839 dL_law_840 ?_
  refine lw_arg X hi 3 (by decide) (by decide) dL_law_841 dL_law_842 dL_law_843 dL_law_844 dL_law_845 ?_
  refine lw_call X (P23 (xs (i + 1)) (xs (i + 2)) (xs (i + 3)) mem hm).ty rfl rfl okX5_mean insX5_mean selX5_mean lkL_110 rfl rfl (Nat.le_of_ble_eq_true rfl) dL_law_846 (fun v m1 z => ?_)
  obtain ⟨x, rfl⟩ := z.1.2 rfl
  refine lw_al2 X dL_law_849 ?_
  refine lw_arg X hi 1 (by decide) (by decide) dL_law_850 dL_law_851 dL_law_852 dL_law_853 dL_law_854 ?_
  refine lw_arg X hi 2 (by decide) (by decide) dL_law_855 dL_law_856 dL_law_857 dL_law_858 dL_law_859 ?_
  refine lw_arg X hi 3 (by decide) (by decide) dL_law_860 dL_law_861 dL_law_862 dL_law_863 dL_law_864 ?_
  refine lw_call X z.2 rfl rfl okX6_mean insX6_mean selX6_mean lkL_114 rfl rfl (Nat.le_of_ble_eq_true rfl) dL_law_865 (fun w m2 y => ?_)
  obtain ⟨rfl, hI⟩ := y
  refine lw_stk (st2 := [.long x, .long x]) rfl ?_
  exact lw_eqL X dL_law_868 dL_law_869 (by decide) (k m2 hI)
theorem lwc24 {G : GX} {p : Program} {e : Env} {s : State} {m : MethodId} {below : List Frame} {meth : Method} {c : Code} {b L : Nat} {xs : Nat → Int32} {ls : Array Slot} {i : Nat} {mem : Mem} (X : LX G p s m meth c b L xs ls i) (hi : i + 5 ≤ L ∧ L ≤ 2560) (hm : Inv mem) (k : ∀ m2 : Mem, Inv m2 → LW G p e s m below meth c b ls m2 1306 []) : LW G p e s m below meth c b ls mem 874 [] := by
  refine lw_al1 X dL_law_874 ?_
  refine lw_arg X hi 1 (by decide) (by decide) dL_law_875 dL_law_876 dL_law_877 dL_law_878 dL_law_879 ?_
  refine lw_arg X hi 2 (by decide) (by decide) dL_law_880 dL_law_881 dL_law_882 dL_law_883 dL_law_884 ?_
  refine lw_arg X hi 3 (by decide) (by decide) dL_law_885 dL_law_886 dL_law_887 dL_law_888 dL_law_889 ?_
  refine lw_call X (P24 (xs (i + 1)) (xs (i + 2)) (xs (i + 3)) mem hm).ty rfl rfl okX5_see insX5_see selX5_see lkL_115 rfl rfl (Nat.le_of_ble_eq_true rfl) dL_law_890 (fun v m1 z => ?_)
  obtain ⟨x, rfl⟩ := z.1.1 rfl
  refine lw_al2 X dL_law_893 ?_
  refine lw_arg X hi 1 (by decide) (by decide) dL_law_894 dL_law_895 dL_law_896 dL_law_897 dL_law_898 ?_
  refine lw_arg X hi 2 (by decide) (by decide) dL_law_899 dL_law_900 dL_law_901 dL_law_902 dL_law_903 ?_
  refine lw_arg X hi 3 (by decide) (by decide) dL_law_904 dL_law_905 dL_law_906 dL_law_907 dL_law_908 ?_
  refine lw_call X z.2 rfl rfl okX6_see insX6_see selX6_see lkL_118 rfl rfl (Nat.le_of_ble_eq_true rfl) dL_law_909 (fun w m2 y => ?_)
  obtain ⟨rfl, hI⟩ := y
  refine lw_stk (st2 := [.int x, .int x]) rfl ?_
  exact lw_eqI X dL_law_912 (by decide) (k m2 hI)
theorem lwc25 {G : GX} {p : Program} {e : Env} {s : State} {m : MethodId} {below : List Frame} {meth : Method} {c : Code} {b L : Nat} {xs : Nat → Int32} {ls : Array Slot} {i : Nat} {mem : Mem} (X : LX G p s m meth c b L xs ls i) (hi : i + 5 ≤ L ∧ L ≤ 2560) (hm : Inv mem) (k : ∀ m2 : Mem, Inv m2 → LW G p e s m below meth c b ls m2 1306 []) : LW G p e s m below meth c b ls mem 917 [] := by
  refine lw_al1 X dL_law_917 ?_
  refine lw_arg X hi 1 (by decide) (by decide) dL_law_918 dL_law_919 dL_law_920 dL_law_921 dL_law_922 ?_
  refine lw_call X (P25 (xs (i + 1)) mem hm).ty rfl rfl okX5_forget insX5_forget selX5_forget lkL_119 rfl rfl (Nat.le_of_ble_eq_true rfl) dL_law_923 (fun v m1 z => ?_)
  obtain ⟨x, rfl⟩ := z.1.1 rfl
  refine lw_al2 X dL_law_926 ?_
  refine lw_arg X hi 1 (by decide) (by decide) dL_law_927 dL_law_928 dL_law_929 dL_law_930 dL_law_931 ?_
  refine lw_call X z.2 rfl rfl okX6_forget insX6_forget selX6_forget lkL_122 rfl rfl (Nat.le_of_ble_eq_true rfl) dL_law_932 (fun w m2 y => ?_)
  obtain ⟨rfl, hI⟩ := y
  refine lw_stk (st2 := [.int x, .int x]) rfl ?_
  exact lw_eqI X dL_law_935 (by decide) (k m2 hI)
theorem lwc26 {G : GX} {p : Program} {e : Env} {s : State} {m : MethodId} {below : List Frame} {meth : Method} {c : Code} {b L : Nat} {xs : Nat → Int32} {ls : Array Slot} {i : Nat} {mem : Mem} (X : LX G p s m meth c b L xs ls i) (hi : i + 5 ≤ L ∧ L ≤ 2560) (hm : Inv mem) (k : ∀ m2 : Mem, Inv m2 → LW G p e s m below meth c b ls m2 1306 []) : LW G p e s m below meth c b ls mem 940 [] := by
  refine lw_al1 X dL_law_940 ?_
  refine lw_arg X hi 1 (by decide) (by decide) dL_law_941 dL_law_942 dL_law_943 dL_law_944 dL_law_945 ?_
  refine lw_call X (P26 (xs (i + 1)) mem hm).ty rfl rfl okX5_kinds insX5_kinds selX5_kinds lkL_123 rfl rfl (Nat.le_of_ble_eq_true rfl) dL_law_946 (fun v m1 z => ?_)
  obtain ⟨x, rfl⟩ := z.1.1 rfl
  refine lw_al2 X dL_law_949 ?_
  refine lw_arg X hi 1 (by decide) (by decide) dL_law_950 dL_law_951 dL_law_952 dL_law_953 dL_law_954 ?_
  refine lw_call X z.2 rfl rfl okX6_kinds insX6_kinds selX6_kinds lkL_126 rfl rfl (Nat.le_of_ble_eq_true rfl) dL_law_955 (fun w m2 y => ?_)
  obtain ⟨rfl, hI⟩ := y
  refine lw_stk (st2 := [.int x, .int x]) rfl ?_
  exact lw_eqI X dL_law_958 (by decide) (k m2 hI)
theorem lwc27 {G : GX} {p : Program} {e : Env} {s : State} {m : MethodId} {below : List Frame} {meth : Method} {c : Code} {b L : Nat} {xs : Nat → Int32} {ls : Array Slot} {i : Nat} {mem : Mem} (X : LX G p s m meth c b L xs ls i) (hi : i + 5 ≤ L ∧ L ≤ 2560) (hm : Inv mem) (k : ∀ m2 : Mem, Inv m2 → LW G p e s m below meth c b ls m2 1306 []) : LW G p e s m below meth c b ls mem 963 [] := by
  refine lw_al1 X dL_law_963 ?_
  refine lw_arg X hi 1 (by decide) (by decide) dL_law_964 dL_law_965 dL_law_966 dL_law_967 dL_law_968 ?_
  refine lw_call X (P27 (xs (i + 1)) mem hm).ty rfl rfl okX5_periods insX5_periods selX5_periods lkL_127 rfl rfl (Nat.le_of_ble_eq_true rfl) dL_law_969 (fun v m1 z => ?_)
  obtain ⟨x, rfl⟩ := z.1.1 rfl
  refine lw_al2 X dL_law_972 ?_
  refine lw_arg X hi 1 (by decide) (by decide) dL_law_973 dL_law_974 dL_law_975 dL_law_976 dL_law_977 ?_
  refine lw_call X z.2 rfl rfl okX6_periods insX6_periods selX6_periods lkL_130 rfl rfl (Nat.le_of_ble_eq_true rfl) dL_law_978 (fun w m2 y => ?_)
  obtain ⟨rfl, hI⟩ := y
  refine lw_stk (st2 := [.int x, .int x]) rfl ?_
  exact lw_eqI X dL_law_981 (by decide) (k m2 hI)
theorem lwc28 {G : GX} {p : Program} {e : Env} {s : State} {m : MethodId} {below : List Frame} {meth : Method} {c : Code} {b L : Nat} {xs : Nat → Int32} {ls : Array Slot} {i : Nat} {mem : Mem} (X : LX G p s m meth c b L xs ls i) (hi : i + 5 ≤ L ∧ L ≤ 2560) (hm : Inv mem) (k : ∀ m2 : Mem, Inv m2 → LW G p e s m below meth c b ls m2 1306 []) : LW G p e s m below meth c b ls mem 986 [] := by
  refine lw_al1 X dL_law_986 ?_
  refine lw_arg X hi 1 (by decide) (by decide) dL_law_987 dL_law_988 dL_law_989 dL_law_990 dL_law_991 ?_
  refine lw_call X (P28 (xs (i + 1)) mem hm).ty rfl rfl okX5_hands insX5_hands selX5_hands lkL_131 rfl rfl (Nat.le_of_ble_eq_true rfl) dL_law_992 (fun v m1 z => ?_)
  obtain ⟨x, rfl⟩ := z.1.1 rfl
  refine lw_al2 X dL_law_995 ?_
  refine lw_arg X hi 1 (by decide) (by decide) dL_law_996 dL_law_997 dL_law_998 dL_law_999 dL_law_1000 ?_
  refine lw_call X z.2 rfl rfl okX6_hands insX6_hands selX6_hands lkL_134 rfl rfl (Nat.le_of_ble_eq_true rfl) dL_law_1001 (fun w m2 y => ?_)
  obtain ⟨rfl, hI⟩ := y
  refine lw_stk (st2 := [.int x, .int x]) rfl ?_
  exact lw_eqI X dL_law_1004 (by decide) (k m2 hI)
theorem lwc29 {G : GX} {p : Program} {e : Env} {s : State} {m : MethodId} {below : List Frame} {meth : Method} {c : Code} {b L : Nat} {xs : Nat → Int32} {ls : Array Slot} {i : Nat} {mem : Mem} (X : LX G p s m meth c b L xs ls i) (hi : i + 5 ≤ L ∧ L ≤ 2560) (hm : Inv mem) (k : ∀ m2 : Mem, Inv m2 → LW G p e s m below meth c b ls m2 1306 []) : LW G p e s m below meth c b ls mem 1009 [] := by
  refine lw_al1 X dL_law_1009 ?_
  refine lw_arg X hi 1 (by decide) (by decide) dL_law_1010 dL_law_1011 dL_law_1012 dL_law_1013 dL_law_1014 ?_
  refine lw_arg X hi 2 (by decide) (by decide) dL_law_1015 dL_law_1016 dL_law_1017 dL_law_1018 dL_law_1019 ?_
  refine lw_call X (P29 (xs (i + 1)) (xs (i + 2)) mem hm).ty rfl rfl okX5_ask insX5_ask selX5_ask lkL_135 rfl rfl (Nat.le_of_ble_eq_true rfl) dL_law_1020 (fun v m1 z => ?_)
  obtain ⟨x, rfl⟩ := z.1.1 rfl
  refine lw_al2 X dL_law_1023 ?_
  refine lw_arg X hi 1 (by decide) (by decide) dL_law_1024 dL_law_1025 dL_law_1026 dL_law_1027 dL_law_1028 ?_
  refine lw_arg X hi 2 (by decide) (by decide) dL_law_1029 dL_law_1030 dL_law_1031 dL_law_1032 dL_law_1033 ?_
  refine lw_call X z.2 rfl rfl okX6_ask insX6_ask selX6_ask lkL_138 rfl rfl (Nat.le_of_ble_eq_true rfl) dL_law_1034 (fun w m2 y => ?_)
  obtain ⟨rfl, hI⟩ := y
  refine lw_stk (st2 := [.int x, .int x]) rfl ?_
  exact lw_eqI X dL_law_1037 (by decide) (k m2 hI)
theorem lwc30 {G : GX} {p : Program} {e : Env} {s : State} {m : MethodId} {below : List Frame} {meth : Method} {c : Code} {b L : Nat} {xs : Nat → Int32} {ls : Array Slot} {i : Nat} {mem : Mem} (X : LX G p s m meth c b L xs ls i) (hi : i + 5 ≤ L ∧ L ≤ 2560) (hm : Inv mem) (k : ∀ m2 : Mem, Inv m2 → LW G p e s m below meth c b ls m2 1306 []) : LW G p e s m below meth c b ls mem 1042 [] := by
  refine lw_al1 X dL_law_1042 ?_
  refine lw_arg X hi 1 (by decide) (by decide) dL_law_1043 dL_law_1044 dL_law_1045 dL_law_1046 dL_law_1047 ?_
  refine lw_arg X hi 2 (by decide) (by decide) dL_law_1048 dL_law_1049 dL_law_1050 dL_law_1051 dL_law_1052 ?_
  refine lw_arg X hi 3 (by decide) (by decide) dL_law_1053 dL_law_1054 dL_law_1055 dL_law_1056 dL_law_1057 ?_
  refine lw_call X (P30 (xs (i + 1)) (xs (i + 2)) (xs (i + 3)) mem hm).ty rfl rfl okX5_drift insX5_drift selX5_drift lkL_139 rfl rfl (Nat.le_of_ble_eq_true rfl) dL_law_1058 (fun v m1 z => ?_)
  obtain ⟨x, rfl⟩ := z.1.1 rfl
  refine lw_al2 X dL_law_1061 ?_
  refine lw_arg X hi 1 (by decide) (by decide) dL_law_1062 dL_law_1063 dL_law_1064 dL_law_1065 dL_law_1066 ?_
  refine lw_arg X hi 2 (by decide) (by decide) dL_law_1067 dL_law_1068 dL_law_1069 dL_law_1070 dL_law_1071 ?_
  refine lw_arg X hi 3 (by decide) (by decide) dL_law_1072 dL_law_1073 dL_law_1074 dL_law_1075 dL_law_1076 ?_
  refine lw_call X z.2 rfl rfl okX6_drift insX6_drift selX6_drift lkL_142 rfl rfl (Nat.le_of_ble_eq_true rfl) dL_law_1077 (fun w m2 y => ?_)
  obtain ⟨rfl, hI⟩ := y
  refine lw_stk (st2 := [.int x, .int x]) rfl ?_
  exact lw_eqI X dL_law_1080 (by decide) (k m2 hI)
theorem lwc31 {G : GX} {p : Program} {e : Env} {s : State} {m : MethodId} {below : List Frame} {meth : Method} {c : Code} {b L : Nat} {xs : Nat → Int32} {ls : Array Slot} {i : Nat} {mem : Mem} (X : LX G p s m meth c b L xs ls i) (hi : i + 5 ≤ L ∧ L ≤ 2560) (hm : Inv mem) (k : ∀ m2 : Mem, Inv m2 → LW G p e s m below meth c b ls m2 1306 []) : LW G p e s m below meth c b ls mem 1085 [] := by
  refine lw_al1 X dL_law_1085 ?_
  refine lw_arg X hi 1 (by decide) (by decide) dL_law_1086 dL_law_1087 dL_law_1088 dL_law_1089 dL_law_1090 ?_
  refine lw_call X (P31 (xs (i + 1)) mem hm).ty rfl rfl okX5_keep insX5_keep selX5_keep lkL_143 rfl rfl (Nat.le_of_ble_eq_true rfl) dL_law_1091 (fun v m1 z => ?_)
  obtain ⟨x, rfl⟩ := z.1.1 rfl
  refine lw_al2 X dL_law_1094 ?_
  refine lw_arg X hi 1 (by decide) (by decide) dL_law_1095 dL_law_1096 dL_law_1097 dL_law_1098 dL_law_1099 ?_
  refine lw_call X z.2 rfl rfl okX6_keep insX6_keep selX6_keep lkL_146 rfl rfl (Nat.le_of_ble_eq_true rfl) dL_law_1100 (fun w m2 y => ?_)
  obtain ⟨rfl, hI⟩ := y
  refine lw_stk (st2 := [.int x, .int x]) rfl ?_
  exact lw_eqI X dL_law_1103 (by decide) (k m2 hI)
theorem lwc32 {G : GX} {p : Program} {e : Env} {s : State} {m : MethodId} {below : List Frame} {meth : Method} {c : Code} {b L : Nat} {xs : Nat → Int32} {ls : Array Slot} {i : Nat} {mem : Mem} (X : LX G p s m meth c b L xs ls i) (hi : i + 5 ≤ L ∧ L ≤ 2560) (hm : Inv mem) (k : ∀ m2 : Mem, Inv m2 → LW G p e s m below meth c b ls m2 1306 []) : LW G p e s m below meth c b ls mem 1108 [] := by
  refine lw_al1 X dL_law_1108 ?_
  refine lw_arg X hi 1 (by decide) (by decide) dL_law_1109 dL_law_1110 dL_law_1111 dL_law_1112 dL_law_1113 ?_
  refine lw_call X (P32 (xs (i + 1)) mem hm).ty rfl rfl okX5_back insX5_back selX5_back lkL_147 rfl rfl (Nat.le_of_ble_eq_true rfl) dL_law_1114 (fun v m1 z => ?_)
  obtain ⟨x, rfl⟩ := z.1.1 rfl
  refine lw_al2 X dL_law_1117 ?_
  refine lw_arg X hi 1 (by decide) (by decide) dL_law_1118 dL_law_1119 dL_law_1120 dL_law_1121 dL_law_1122 ?_
  refine lw_call X z.2 rfl rfl okX6_back insX6_back selX6_back lkL_150 rfl rfl (Nat.le_of_ble_eq_true rfl) dL_law_1123 (fun w m2 y => ?_)
  obtain ⟨rfl, hI⟩ := y
  refine lw_stk (st2 := [.int x, .int x]) rfl ?_
  exact lw_eqI X dL_law_1126 (by decide) (k m2 hI)
theorem lwc33 {G : GX} {p : Program} {e : Env} {s : State} {m : MethodId} {below : List Frame} {meth : Method} {c : Code} {b L : Nat} {xs : Nat → Int32} {ls : Array Slot} {i : Nat} {mem : Mem} (X : LX G p s m meth c b L xs ls i) (hi : i + 5 ≤ L ∧ L ≤ 2560) (hm : Inv mem) (k : ∀ m2 : Mem, Inv m2 → LW G p e s m below meth c b ls m2 1306 []) : LW G p e s m below meth c b ls mem 1131 [] := by
  refine lw_al1 X dL_law_1131 ?_
  refine lw_arg X hi 1 (by decide) (by decide) dL_law_1132 dL_law_1133 dL_law_1134 dL_law_1135 dL_law_1136 ?_
  refine lw_arg X hi 2 (by decide) (by decide) dL_law_1137 dL_law_1138 dL_law_1139 dL_law_1140 dL_law_1141 ?_
  refine lw_arg X hi 3 (by decide) (by decide) dL_law_1142 dL_law_1143 dL_law_1144 dL_law_1145 dL_law_1146 ?_
  refine lw_call X (P33 (xs (i + 1)) (xs (i + 2)) (xs (i + 3)) mem hm).ty rfl rfl okX5_sheet insX5_sheet selX5_sheet lkL_151 rfl rfl (Nat.le_of_ble_eq_true rfl) dL_law_1147 (fun v m1 z => ?_)
  obtain ⟨x, rfl⟩ := z.1.1 rfl
  refine lw_al2 X dL_law_1150 ?_
  refine lw_arg X hi 1 (by decide) (by decide) dL_law_1151 dL_law_1152 dL_law_1153 dL_law_1154 dL_law_1155 ?_
  refine lw_arg X hi 2 (by decide) (by decide) dL_law_1156 dL_law_1157 dL_law_1158 dL_law_1159 dL_law_1160 ?_
  refine lw_arg X hi 3 (by decide) (by decide) dL_law_1161 dL_law_1162 dL_law_1163 dL_law_1164 dL_law_1165 ?_
  refine lw_call X z.2 rfl rfl okX6_sheet insX6_sheet selX6_sheet lkL_154 rfl rfl (Nat.le_of_ble_eq_true rfl) dL_law_1166 (fun w m2 y => ?_)
  obtain ⟨rfl, hI⟩ := y
  refine lw_stk (st2 := [.int x, .int x]) rfl ?_
  exact lw_eqI X dL_law_1169 (by decide) (k m2 hI)
theorem lwc34 {G : GX} {p : Program} {e : Env} {s : State} {m : MethodId} {below : List Frame} {meth : Method} {c : Code} {b L : Nat} {xs : Nat → Int32} {ls : Array Slot} {i : Nat} {mem : Mem} (X : LX G p s m meth c b L xs ls i) (hi : i + 5 ≤ L ∧ L ≤ 2560) (hm : Inv mem) (k : ∀ m2 : Mem, Inv m2 → LW G p e s m below meth c b ls m2 1306 []) : LW G p e s m below meth c b ls mem 1174 [] := by
  refine lw_al1 X dL_law_1174 ?_
  refine lw_arg X hi 1 (by decide) (by decide) dL_law_1175 dL_law_1176 dL_law_1177 dL_law_1178 dL_law_1179 ?_
  refine lw_arg X hi 2 (by decide) (by decide) dL_law_1180 dL_law_1181 dL_law_1182 dL_law_1183 dL_law_1184 ?_
  refine lw_arg X hi 3 (by decide) (by decide) dL_law_1185 dL_law_1186 dL_law_1187 dL_law_1188 dL_law_1189 ?_
  refine lw_call X (P34 (xs (i + 1)) (xs (i + 2)) (xs (i + 3)) mem hm).ty rfl rfl okX5_lay insX5_lay selX5_lay lkL_155 rfl rfl (Nat.le_of_ble_eq_true rfl) dL_law_1190 (fun v m1 z => ?_)
  obtain ⟨x, rfl⟩ := z.1.1 rfl
  refine lw_al2 X dL_law_1193 ?_
  refine lw_arg X hi 1 (by decide) (by decide) dL_law_1194 dL_law_1195 dL_law_1196 dL_law_1197 dL_law_1198 ?_
  refine lw_arg X hi 2 (by decide) (by decide) dL_law_1199 dL_law_1200 dL_law_1201 dL_law_1202 dL_law_1203 ?_
  refine lw_arg X hi 3 (by decide) (by decide) dL_law_1204 dL_law_1205 dL_law_1206 dL_law_1207 dL_law_1208 ?_
  refine lw_call X z.2 rfl rfl okX6_lay insX6_lay selX6_lay lkL_158 rfl rfl (Nat.le_of_ble_eq_true rfl) dL_law_1209 (fun w m2 y => ?_)
  obtain ⟨rfl, hI⟩ := y
  refine lw_stk (st2 := [.int x, .int x]) rfl ?_
  exact lw_eqI X dL_law_1212 (by decide) (k m2 hI)
theorem lwc35 {G : GX} {p : Program} {e : Env} {s : State} {m : MethodId} {below : List Frame} {meth : Method} {c : Code} {b L : Nat} {xs : Nat → Int32} {ls : Array Slot} {i : Nat} {mem : Mem} (X : LX G p s m meth c b L xs ls i) (hi : i + 5 ≤ L ∧ L ≤ 2560) (hm : Inv mem) (k : ∀ m2 : Mem, Inv m2 → LW G p e s m below meth c b ls m2 1306 []) : LW G p e s m below meth c b ls mem 1217 [] := by
  refine lw_al1 X dL_law_1217 ?_
  refine lw_arg X hi 1 (by decide) (by decide) dL_law_1218 dL_law_1219 dL_law_1220 dL_law_1221 dL_law_1222 ?_
  refine lw_arg X hi 2 (by decide) (by decide) dL_law_1223 dL_law_1224 dL_law_1225 dL_law_1226 dL_law_1227 ?_
  refine lw_arg X hi 3 (by decide) (by decide) dL_law_1228 dL_law_1229 dL_law_1230 dL_law_1231 dL_law_1232 ?_
  refine lw_arg X hi 4 (by decide) (by decide) dL_law_1233 dL_law_1234 dL_law_1235 dL_law_1236 dL_law_1237 ?_
  refine lw_call X (P35 (xs (i + 1)) (xs (i + 2)) (xs (i + 3)) (xs (i + 4)) mem hm).ty rfl rfl okX5_read insX5_read selX5_read lkL_159 rfl rfl (Nat.le_of_ble_eq_true rfl) dL_law_1238 (fun v m1 z => ?_)
  obtain ⟨x, rfl⟩ := z.1.1 rfl
  refine lw_al2 X dL_law_1241 ?_
  refine lw_arg X hi 1 (by decide) (by decide) dL_law_1242 dL_law_1243 dL_law_1244 dL_law_1245 dL_law_1246 ?_
  refine lw_arg X hi 2 (by decide) (by decide) dL_law_1247 dL_law_1248 dL_law_1249 dL_law_1250 dL_law_1251 ?_
  refine lw_arg X hi 3 (by decide) (by decide) dL_law_1252 dL_law_1253 dL_law_1254 dL_law_1255 dL_law_1256 ?_
  refine lw_arg X hi 4 (by decide) (by decide) dL_law_1257 dL_law_1258 dL_law_1259 dL_law_1260 dL_law_1261 ?_
  refine lw_call X z.2 rfl rfl okX6_read insX6_read selX6_read lkL_163 rfl rfl (Nat.le_of_ble_eq_true rfl) dL_law_1262 (fun w m2 y => ?_)
  obtain ⟨rfl, hI⟩ := y
  refine lw_stk (st2 := [.int x, .int x]) rfl ?_
  exact lw_eqI X dL_law_1265 (by decide) (k m2 hI)
theorem lwc36 {G : GX} {p : Program} {e : Env} {s : State} {m : MethodId} {below : List Frame} {meth : Method} {c : Code} {b L : Nat} {xs : Nat → Int32} {ls : Array Slot} {i : Nat} {mem : Mem} (X : LX G p s m meth c b L xs ls i) (hi : i + 5 ≤ L ∧ L ≤ 2560) (hm : Inv mem) (k : ∀ m2 : Mem, Inv m2 → LW G p e s m below meth c b ls m2 1306 []) : LW G p e s m below meth c b ls mem 1270 [] := by
  refine lw_al1 X dL_law_1270 ?_
  refine lw_call X (P36 mem hm).ty rfl rfl okX5_torn insX5_torn selX5_torn lkL_164 rfl rfl (Nat.le_of_ble_eq_true rfl) dL_law_1271 (fun v m1 z => ?_)
  obtain ⟨x, rfl⟩ := z.1.1 rfl
  refine lw_al2 X dL_law_1274 ?_
  refine lw_call X z.2 rfl rfl okX6_torn insX6_torn selX6_torn lkL_167 rfl rfl (Nat.le_of_ble_eq_true rfl) dL_law_1275 (fun w m2 y => ?_)
  obtain ⟨rfl, hI⟩ := y
  refine lw_stk (st2 := [.int x, .int x]) rfl ?_
  exact lw_eqI X dL_law_1278 (by decide) (k m2 hI)
theorem lwc37 {G : GX} {p : Program} {e : Env} {s : State} {m : MethodId} {below : List Frame} {meth : Method} {c : Code} {b L : Nat} {xs : Nat → Int32} {ls : Array Slot} {i : Nat} {mem : Mem} (X : LX G p s m meth c b L xs ls i) (hi : i + 5 ≤ L ∧ L ≤ 2560) (hm : Inv mem) (k : ∀ m2 : Mem, Inv m2 → LW G p e s m below meth c b ls m2 1306 []) : LW G p e s m below meth c b ls mem 1283 [] := by
  refine lw_al1 X dL_law_1283 ?_
  refine lw_arg X hi 1 (by decide) (by decide) dL_law_1284 dL_law_1285 dL_law_1286 dL_law_1287 dL_law_1288 ?_
  refine lw_call X (P37 (xs (i + 1)) mem hm).ty rfl rfl okX5_count insX5_count selX5_count lkL_168 rfl rfl (Nat.le_of_ble_eq_true rfl) dL_law_1289 (fun v m1 z => ?_)
  obtain ⟨x, rfl⟩ := z.1.1 rfl
  refine lw_al2 X dL_law_1292 ?_
  refine lw_arg X hi 1 (by decide) (by decide) dL_law_1293 dL_law_1294 dL_law_1295 dL_law_1296 dL_law_1297 ?_
  refine lw_call X z.2 rfl rfl okX6_count insX6_count selX6_count lkL_171 rfl rfl (Nat.le_of_ble_eq_true rfl) dL_law_1298 (fun w m2 y => ?_)
  obtain ⟨rfl, hI⟩ := y
  refine lw_stk (st2 := [.int x, .int x]) rfl ?_
  exact lw_eqI X dL_law_1301 (by decide) (k m2 hI)