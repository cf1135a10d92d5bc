/-! the words, by their places -/
set_option maxRecDepth 20000 in
theorem mw_312 : Cond.code yX2_isSetting prog_1_method_28_code 2 (some .boolean) ∈ gw_all := gw_in (k := 312) (by decide +kernel) (by decide +kernel)
set_option maxRecDepth 20000 in
theorem mw_313 : Cond.constantDouble RX2 151 13875379345695965184 ∈ gw_all := gw_in (k := 313) (by decide +kernel) (by decide +kernel)
set_option maxRecDepth 20000 in
theorem mw_314 : Cond.methodLink RX2 71 yX0_become ∈ gw_all := gw_in (k := 314) (by decide +kernel) (by decide +kernel)
set_option maxRecDepth 20000 in
theorem mw_315 : Cond.instanceMethod yX0_become ∈ gw_all := gw_in (k := 315) (by decide +kernel) (by decide +kernel)
set_option maxRecDepth 20000 in
theorem mw_316 : Cond.selects RX0 yX0_become yX0_become ∈ gw_all := gw_in (k := 316) (by decide +kernel) (by decide +kernel)
set_option maxRecDepth 20000 in
theorem mw_317 : Cond.code yX0_become prog_2_method_2_code 8 (some .int) ∈ gw_all := gw_in (k := 317) (by decide +kernel) (by decide +kernel)
set_option maxRecDepth 20000 in
theorem mw_318 : Cond.methodLink RL 95 yL_guard ∈ gw_all := gw_in (k := 318) (by decide +kernel) (by decide +kernel)
set_option maxRecDepth 20000 in
theorem mw_319 : Cond.static yL_guard ∈ gw_all := gw_in (k := 319) (by decide +kernel) (by decide +kernel)
set_option maxRecDepth 20000 in
theorem mw_320 : Cond.codeWith yL_guard method_7_code 5 (some .int) [(0, 17, 20, 15)] ∈ gw_all := gw_in (k := 320) (by decide +kernel) (by decide +kernel)
set_option maxRecDepth 20000 in
theorem mw_321 : Cond.methodLink RL 29 yX2_guard ∈ gw_all := gw_in (k := 321) (by decide +kernel) (by decide +kernel)
set_option maxRecDepth 20000 in
theorem mw_322 : Cond.instanceMethod yX2_guard ∈ gw_all := gw_in (k := 322) (by decide +kernel) (by decide +kernel)
set_option maxRecDepth 20000 in
theorem mw_323 : Cond.selects RX2 yX2_guard yX2_guard ∈ gw_all := gw_in (k := 323) (by decide +kernel) (by decide +kernel)
set_option maxRecDepth 20000 in
theorem mw_324 : Cond.code yX2_guard prog_1_method_6_code 4 (some .boolean) ∈ gw_all := gw_in (k := 324) (by decide +kernel) (by decide +kernel)
set_option maxRecDepth 20000 in
theorem mw_325 : Cond.methodLink RL 99 yL_input ∈ gw_all := gw_in (k := 325) (by decide +kernel) (by decide +kernel)
set_option maxRecDepth 20000 in
theorem mw_326 : Cond.static yL_input ∈ gw_all := gw_in (k := 326) (by decide +kernel) (by decide +kernel)
set_option maxRecDepth 20000 in
theorem mw_327 : Cond.codeWith yL_input method_8_code 5 (some .int) [(0, 17, 20, 15)] ∈ gw_all := gw_in (k := 327) (by decide +kernel) (by decide +kernel)
set_option maxRecDepth 20000 in
theorem mw_328 : Cond.methodLink RL 33 yX2_input ∈ gw_all := gw_in (k := 328) (by decide +kernel) (by decide +kernel)
set_option maxRecDepth 20000 in
theorem mw_329 : Cond.instanceMethod yX2_input ∈ gw_all := gw_in (k := 329) (by decide +kernel) (by decide +kernel)
set_option maxRecDepth 20000 in
theorem mw_330 : Cond.selects RX2 yX2_input yX2_input ∈ gw_all := gw_in (k := 330) (by decide +kernel) (by decide +kernel)
set_option maxRecDepth 20000 in
theorem mw_331 : Cond.code yX2_input prog_1_method_7_code 4 (some .boolean) ∈ gw_all := gw_in (k := 331) (by decide +kernel) (by decide +kernel)
set_option maxRecDepth 20000 in
theorem mw_332 : Cond.methodLink RL 102 yL_set ∈ gw_all := gw_in (k := 332) (by decide +kernel) (by decide +kernel)
set_option maxRecDepth 20000 in
theorem mw_333 : Cond.static yL_set ∈ gw_all := gw_in (k := 333) (by decide +kernel) (by decide +kernel)
set_option maxRecDepth 20000 in
theorem mw_334 : Cond.codeWith yL_set method_9_code 6 (some .int) [(0, 10, 13, 13), (0, 10, 17, 15)] ∈ gw_all := gw_in (k := 334) (by decide +kernel) (by decide +kernel)
set_option maxRecDepth 20000 in
theorem mw_335 : Cond.methodLink RL 36 yX2_set ∈ gw_all := gw_in (k := 335) (by decide +kernel) (by decide +kernel)
set_option maxRecDepth 20000 in
theorem mw_336 : Cond.instanceMethod yX2_set ∈ gw_all := gw_in (k := 336) (by decide +kernel) (by decide +kernel)
set_option maxRecDepth 20000 in
theorem mw_337 : Cond.selects RX2 yX2_set yX2_set ∈ gw_all := gw_in (k := 337) (by decide +kernel) (by decide +kernel)
set_option maxRecDepth 20000 in
theorem mw_338 : Cond.code yX2_set prog_1_method_8_code 6 (some .double) ∈ gw_all := gw_in (k := 338) (by decide +kernel) (by decide +kernel)
set_option maxRecDepth 20000 in
theorem mw_339 : Cond.methodLink RX2 79 yX2_isValue ∈ gw_all := gw_in (k := 339) (by decide +kernel) (by decide +kernel)
set_option maxRecDepth 20000 in
theorem mw_340 : Cond.static yX2_isValue ∈ gw_all := gw_in (k := 340) (by decide +kernel) (by decide +kernel)
set_option maxRecDepth 20000 in
theorem mw_341 : Cond.code yX2_isValue prog_1_method_29_code 2 (some .boolean) ∈ gw_all := gw_in (k := 341) (by decide +kernel) (by decide +kernel)
set_option maxRecDepth 20000 in
theorem mw_342 : Cond.constantDouble RX2 153 14009883241494872064 ∈ gw_all := gw_in (k := 342) (by decide +kernel) (by decide +kernel)
set_option maxRecDepth 20000 in
theorem mw_343 : Cond.constantDouble RX2 155 4786511204640096256 ∈ gw_all := gw_in (k := 343) (by decide +kernel) (by decide +kernel)
set_option maxRecDepth 20000 in
theorem mw_344 : Cond.methodLink RL 106 yL_scan ∈ gw_all := gw_in (k := 344) (by decide +kernel) (by decide +kernel)
set_option maxRecDepth 20000 in
theorem mw_345 : Cond.static yL_scan ∈ gw_all := gw_in (k := 345) (by decide +kernel) (by decide +kernel)
set_option maxRecDepth 20000 in
theorem mw_346 : Cond.codeWith yL_scan method_10_code 4 (some .int) [(0, 9, 12, 13), (0, 9, 15, 44), (0, 9, 18, 46)] ∈ gw_all := gw_in (k := 346) (by decide +kernel) (by decide +kernel)
set_option maxRecDepth 20000 in
theorem mw_347 : Cond.classLink RL 44 "java/lang/IllegalStateException" ∈ gw_all := gw_in (k := 347) (by decide +kernel) (by decide +kernel)
set_option maxRecDepth 20000 in
theorem mw_348 : Cond.classLink RL 46 "java/lang/ArithmeticException" ∈ gw_all := gw_in (k := 348) (by decide +kernel) (by decide +kernel)
set_option maxRecDepth 20000 in
theorem mw_349 : Cond.methodLink RL 40 yX2_scan ∈ gw_all := gw_in (k := 349) (by decide +kernel) (by decide +kernel)
set_option maxRecDepth 20000 in
theorem mw_350 : Cond.instanceMethod yX2_scan ∈ gw_all := gw_in (k := 350) (by decide +kernel) (by decide +kernel)
set_option maxRecDepth 20000 in
theorem mw_351 : Cond.selects RX2 yX2_scan yX2_scan ∈ gw_all := gw_in (k := 351) (by decide +kernel) (by decide +kernel)
set_option maxRecDepth 20000 in
theorem mw_352 : Cond.code yX2_scan prog_1_method_9_code 3 (some .int) ∈ gw_all := gw_in (k := 352) (by decide +kernel) (by decide +kernel)
set_option maxRecDepth 20000 in
theorem mw_353 : Cond.methodLink RX2 87 yX2_isHalted ∈ gw_all := gw_in (k := 353) (by decide +kernel) (by decide +kernel)
set_option maxRecDepth 20000 in
theorem mw_355 : Cond.instanceMethod yX2_isHalted ∈ gw_all := gw_in (k := 355) (by decide +kernel) (by decide +kernel)
set_option maxRecDepth 20000 in
theorem mw_356 : Cond.code yX2_isHalted prog_1_method_30_code 1 (some .boolean) ∈ gw_all := gw_in (k := 356) (by decide +kernel) (by decide +kernel)
set_option maxRecDepth 20000 in
theorem mw_357 : Cond.classLink RX2 91 "java/lang/IllegalStateException" ∈ gw_all := gw_in (k := 357) (by decide +kernel) (by decide +kernel)
set_option maxRecDepth 20000 in
theorem mw_358 : Cond.instantiable "java/lang/IllegalStateException" 6 ∈ gw_all := gw_in (k := 358) (by decide +kernel) (by decide +kernel)
set_option maxRecDepth 20000 in
theorem mw_373 : Cond.methodLink RX2 98 yX2_scanOnce ∈ gw_all := gw_in (k := 373) (by decide +kernel) (by decide +kernel)
set_option maxRecDepth 20000 in
theorem mw_375 : Cond.instanceMethod yX2_scanOnce ∈ gw_all := gw_in (k := 375) (by decide +kernel) (by decide +kernel)
set_option maxRecDepth 20000 in
theorem mw_376 : Cond.code yX2_scanOnce prog_1_method_32_code 3 none ∈ gw_all := gw_in (k := 376) (by decide +kernel) (by decide +kernel)
set_option maxRecDepth 20000 in
theorem mw_377 : Cond.methodLink RX2 157 yX1_look ∈ gw_all := gw_in (k := 377) (by decide +kernel) (by decide +kernel)
set_option maxRecDepth 20000 in
theorem mw_378 : Cond.instanceMethod yX1_look ∈ gw_all := gw_in (k := 378) (by decide +kernel) (by decide +kernel)
set_option maxRecDepth 20000 in
theorem mw_379 : Cond.selects RX1 yX1_look yX1_look ∈ gw_all := gw_in (k := 379) (by decide +kernel) (by decide +kernel)
set_option maxRecDepth 20000 in
theorem mw_380 : Cond.code yX1_look prog_3_method_6_code 5 none ∈ gw_all := gw_in (k := 380) (by decide +kernel) (by decide +kernel)
set_option maxRecDepth 20000 in
theorem mw_381 : Cond.methodLink RX1 38 yX1_lookAtCell ∈ gw_all := gw_in (k := 381) (by decide +kernel) (by decide +kernel)
set_option maxRecDepth 20000 in
theorem mw_383 : Cond.instanceMethod yX1_lookAtCell ∈ gw_all := gw_in (k := 383) (by decide +kernel) (by decide +kernel)
set_option maxRecDepth 20000 in
theorem mw_384 : Cond.code yX1_lookAtCell prog_3_method_7_code 5 (some .boolean) ∈ gw_all := gw_in (k := 384) (by decide +kernel) (by decide +kernel)
set_option maxRecDepth 20000 in
theorem mw_385 : Cond.methodLink RX1 42 yX1_hadPower ∈ gw_all := gw_in (k := 385) (by decide +kernel) (by decide +kernel)
set_option maxRecDepth 20000 in
theorem mw_386 : Cond.instanceMethod yX1_hadPower ∈ gw_all := gw_in (k := 386) (by decide +kernel) (by decide +kernel)
set_option maxRecDepth 20000 in
theorem mw_387 : Cond.selects RX1 yX1_hadPower yX1_hadPower ∈ gw_all := gw_in (k := 387) (by decide +kernel) (by decide +kernel)
set_option maxRecDepth 20000 in
theorem mw_388 : Cond.code yX1_hadPower prog_3_method_5_code 3 (some .boolean) ∈ gw_all := gw_in (k := 388) (by decide +kernel) (by decide +kernel)
set_option maxRecDepth 20000 in
theorem mw_389 : Cond.methodLink RX1 46 yX1_join ∈ gw_all := gw_in (k := 389) (by decide +kernel) (by decide +kernel)
set_option maxRecDepth 20000 in
theorem mw_391 : Cond.instanceMethod yX1_join ∈ gw_all := gw_in (k := 391) (by decide +kernel) (by decide +kernel)
set_option maxRecDepth 20000 in
theorem mw_392 : Cond.code yX1_join prog_3_method_8_code 6 none ∈ gw_all := gw_in (k := 392) (by decide +kernel) (by decide +kernel)
set_option maxRecDepth 20000 in
theorem mw_393 : Cond.methodLink RX2 109 yX1_hadPower ∈ gw_all := gw_in (k := 393) (by decide +kernel) (by decide +kernel)
set_option maxRecDepth 20000 in
theorem mw_394 : Cond.methodLink RX2 168 yX2_drive ∈ gw_all := gw_in (k := 394) (by decide +kernel) (by decide +kernel)
set_option maxRecDepth 20000 in
theorem mw_396 : Cond.instanceMethod yX2_drive ∈ gw_all := gw_in (k := 396) (by decide +kernel) (by decide +kernel)
set_option maxRecDepth 20000 in
theorem mw_397 : Cond.code yX2_drive prog_1_method_33_code 4 none ∈ gw_all := gw_in (k := 397) (by decide +kernel) (by decide +kernel)
set_option maxRecDepth 20000 in
theorem mw_398 : Cond.methodLink RX2 172 yX0_run ∈ gw_all := gw_in (k := 398) (by decide +kernel) (by decide +kernel)
set_option maxRecDepth 20000 in
theorem mw_399 : Cond.instanceMethod yX0_run ∈ gw_all := gw_in (k := 399) (by decide +kernel) (by decide +kernel)
set_option maxRecDepth 20000 in
theorem mw_400 : Cond.selects RX0 yX0_run yX0_run ∈ gw_all := gw_in (k := 400) (by decide +kernel) (by decide +kernel)
set_option maxRecDepth 20000 in
theorem mw_401 : Cond.code yX0_run prog_2_method_4_code 5 (some .boolean) ∈ gw_all := gw_in (k := 401) (by decide +kernel) (by decide +kernel)
set_option maxRecDepth 20000 in
theorem mw_402 : Cond.methodLink RX0 50 yX0_delay ∈ gw_all := gw_in (k := 402) (by decide +kernel) (by decide +kernel)
set_option maxRecDepth 20000 in
theorem mw_404 : Cond.instanceMethod yX0_delay ∈ gw_all := gw_in (k := 404) (by decide +kernel) (by decide +kernel)
set_option maxRecDepth 20000 in
theorem mw_405 : Cond.code yX0_delay prog_2_method_5_code 3 none ∈ gw_all := gw_in (k := 405) (by decide +kernel) (by decide +kernel)
set_option maxRecDepth 20000 in
theorem mw_406 : Cond.methodLink RX0 54 yX0_countRuns ∈ gw_all := gw_in (k := 406) (by decide +kernel) (by decide +kernel)
set_option maxRecDepth 20000 in
theorem mw_408 : Cond.instanceMethod yX0_countRuns ∈ gw_all := gw_in (k := 408) (by decide +kernel) (by decide +kernel)
set_option maxRecDepth 20000 in
theorem mw_409 : Cond.code yX0_countRuns prog_2_method_6_code 3 none ∈ gw_all := gw_in (k := 409) (by decide +kernel) (by decide +kernel)
set_option maxRecDepth 20000 in
theorem mw_410 : Cond.methodLink RX0 57 yX0_regulate ∈ gw_all := gw_in (k := 410) (by decide +kernel) (by decide +kernel)
set_option maxRecDepth 20000 in
theorem mw_412 : Cond.instanceMethod yX0_regulate ∈ gw_all := gw_in (k := 412) (by decide +kernel) (by decide +kernel)
set_option maxRecDepth 20000 in
theorem mw_413 : Cond.code yX0_regulate prog_2_method_8_code 7 (some .boolean) ∈ gw_all := gw_in (k := 413) (by decide +kernel) (by decide +kernel)
set_option maxRecDepth 20000 in
theorem mw_414 : Cond.constantDouble RX0 73 4593671619917905920 ∈ gw_all := gw_in (k := 414) (by decide +kernel) (by decide +kernel)
set_option maxRecDepth 20000 in
theorem mw_415 : Cond.constantDouble RX0 75 13875379345695965184 ∈ gw_all := gw_in (k := 415) (by decide +kernel) (by decide +kernel)
set_option maxRecDepth 20000 in
theorem mw_416 : Cond.constantDouble RX0 77 4652007308841189376 ∈ gw_all := gw_in (k := 416) (by decide +kernel) (by decide +kernel)
set_option maxRecDepth 20000 in
theorem mw_417 : Cond.methodLink RX0 69 yX0_limited ∈ gw_all := gw_in (k := 417) (by decide +kernel) (by decide +kernel)
set_option maxRecDepth 20000 in
theorem mw_418 : Cond.static yX0_limited ∈ gw_all := gw_in (k := 418) (by decide +kernel) (by decide +kernel)
set_option maxRecDepth 20000 in
theorem mw_419 : Cond.code yX0_limited prog_2_method_10_code 6 (some .double) ∈ gw_all := gw_in (k := 419) (by decide +kernel) (by decide +kernel)
set_option maxRecDepth 20000 in
theorem mw_420 : Cond.constantDouble RX0 79 4602678819172646912 ∈ gw_all := gw_in (k := 420) (by decide +kernel) (by decide +kernel)
set_option maxRecDepth 20000 in
theorem mw_421 : Cond.methodLink RX0 65 yX0_keep ∈ gw_all := gw_in (k := 421) (by decide +kernel) (by decide +kernel)
set_option maxRecDepth 20000 in
theorem mw_423 : Cond.instanceMethod yX0_keep ∈ gw_all := gw_in (k := 423) (by decide +kernel) (by decide +kernel)
set_option maxRecDepth 20000 in
theorem mw_424 : Cond.code yX0_keep prog_2_method_9_code 4 (some .boolean) ∈ gw_all := gw_in (k := 424) (by decide +kernel) (by decide +kernel)
set_option maxRecDepth 20000 in
theorem mw_426 : Cond.methodLink RX0 61 yX0_calculate ∈ gw_all := gw_in (k := 426) (by decide +kernel) (by decide +kernel)
set_option maxRecDepth 20000 in
theorem mw_428 : Cond.instanceMethod yX0_calculate ∈ gw_all := gw_in (k := 428) (by decide +kernel) (by decide +kernel)
set_option maxRecDepth 20000 in
theorem mw_429 : Cond.code yX0_calculate prog_2_method_7_code 6 (some .boolean) ∈ gw_all := gw_in (k := 429) (by decide +kernel) (by decide +kernel)
set_option maxRecDepth 20000 in
theorem mw_430 : Cond.methodLink RX2 176 yX2_takeFault ∈ gw_all := gw_in (k := 430) (by decide +kernel) (by decide +kernel)
set_option maxRecDepth 20000 in
theorem mw_432 : Cond.instanceMethod yX2_takeFault ∈ gw_all := gw_in (k := 432) (by decide +kernel) (by decide +kernel)
set_option maxRecDepth 20000 in
theorem mw_433 : Cond.code yX2_takeFault prog_1_method_34_code 3 none ∈ gw_all := gw_in (k := 433) (by decide +kernel) (by decide +kernel)
set_option maxRecDepth 20000 in
theorem mw_434 : Cond.classLink RX2 101 "java/lang/ArithmeticException" ∈ gw_all := gw_in (k := 434) (by decide +kernel) (by decide +kernel)
set_option maxRecDepth 20000 in
theorem mw_435 : Cond.instantiable "java/lang/ArithmeticException" 6 ∈ gw_all := gw_in (k := 435) (by decide +kernel) (by decide +kernel)
set_option maxRecDepth 20000 in
theorem mw_450 : Cond.methodLink RL 114 yL_bit ∈ gw_all := gw_in (k := 450) (by decide +kernel) (by decide +kernel)
set_option maxRecDepth 20000 in
theorem mw_451 : Cond.static yL_bit ∈ gw_all := gw_in (k := 451) (by decide +kernel) (by decide +kernel)
set_option maxRecDepth 20000 in
theorem mw_452 : Cond.codeWith yL_bit method_11_code 4 (some .int) [(0, 16, 19, 15)] ∈ gw_all := gw_in (k := 452) (by decide +kernel) (by decide +kernel)
set_option maxRecDepth 20000 in
theorem mw_453 : Cond.methodLink RL 48 yX2_bit ∈ gw_all := gw_in (k := 453) (by decide +kernel) (by decide +kernel)
set_option maxRecDepth 20000 in
theorem mw_454 : Cond.instanceMethod yX2_bit ∈ gw_all := gw_in (k := 454) (by decide +kernel) (by decide +kernel)
set_option maxRecDepth 20000 in
theorem mw_455 : Cond.selects RX2 yX2_bit yX2_bit ∈ gw_all := gw_in (k := 455) (by decide +kernel) (by decide +kernel)
set_option maxRecDepth 20000 in
theorem mw_456 : Cond.code yX2_bit prog_1_method_11_code 2 (some .boolean) ∈ gw_all := gw_in (k := 456) (by decide +kernel) (by decide +kernel)
set_option maxRecDepth 20000 in
theorem mw_457 : Cond.methodLink RL 117 yL_register ∈ gw_all := gw_in (k := 457) (by decide +kernel) (by decide +kernel)
set_option maxRecDepth 20000 in
theorem mw_458 : Cond.static yL_register ∈ gw_all := gw_in (k := 458) (by decide +kernel) (by decide +kernel)
set_option maxRecDepth 20000 in
theorem mw_459 : Cond.codeWith yL_register method_12_code 4 (some .int) [(0, 8, 11, 15)] ∈ gw_all := gw_in (k := 459) (by decide +kernel) (by decide +kernel)
set_option maxRecDepth 20000 in
theorem mw_460 : Cond.methodLink RL 52 yX2_register ∈ gw_all := gw_in (k := 460) (by decide +kernel) (by decide +kernel)
set_option maxRecDepth 20000 in
theorem mw_461 : Cond.instanceMethod yX2_register ∈ gw_all := gw_in (k := 461) (by decide +kernel) (by decide +kernel)
set_option maxRecDepth 20000 in
theorem mw_462 : Cond.selects RX2 yX2_register yX2_register ∈ gw_all := gw_in (k := 462) (by decide +kernel) (by decide +kernel)
set_option maxRecDepth 20000 in
theorem mw_463 : Cond.code yX2_register prog_1_method_12_code 2 (some .double) ∈ gw_all := gw_in (k := 463) (by decide +kernel) (by decide +kernel)
set_option maxRecDepth 20000 in
theorem mw_464 : Cond.methodLink RL 121 yL_power ∈ gw_all := gw_in (k := 464) (by decide +kernel) (by decide +kernel)
set_option maxRecDepth 20000 in
theorem mw_465 : Cond.static yL_power ∈ gw_all := gw_in (k := 465) (by decide +kernel) (by decide +kernel)
set_option maxRecDepth 20000 in
theorem mw_466 : Cond.codeWith yL_power method_13_code 6 (some .int) [(0, 19, 22, 15)] ∈ gw_all := gw_in (k := 466) (by decide +kernel) (by decide +kernel)
set_option maxRecDepth 20000 in
theorem mw_467 : Cond.methodLink RL 56 yX2_power ∈ gw_all := gw_in (k := 467) (by decide +kernel) (by decide +kernel)
set_option maxRecDepth 20000 in
theorem mw_468 : Cond.instanceMethod yX2_power ∈ gw_all := gw_in (k := 468) (by decide +kernel) (by decide +kernel)
set_option maxRecDepth 20000 in
theorem mw_469 : Cond.selects RX2 yX2_power yX2_power ∈ gw_all := gw_in (k := 469) (by decide +kernel) (by decide +kernel)
set_option maxRecDepth 20000 in
theorem mw_470 : Cond.code yX2_power prog_1_method_13_code 4 (some .boolean) ∈ gw_all := gw_in (k := 470) (by decide +kernel) (by decide +kernel)
set_option maxRecDepth 20000 in
theorem mw_471 : Cond.methodLink RL 125 yL_told ∈ gw_all := gw_in (k := 471) (by decide +kernel) (by decide +kernel)
set_option maxRecDepth 20000 in
theorem mw_472 : Cond.static yL_told ∈ gw_all := gw_in (k := 472) (by decide +kernel) (by decide +kernel)
set_option maxRecDepth 20000 in
theorem mw_473 : Cond.codeWith yL_told method_14_code 5 (some .int) [(0, 10, 13, 13), (0, 10, 17, 15)] ∈ gw_all := gw_in (k := 473) (by decide +kernel) (by decide +kernel)
set_option maxRecDepth 20000 in
theorem mw_474 : Cond.methodLink RL 60 yX2_told ∈ gw_all := gw_in (k := 474) (by decide +kernel) (by decide +kernel)
set_option maxRecDepth 20000 in
theorem mw_475 : Cond.instanceMethod yX2_told ∈ gw_all := gw_in (k := 475) (by decide +kernel) (by decide +kernel)
set_option maxRecDepth 20000 in
theorem mw_476 : Cond.selects RX2 yX2_told yX2_told ∈ gw_all := gw_in (k := 476) (by decide +kernel) (by decide +kernel)
set_option maxRecDepth 20000 in
theorem mw_477 : Cond.code yX2_told prog_1_method_14_code 3 (some .int) ∈ gw_all := gw_in (k := 477) (by decide +kernel) (by decide +kernel)
set_option maxRecDepth 20000 in
theorem mw_478 : Cond.methodLink RX2 112 yX0_tell ∈ gw_all := gw_in (k := 478) (by decide +kernel) (by decide +kernel)
set_option maxRecDepth 20000 in
theorem mw_479 : Cond.instanceMethod yX0_tell ∈ gw_all := gw_in (k := 479) (by decide +kernel) (by decide +kernel)
set_option maxRecDepth 20000 in
theorem mw_480 : Cond.selects RX0 yX0_tell yX0_tell ∈ gw_all := gw_in (k := 480) (by decide +kernel) (by decide +kernel)
set_option maxRecDepth 20000 in
theorem mw_481 : Cond.code yX0_tell prog_2_method_3_code 2 (some .int) ∈ gw_all := gw_in (k := 481) (by decide +kernel) (by decide +kernel)
set_option maxRecDepth 20000 in
theorem mw_482 : Cond.methodLink RL 129 yL_count ∈ gw_all := gw_in (k := 482) (by decide +kernel) (by decide +kernel)
set_option maxRecDepth 20000 in
theorem mw_483 : Cond.static yL_count ∈ gw_all := gw_in (k := 483) (by decide +kernel) (by decide +kernel)
set_option maxRecDepth 20000 in
theorem mw_484 : Cond.codeWith yL_count method_15_code 4 (some .int) [(0, 9, 12, 13)] ∈ gw_all := gw_in (k := 484) (by decide +kernel) (by decide +kernel)
set_option maxRecDepth 20000 in
theorem mw_485 : Cond.methodLink RL 64 yX2_count ∈ gw_all := gw_in (k := 485) (by decide +kernel) (by decide +kernel)
set_option maxRecDepth 20000 in
theorem mw_486 : Cond.instanceMethod yX2_count ∈ gw_all := gw_in (k := 486) (by decide +kernel) (by decide +kernel)
set_option maxRecDepth 20000 in
theorem mw_487 : Cond.selects RX2 yX2_count yX2_count ∈ gw_all := gw_in (k := 487) (by decide +kernel) (by decide +kernel)
set_option maxRecDepth 20000 in
theorem mw_488 : Cond.code yX2_count prog_1_method_15_code 2 (some .int) ∈ gw_all := gw_in (k := 488) (by decide +kernel) (by decide +kernel)
set_option maxRecDepth 20000 in
theorem mw_489 : Cond.methodLink RX2 116 yX2_bitsOn ∈ gw_all := gw_in (k := 489) (by decide +kernel) (by decide +kernel)
set_option maxRecDepth 20000 in
theorem mw_491 : Cond.instanceMethod yX2_bitsOn ∈ gw_all := gw_in (k := 491) (by decide +kernel) (by decide +kernel)
set_option maxRecDepth 20000 in
theorem mw_492 : Cond.code yX2_bitsOn prog_1_method_31_code 3 (some .int) ∈ gw_all := gw_in (k := 492) (by decide +kernel) (by decide +kernel)
set_option maxRecDepth 20000 in
theorem mw_493 : Cond.classLink RL 68 RX3 ∈ gw_all := gw_in (k := 493) (by decide +kernel) (by decide +kernel)
set_option maxRecDepth 20000 in
theorem mw_494 : Cond.instantiable RX3 28 ∈ gw_all := gw_in (k := 494) (by decide +kernel) (by decide +kernel)
set_option maxRecDepth 20000 in
theorem mw_495 : Cond.methodLink RL 70 yX3_init ∈ gw_all := gw_in (k := 495) (by decide +kernel) (by decide +kernel)
set_option maxRecDepth 20000 in
theorem mw_496 : Cond.instanceMethod yX3_init ∈ gw_all := gw_in (k := 496) (by decide +kernel) (by decide +kernel)
set_option maxRecDepth 20000 in
theorem mw_497 : Cond.code yX3_init prog_5_method_1_code 1 none ∈ gw_all := gw_in (k := 497) (by decide +kernel) (by decide +kernel)
set_option maxRecDepth 20000 in
theorem mw_498 : Cond.methodLink RX3 1 objectInit ∈ gw_all := gw_in (k := 498) (by decide +kernel) (by decide +kernel)
set_option maxRecDepth 20000 in
theorem mw_499 : Cond.fieldLink RX3 7 "ScanForgeModel" "bit" "[Z" ∈ gw_all := gw_in (k := 499) (by decide +kernel) (by decide +kernel)
set_option maxRecDepth 20000 in
theorem mw_500 : Cond.fieldLink RX3 13 "ScanForgeModel" "was" "[Z" ∈ gw_all := gw_in (k := 500) (by decide +kernel) (by decide +kernel)
set_option maxRecDepth 20000 in
theorem mw_501 : Cond.fieldLink RX3 16 "ScanForgeModel" "link" "[Z" ∈ gw_all := gw_in (k := 501) (by decide +kernel) (by decide +kernel)
set_option maxRecDepth 20000 in
theorem mw_502 : Cond.fieldLink RX3 19 "ScanForgeModel" "power" "[Z" ∈ gw_all := gw_in (k := 502) (by decide +kernel) (by decide +kernel)
