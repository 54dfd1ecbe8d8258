set_option maxRecDepth 100000 in
theorem pw_263 : Cond.methodLink RX2 23 Lib.Math.min.name ∈ lw_tbl := List.mem_of_getElem? (i := 263) rfl
set_option maxRecDepth 100000 in
theorem pw_264 : Cond.static Lib.Math.min.name ∈ lw_tbl := List.mem_of_getElem? (i := 264) rfl
set_option maxRecDepth 100000 in
theorem pw_265 : Cond.code Lib.Math.min.name Lib.Math.min.code 2 (some .int) ∈ lw_tbl := List.mem_of_getElem? (i := 265) rfl
set_option maxRecDepth 100000 in
theorem pw_266 : Cond.methodLink RX2 41 arraycopyName ∈ lw_tbl := List.mem_of_getElem? (i := 266) rfl
set_option maxRecDepth 100000 in
theorem pw_275 : Cond.methodLink RX7 104 yX7_isPlace ∈ lw_tbl := List.mem_of_getElem? (i := 275) rfl
set_option maxRecDepth 100000 in
theorem pw_276 : Cond.static yX7_isPlace ∈ lw_tbl := List.mem_of_getElem? (i := 276) rfl
set_option maxRecDepth 100000 in
theorem pw_277 : Cond.code yX7_isPlace cX7_isPlace 2 (some .boolean) ∈ lw_tbl := List.mem_of_getElem? (i := 277) rfl
set_option maxRecDepth 100000 in
theorem pw_278 : Cond.methodLink RX7 107 yX3_at ∈ lw_tbl := List.mem_of_getElem? (i := 278) rfl
set_option maxRecDepth 100000 in
theorem pw_279 : Cond.instanceMethod yX3_at ∈ lw_tbl := List.mem_of_getElem? (i := 279) rfl
set_option maxRecDepth 100000 in
theorem pw_280 : Cond.selects RX3 yX3_at yX3_at ∈ lw_tbl := List.mem_of_getElem? (i := 280) rfl
set_option maxRecDepth 100000 in
theorem pw_281 : Cond.code yX3_at cX3_at 3 (some .int) ∈ lw_tbl := List.mem_of_getElem? (i := 281) rfl
set_option maxRecDepth 100000 in
theorem pw_282 : Cond.methodLink RX3 15 yX3_squaresAt ∈ lw_tbl := List.mem_of_getElem? (i := 282) rfl
set_option maxRecDepth 100000 in
theorem pw_283 : Cond.instanceMethod yX3_squaresAt ∈ lw_tbl := List.mem_of_getElem? (i := 283) rfl
set_option maxRecDepth 100000 in
theorem pw_284 : Cond.selects RX3 yX3_squaresAt yX3_squaresAt ∈ lw_tbl := List.mem_of_getElem? (i := 284) rfl
set_option maxRecDepth 100000 in
theorem pw_285 : Cond.code yX3_squaresAt cX3_squaresAt 3 (some .int) ∈ lw_tbl := List.mem_of_getElem? (i := 285) rfl
set_option maxRecDepth 100000 in
theorem pw_291 : Cond.instanceMethod yX3_byX ∈ lw_tbl := List.mem_of_getElem? (i := 291) rfl
set_option maxRecDepth 100000 in
theorem pw_292 : Cond.selects RX3 yX3_byX yX3_byX ∈ lw_tbl := List.mem_of_getElem? (i := 292) rfl
set_option maxRecDepth 100000 in
theorem pw_293 : Cond.code yX3_byX cX3_byX 3 (some .int) ∈ lw_tbl := List.mem_of_getElem? (i := 293) rfl
set_option maxRecDepth 100000 in
theorem pw_295 : Cond.instanceMethod yX3_byY ∈ lw_tbl := List.mem_of_getElem? (i := 295) rfl
set_option maxRecDepth 100000 in
theorem pw_296 : Cond.selects RX3 yX3_byY yX3_byY ∈ lw_tbl := List.mem_of_getElem? (i := 296) rfl
set_option maxRecDepth 100000 in
theorem pw_297 : Cond.code yX3_byY cX3_byY 3 (some .int) ∈ lw_tbl := List.mem_of_getElem? (i := 297) rfl
set_option maxRecDepth 100000 in
theorem pw_338 : Cond.methodLink RX7 292 yX1_fits ∈ lw_tbl := List.mem_of_getElem? (i := 338) rfl
set_option maxRecDepth 100000 in
theorem pw_339 : Cond.instanceMethod yX1_fits ∈ lw_tbl := List.mem_of_getElem? (i := 339) rfl
set_option maxRecDepth 100000 in
theorem pw_340 : Cond.selects RX1 yX1_fits yX1_fits ∈ lw_tbl := List.mem_of_getElem? (i := 340) rfl
set_option maxRecDepth 100000 in
theorem pw_341 : Cond.code yX1_fits cX1_fits 1 (some .boolean) ∈ lw_tbl := List.mem_of_getElem? (i := 341) rfl
set_option maxRecDepth 100000 in
theorem pw_342 : Cond.methodLink RX1 25 yX3_fits ∈ lw_tbl := List.mem_of_getElem? (i := 342) rfl
set_option maxRecDepth 100000 in
theorem pw_343 : Cond.instanceMethod yX3_fits ∈ lw_tbl := List.mem_of_getElem? (i := 343) rfl
set_option maxRecDepth 100000 in
theorem pw_344 : Cond.selects RX3 yX3_fits yX3_fits ∈ lw_tbl := List.mem_of_getElem? (i := 344) rfl
set_option maxRecDepth 100000 in
theorem pw_345 : Cond.code yX3_fits cX3_fits 2 (some .boolean) ∈ lw_tbl := List.mem_of_getElem? (i := 345) rfl
set_option maxRecDepth 100000 in
theorem pw_347 : Cond.constant RX7 159 (-1000003) ∈ lw_tbl := List.mem_of_getElem? (i := 347) rfl
set_option maxRecDepth 100000 in
theorem pw_352 : Cond.methodLink RX7 143 yX7_isSlot ∈ lw_tbl := List.mem_of_getElem? (i := 352) rfl
set_option maxRecDepth 100000 in
theorem pw_353 : Cond.static yX7_isSlot ∈ lw_tbl := List.mem_of_getElem? (i := 353) rfl
set_option maxRecDepth 100000 in
theorem pw_354 : Cond.code yX7_isSlot cX7_isSlot 1 (some .boolean) ∈ lw_tbl := List.mem_of_getElem? (i := 354) rfl
set_option maxRecDepth 100000 in
theorem pw_355 : Cond.constant RX7 146 (-1000006) ∈ lw_tbl := List.mem_of_getElem? (i := 355) rfl
set_option maxRecDepth 100000 in
theorem pw_364 : Cond.methodLink RX7 150 yX1_isRest ∈ lw_tbl := List.mem_of_getElem? (i := 364) rfl
set_option maxRecDepth 100000 in
theorem pw_365 : Cond.instanceMethod yX1_isRest ∈ lw_tbl := List.mem_of_getElem? (i := 365) rfl
set_option maxRecDepth 100000 in
theorem pw_366 : Cond.selects RX1 yX1_isRest yX1_isRest ∈ lw_tbl := List.mem_of_getElem? (i := 366) rfl
set_option maxRecDepth 100000 in
theorem pw_367 : Cond.code yX1_isRest cX1_isRest 3 (some .boolean) ∈ lw_tbl := List.mem_of_getElem? (i := 367) rfl
set_option maxRecDepth 100000 in
theorem pw_368 : Cond.methodLink RX1 33 yX3_at ∈ lw_tbl := List.mem_of_getElem? (i := 368) rfl
set_option maxRecDepth 100000 in
theorem pw_377 : Cond.methodLink RX7 153 yX1_sortAt ∈ lw_tbl := List.mem_of_getElem? (i := 377) rfl
set_option maxRecDepth 100000 in
theorem pw_378 : Cond.instanceMethod yX1_sortAt ∈ lw_tbl := List.mem_of_getElem? (i := 378) rfl
set_option maxRecDepth 100000 in
theorem pw_379 : Cond.selects RX1 yX1_sortAt yX1_sortAt ∈ lw_tbl := List.mem_of_getElem? (i := 379) rfl
set_option maxRecDepth 100000 in
theorem pw_380 : Cond.code yX1_sortAt cX1_sortAt 5 (some .int) ∈ lw_tbl := List.mem_of_getElem? (i := 380) rfl
set_option maxRecDepth 100000 in
theorem pw_381 : Cond.methodLink RX1 37 yX3_byX ∈ lw_tbl := List.mem_of_getElem? (i := 381) rfl
set_option maxRecDepth 100000 in
theorem pw_382 : Cond.methodLink RX1 40 yX3_byY ∈ lw_tbl := List.mem_of_getElem? (i := 382) rfl
set_option maxRecDepth 100000 in
theorem pw_404 : Cond.methodLink RL 81 yX7_simple ∈ lw_tbl := List.mem_of_getElem? (i := 404) rfl
set_option maxRecDepth 100000 in
theorem pw_405 : Cond.instanceMethod yX7_simple ∈ lw_tbl := List.mem_of_getElem? (i := 405) rfl
set_option maxRecDepth 100000 in
theorem pw_406 : Cond.selects RX7 yX7_simple yX7_simple ∈ lw_tbl := List.mem_of_getElem? (i := 406) rfl
set_option maxRecDepth 100000 in
theorem pw_407 : (.code yX7_simple cX7_simple 3 (some .int) : Cond) ∈ lw_tbl := List.mem_of_getElem? (i := 407) rfl
set_option maxRecDepth 100000 in
theorem pw_408 : Cond.methodLink RX7 172 yX0_isLeft ∈ lw_tbl := List.mem_of_getElem? (i := 408) rfl
set_option maxRecDepth 100000 in
theorem pw_409 : Cond.instanceMethod yX0_isLeft ∈ lw_tbl := List.mem_of_getElem? (i := 409) rfl
set_option maxRecDepth 100000 in
theorem pw_410 : Cond.selects RX0 yX0_isLeft yX0_isLeft ∈ lw_tbl := List.mem_of_getElem? (i := 410) rfl
set_option maxRecDepth 100000 in
theorem pw_411 : Cond.code yX0_isLeft cX0_isLeft 1 (some .boolean) ∈ lw_tbl := List.mem_of_getElem? (i := 411) rfl
set_option maxRecDepth 100000 in
theorem pw_412 : Cond.methodLink RX0 35 yX0_isSimple ∈ lw_tbl := List.mem_of_getElem? (i := 412) rfl
set_option maxRecDepth 100000 in
theorem pw_413 : Cond.instanceMethod yX0_isSimple ∈ lw_tbl := List.mem_of_getElem? (i := 413) rfl
set_option maxRecDepth 100000 in
theorem pw_414 : Cond.selects RX0 yX0_isSimple yX0_isSimple ∈ lw_tbl := List.mem_of_getElem? (i := 414) rfl
set_option maxRecDepth 100000 in
theorem pw_415 : Cond.code yX0_isSimple cX0_isSimple 3 (some .boolean) ∈ lw_tbl := List.mem_of_getElem? (i := 415) rfl
set_option maxRecDepth 100000 in
theorem pw_416 : Cond.methodLink RX0 43 yX0_areAlike ∈ lw_tbl := List.mem_of_getElem? (i := 416) rfl
set_option maxRecDepth 100000 in
theorem pw_417 : Cond.instanceMethod yX0_areAlike ∈ lw_tbl := List.mem_of_getElem? (i := 417) rfl
set_option maxRecDepth 100000 in
theorem pw_418 : Cond.selects RX0 yX0_areAlike yX0_areAlike ∈ lw_tbl := List.mem_of_getElem? (i := 418) rfl
set_option maxRecDepth 100000 in
theorem pw_419 : Cond.code yX0_areAlike cX0_areAlike 3 (some .boolean) ∈ lw_tbl := List.mem_of_getElem? (i := 419) rfl
set_option maxRecDepth 100000 in
theorem pw_420 : Cond.methodLink RX0 47 yX0_clash ∈ lw_tbl := List.mem_of_getElem? (i := 420) rfl
set_option maxRecDepth 100000 in
theorem pw_421 : Cond.instanceMethod yX0_clash ∈ lw_tbl := List.mem_of_getElem? (i := 421) rfl
set_option maxRecDepth 100000 in
theorem pw_422 : Cond.selects RX0 yX0_clash yX0_clash ∈ lw_tbl := List.mem_of_getElem? (i := 422) rfl
set_option maxRecDepth 100000 in
theorem pw_423 : Cond.code yX0_clash cX0_clash 3 (some .boolean) ∈ lw_tbl := List.mem_of_getElem? (i := 423) rfl
set_option maxRecDepth 100000 in
theorem pw_424 : Cond.methodLink RX0 50 yX0_foldsBack ∈ lw_tbl := List.mem_of_getElem? (i := 424) rfl
set_option maxRecDepth 100000 in
theorem pw_425 : Cond.instanceMethod yX0_foldsBack ∈ lw_tbl := List.mem_of_getElem? (i := 425) rfl
set_option maxRecDepth 100000 in
theorem pw_426 : Cond.selects RX0 yX0_foldsBack yX0_foldsBack ∈ lw_tbl := List.mem_of_getElem? (i := 426) rfl
set_option maxRecDepth 100000 in
theorem pw_427 : Cond.code yX0_foldsBack cX0_foldsBack 3 (some .boolean) ∈ lw_tbl := List.mem_of_getElem? (i := 427) rfl
set_option maxRecDepth 100000 in
theorem pw_428 : Cond.methodLink RX0 59 yX0_isOn ∈ lw_tbl := List.mem_of_getElem? (i := 428) rfl
set_option maxRecDepth 100000 in
theorem pw_429 : Cond.instanceMethod yX0_isOn ∈ lw_tbl := List.mem_of_getElem? (i := 429) rfl
set_option maxRecDepth 100000 in
theorem pw_430 : Cond.selects RX0 yX0_isOn yX0_isOn ∈ lw_tbl := List.mem_of_getElem? (i := 430) rfl
set_option maxRecDepth 100000 in
theorem pw_431 : Cond.code yX0_isOn cX0_isOn 4 (some .boolean) ∈ lw_tbl := List.mem_of_getElem? (i := 431) rfl
set_option maxRecDepth 100000 in
theorem pw_432 : Cond.methodLink RX0 22 yX0_leftOf ∈ lw_tbl := List.mem_of_getElem? (i := 432) rfl
set_option maxRecDepth 100000 in
theorem pw_433 : Cond.instanceMethod yX0_leftOf ∈ lw_tbl := List.mem_of_getElem? (i := 433) rfl
set_option maxRecDepth 100000 in
theorem pw_434 : Cond.selects RX0 yX0_leftOf yX0_leftOf ∈ lw_tbl := List.mem_of_getElem? (i := 434) rfl
set_option maxRecDepth 100000 in
theorem pw_435 : Cond.code yX0_leftOf cX0_leftOf 4 (some .int) ∈ lw_tbl := List.mem_of_getElem? (i := 435) rfl
set_option maxRecDepth 100000 in
theorem pw_436 : Cond.methodLink RX0 26 Lib.Math.min.name ∈ lw_tbl := List.mem_of_getElem? (i := 436) rfl
set_option maxRecDepth 100000 in
theorem pw_437 : Cond.methodLink RX0 32 Lib.Math.max.name ∈ lw_tbl := List.mem_of_getElem? (i := 437) rfl
set_option maxRecDepth 100000 in
theorem pw_438 : Cond.static Lib.Math.max.name ∈ lw_tbl := List.mem_of_getElem? (i := 438) rfl
set_option maxRecDepth 100000 in
theorem pw_439 : Cond.code Lib.Math.max.name Lib.Math.max.code 2 (some .int) ∈ lw_tbl := List.mem_of_getElem? (i := 439) rfl
set_option maxRecDepth 100000 in
theorem pw_440 : Cond.methodLink RX0 53 yX0_parts ∈ lw_tbl := List.mem_of_getElem? (i := 440) rfl
set_option maxRecDepth 100000 in
theorem pw_441 : Cond.instanceMethod yX0_parts ∈ lw_tbl := List.mem_of_getElem? (i := 441) rfl
set_option maxRecDepth 100000 in
theorem pw_442 : Cond.selects RX0 yX0_parts yX0_parts ∈ lw_tbl := List.mem_of_getElem? (i := 442) rfl
set_option maxRecDepth 100000 in
theorem pw_443 : Cond.code yX0_parts cX0_parts 5 (some .boolean) ∈ lw_tbl := List.mem_of_getElem? (i := 443) rfl
set_option maxRecDepth 100000 in
theorem pw_444 : Cond.methodLink RX0 56 yX0_touches ∈ lw_tbl := List.mem_of_getElem? (i := 444) rfl
set_option maxRecDepth 100000 in
theorem pw_445 : Cond.instanceMethod yX0_touches ∈ lw_tbl := List.mem_of_getElem? (i := 445) rfl
set_option maxRecDepth 100000 in
theorem pw_446 : Cond.selects RX0 yX0_touches yX0_touches ∈ lw_tbl := List.mem_of_getElem? (i := 446) rfl
set_option maxRecDepth 100000 in
theorem pw_447 : Cond.code yX0_touches cX0_touches 3 (some .boolean) ∈ lw_tbl := List.mem_of_getElem? (i := 447) rfl
set_option maxRecDepth 100000 in
theorem pw_448 : Cond.methodLink RX0 39 yX0_doubleArea ∈ lw_tbl := List.mem_of_getElem? (i := 448) rfl
set_option maxRecDepth 100000 in
theorem pw_449 : Cond.instanceMethod yX0_doubleArea ∈ lw_tbl := List.mem_of_getElem? (i := 449) rfl
set_option maxRecDepth 100000 in
theorem pw_450 : Cond.selects RX0 yX0_doubleArea yX0_doubleArea ∈ lw_tbl := List.mem_of_getElem? (i := 450) rfl
set_option maxRecDepth 100000 in
theorem pw_451 : Cond.code yX0_doubleArea cX0_doubleArea 3 (some .int) ∈ lw_tbl := List.mem_of_getElem? (i := 451) rfl
set_option maxRecDepth 100000 in
theorem pw_452 : Cond.methodLink RX7 176 yX0_isSimple ∈ lw_tbl := List.mem_of_getElem? (i := 452) rfl
set_option maxRecDepth 100000 in
theorem pw_453 : Cond.methodLink RL 86 yX7_area ∈ lw_tbl := List.mem_of_getElem? (i := 453) rfl
set_option maxRecDepth 100000 in
theorem pw_454 : Cond.instanceMethod yX7_area ∈ lw_tbl := List.mem_of_getElem? (i := 454) rfl
set_option maxRecDepth 100000 in
theorem pw_455 : Cond.selects RX7 yX7_area yX7_area ∈ lw_tbl := List.mem_of_getElem? (i := 455) rfl
set_option maxRecDepth 100000 in
theorem pw_456 : (.code yX7_area cX7_area 1 (some .int) : Cond) ∈ lw_tbl := List.mem_of_getElem? (i := 456) rfl
set_option maxRecDepth 100000 in
theorem pw_457 : (.methodLink RX7 179 yX0_doubleArea : Cond) ∈ lw_tbl := List.mem_of_getElem? (i := 457) rfl
set_option maxRecDepth 100000 in
theorem pw_458 : Cond.methodLink RL 90 yX7_within ∈ lw_tbl := List.mem_of_getElem? (i := 458) rfl
set_option maxRecDepth 100000 in
theorem pw_459 : Cond.instanceMethod yX7_within ∈ lw_tbl := List.mem_of_getElem? (i := 459) rfl
set_option maxRecDepth 100000 in
theorem pw_460 : Cond.selects RX7 yX7_within yX7_within ∈ lw_tbl := List.mem_of_getElem? (i := 460) rfl
set_option maxRecDepth 100000 in
theorem pw_461 : (.code yX7_within cX7_within 3 (some .int) : Cond) ∈ lw_tbl := List.mem_of_getElem? (i := 461) rfl
set_option maxRecDepth 100000 in
theorem pw_462 : Cond.constant RX7 182 (-1000004) ∈ lw_tbl := List.mem_of_getElem? (i := 462) rfl
set_option maxRecDepth 100000 in
theorem pw_463 : Cond.methodLink RX7 183 yX0_whereIs ∈ lw_tbl := List.mem_of_getElem? (i := 463) rfl
set_option maxRecDepth 100000 in
theorem pw_464 : Cond.instanceMethod yX0_whereIs ∈ lw_tbl := List.mem_of_getElem? (i := 464) rfl
set_option maxRecDepth 100000 in
theorem pw_465 : Cond.selects RX0 yX0_whereIs yX0_whereIs ∈ lw_tbl := List.mem_of_getElem? (i := 465) rfl
set_option maxRecDepth 100000 in
theorem pw_466 : Cond.code yX0_whereIs cX0_whereIs 5 (some .int) ∈ lw_tbl := List.mem_of_getElem? (i := 466) rfl
set_option maxRecDepth 100000 in
theorem pw_467 : Cond.methodLink RX0 63 yX0_passesRightOf ∈ lw_tbl := List.mem_of_getElem? (i := 467) rfl
set_option maxRecDepth 100000 in
theorem pw_468 : Cond.instanceMethod yX0_passesRightOf ∈ lw_tbl := List.mem_of_getElem? (i := 468) rfl
set_option maxRecDepth 100000 in
theorem pw_469 : Cond.selects RX0 yX0_passesRightOf yX0_passesRightOf ∈ lw_tbl := List.mem_of_getElem? (i := 469) rfl
set_option maxRecDepth 100000 in
theorem pw_470 : Cond.code yX0_passesRightOf cX0_passesRightOf 6 (some .boolean) ∈ lw_tbl := List.mem_of_getElem? (i := 470) rfl
set_option maxRecDepth 100000 in
theorem pw_471 : Cond.methodLink RL 94 yX7_across ∈ lw_tbl := List.mem_of_getElem? (i := 471) rfl
set_option maxRecDepth 100000 in
theorem pw_472 : Cond.instanceMethod yX7_across ∈ lw_tbl := List.mem_of_getElem? (i := 472) rfl
set_option maxRecDepth 100000 in
theorem pw_473 : Cond.selects RX7 yX7_across yX7_across ∈ lw_tbl := List.mem_of_getElem? (i := 473) rfl
set_option maxRecDepth 100000 in
theorem pw_474 : (.code yX7_across cX7_across 3 (some .int) : Cond) ∈ lw_tbl := List.mem_of_getElem? (i := 474) rfl
set_option maxRecDepth 100000 in
theorem pw_475 : Cond.methodLink RX7 186 yX7_refusalOfPiece ∈ lw_tbl := List.mem_of_getElem? (i := 475) rfl
set_option maxRecDepth 100000 in
theorem pw_477 : Cond.instanceMethod yX7_refusalOfPiece ∈ lw_tbl := List.mem_of_getElem? (i := 477) rfl
set_option maxRecDepth 100000 in
theorem pw_478 : Cond.code yX7_refusalOfPiece cX7_refusalOfPiece 2 (some .int) ∈ lw_tbl := List.mem_of_getElem? (i := 478) rfl
set_option maxRecDepth 100000 in
theorem pw_479 : Cond.methodLink RX7 302 yX0_stepX ∈ lw_tbl := List.mem_of_getElem? (i := 479) rfl
set_option maxRecDepth 100000 in
theorem pw_480 : Cond.instanceMethod yX0_stepX ∈ lw_tbl := List.mem_of_getElem? (i := 480) rfl
set_option maxRecDepth 100000 in
theorem pw_481 : Cond.selects RX0 yX0_stepX yX0_stepX ∈ lw_tbl := List.mem_of_getElem? (i := 481) rfl
set_option maxRecDepth 100000 in
theorem pw_482 : Cond.code yX0_stepX cX0_stepX 2 (some .int) ∈ lw_tbl := List.mem_of_getElem? (i := 482) rfl
set_option maxRecDepth 100000 in
theorem pw_483 : Cond.methodLink RX7 305 yX0_stepY ∈ lw_tbl := List.mem_of_getElem? (i := 483) rfl
set_option maxRecDepth 100000 in
theorem pw_484 : Cond.instanceMethod yX0_stepY ∈ lw_tbl := List.mem_of_getElem? (i := 484) rfl
set_option maxRecDepth 100000 in
theorem pw_485 : Cond.selects RX0 yX0_stepY yX0_stepY ∈ lw_tbl := List.mem_of_getElem? (i := 485) rfl
set_option maxRecDepth 100000 in
theorem pw_486 : Cond.code yX0_stepY cX0_stepY 2 (some .int) ∈ lw_tbl := List.mem_of_getElem? (i := 486) rfl
set_option maxRecDepth 100000 in
theorem pw_487 : Cond.methodLink RX7 189 yX7_signAcross ∈ lw_tbl := List.mem_of_getElem? (i := 487) rfl
set_option maxRecDepth 100000 in
theorem pw_489 : Cond.instanceMethod yX7_signAcross ∈ lw_tbl := List.mem_of_getElem? (i := 489) rfl
set_option maxRecDepth 100000 in
theorem pw_490 : Cond.code yX7_signAcross cX7_signAcross 2 (some .int) ∈ lw_tbl := List.mem_of_getElem? (i := 490) rfl
set_option maxRecDepth 100000 in
theorem pw_491 : Cond.methodLink RX7 192 yX7_followAcross ∈ lw_tbl := List.mem_of_getElem? (i := 491) rfl
set_option maxRecDepth 100000 in
theorem pw_493 : Cond.instanceMethod yX7_followAcross ∈ lw_tbl := List.mem_of_getElem? (i := 493) rfl
set_option maxRecDepth 100000 in
theorem pw_494 : Cond.code yX7_followAcross cX7_followAcross 2 none ∈ lw_tbl := List.mem_of_getElem? (i := 494) rfl
set_option maxRecDepth 100000 in
theorem pw_495 : Cond.methodLink RX7 199 yX7_followSpeeds ∈ lw_tbl := List.mem_of_getElem? (i := 495) rfl
set_option maxRecDepth 100000 in
theorem pw_497 : Cond.instanceMethod yX7_followSpeeds ∈ lw_tbl := List.mem_of_getElem? (i := 497) rfl
set_option maxRecDepth 100000 in
theorem pw_498 : Cond.code yX7_followSpeeds cX7_followSpeeds 2 none ∈ lw_tbl := List.mem_of_getElem? (i := 498) rfl
set_option maxRecDepth 100000 in
theorem pw_499 : Cond.methodLink RX7 308 yX4_follow ∈ lw_tbl := List.mem_of_getElem? (i := 499) rfl
set_option maxRecDepth 100000 in
theorem pw_500 : Cond.instanceMethod yX4_follow ∈ lw_tbl := List.mem_of_getElem? (i := 500) rfl
set_option maxRecDepth 100000 in
theorem pw_501 : Cond.selects RX4 yX4_follow yX4_follow ∈ lw_tbl := List.mem_of_getElem? (i := 501) rfl
set_option maxRecDepth 100000 in
theorem pw_502 : Cond.code yX4_follow cX4_follow 8 none ∈ lw_tbl := List.mem_of_getElem? (i := 502) rfl
set_option maxRecDepth 100000 in
theorem pw_503 : Cond.methodLink RX4 18 yX0_stepX ∈ lw_tbl := List.mem_of_getElem? (i := 503) rfl
set_option maxRecDepth 100000 in
theorem pw_504 : Cond.methodLink RX4 22 yX0_stepY ∈ lw_tbl := List.mem_of_getElem? (i := 504) rfl
set_option maxRecDepth 100000 in
theorem pw_505 : Cond.methodLink RX4 25 yX3_squaresAt ∈ lw_tbl := List.mem_of_getElem? (i := 505) rfl
set_option maxRecDepth 100000 in
theorem pw_506 : Cond.methodLink RX4 37 yX3_byX ∈ lw_tbl := List.mem_of_getElem? (i := 506) rfl
set_option maxRecDepth 100000 in
theorem pw_507 : Cond.methodLink RX4 40 yX3_byY ∈ lw_tbl := List.mem_of_getElem? (i := 507) rfl
set_option maxRecDepth 100000 in
theorem pw_508 : Cond.methodLink RX4 46 yX3_at ∈ lw_tbl := List.mem_of_getElem? (i := 508) rfl
set_option maxRecDepth 100000 in
theorem pw_509 : Cond.methodLink RX7 312 yX4_combine ∈ lw_tbl := List.mem_of_getElem? (i := 509) rfl
set_option maxRecDepth 100000 in
theorem pw_510 : Cond.instanceMethod yX4_combine ∈ lw_tbl := List.mem_of_getElem? (i := 510) rfl
set_option maxRecDepth 100000 in
theorem pw_511 : Cond.selects RX4 yX4_combine yX4_combine ∈ lw_tbl := List.mem_of_getElem? (i := 511) rfl
set_option maxRecDepth 100000 in
theorem pw_512 : Cond.code yX4_combine cX4_combine 7 none ∈ lw_tbl := List.mem_of_getElem? (i := 512) rfl
set_option maxRecDepth 100000 in
theorem pw_513 : Cond.methodLink RX7 196 yX4_zerosOnPiece ∈ lw_tbl := List.mem_of_getElem? (i := 513) rfl
set_option maxRecDepth 100000 in
theorem pw_514 : Cond.instanceMethod yX4_zerosOnPiece ∈ lw_tbl := List.mem_of_getElem? (i := 514) rfl
set_option maxRecDepth 100000 in
theorem pw_515 : Cond.selects RX4 yX4_zerosOnPiece yX4_zerosOnPiece ∈ lw_tbl := List.mem_of_getElem? (i := 515) rfl
set_option maxRecDepth 100000 in
theorem pw_516 : Cond.code yX4_zerosOnPiece cX4_zerosOnPiece 4 (some .int) ∈ lw_tbl := List.mem_of_getElem? (i := 516) rfl
set_option maxRecDepth 100000 in
theorem pw_517 : Cond.methodLink RX4 81 yX4_isZero ∈ lw_tbl := List.mem_of_getElem? (i := 517) rfl
set_option maxRecDepth 100000 in
theorem pw_518 : Cond.instanceMethod yX4_isZero ∈ lw_tbl := List.mem_of_getElem? (i := 518) rfl
set_option maxRecDepth 100000 in
theorem pw_519 : Cond.selects RX4 yX4_isZero yX4_isZero ∈ lw_tbl := List.mem_of_getElem? (i := 519) rfl
set_option maxRecDepth 100000 in
theorem pw_520 : Cond.code yX4_isZero cX4_isZero 1 (some .boolean) ∈ lw_tbl := List.mem_of_getElem? (i := 520) rfl
set_option maxRecDepth 100000 in
theorem pw_521 : Cond.methodLink RX4 85 yX4_rootCount ∈ lw_tbl := List.mem_of_getElem? (i := 521) rfl
set_option maxRecDepth 100000 in
theorem pw_522 : Cond.instanceMethod yX4_rootCount ∈ lw_tbl := List.mem_of_getElem? (i := 522) rfl
set_option maxRecDepth 100000 in
theorem pw_523 : Cond.selects RX4 yX4_rootCount yX4_rootCount ∈ lw_tbl := List.mem_of_getElem? (i := 523) rfl
set_option maxRecDepth 100000 in
theorem pw_524 : Cond.code yX4_rootCount cX4_rootCount 3 (some .int) ∈ lw_tbl := List.mem_of_getElem? (i := 524) rfl
set_option maxRecDepth 100000 in
theorem pw_525 : Cond.methodLink RX4 54 yX4_discriminant ∈ lw_tbl := List.mem_of_getElem? (i := 525) rfl
set_option maxRecDepth 100000 in
theorem pw_526 : Cond.instanceMethod yX4_discriminant ∈ lw_tbl := List.mem_of_getElem? (i := 526) rfl
set_option maxRecDepth 100000 in
theorem pw_527 : Cond.selects RX4 yX4_discriminant yX4_discriminant ∈ lw_tbl := List.mem_of_getElem? (i := 527) rfl
set_option maxRecDepth 100000 in
theorem pw_528 : Cond.code yX4_discriminant cX4_discriminant 1 (some .long) ∈ lw_tbl := List.mem_of_getElem? (i := 528) rfl
set_option maxRecDepth 100000 in
theorem pw_529 : Cond.constantLong RX4 52 (4) ∈ lw_tbl := List.mem_of_getElem? (i := 529) rfl
set_option maxRecDepth 100000 in
theorem pw_530 : Cond.methodLink RX4 89 yX4_isOnPiece ∈ lw_tbl := List.mem_of_getElem? (i := 530) rfl
set_option maxRecDepth 100000 in
theorem pw_531 : Cond.instanceMethod yX4_isOnPiece ∈ lw_tbl := List.mem_of_getElem? (i := 531) rfl
set_option maxRecDepth 100000 in
theorem pw_532 : Cond.selects RX4 yX4_isOnPiece yX4_isOnPiece ∈ lw_tbl := List.mem_of_getElem? (i := 532) rfl
set_option maxRecDepth 100000 in
theorem pw_533 : Cond.code yX4_isOnPiece cX4_isOnPiece 2 (some .boolean) ∈ lw_tbl := List.mem_of_getElem? (i := 533) rfl
set_option maxRecDepth 100000 in
theorem pw_534 : Cond.methodLink RX4 75 yX4_sideOfStart ∈ lw_tbl := List.mem_of_getElem? (i := 534) rfl
set_option maxRecDepth 100000 in
theorem pw_535 : Cond.instanceMethod yX4_sideOfStart ∈ lw_tbl := List.mem_of_getElem? (i := 535) rfl
set_option maxRecDepth 100000 in
theorem pw_536 : Cond.selects RX4 yX4_sideOfStart yX4_sideOfStart ∈ lw_tbl := List.mem_of_getElem? (i := 536) rfl
set_option maxRecDepth 100000 in
theorem pw_537 : Cond.code yX4_sideOfStart cX4_sideOfStart 2 (some .int) ∈ lw_tbl := List.mem_of_getElem? (i := 537) rfl
set_option maxRecDepth 100000 in
theorem pw_538 : Cond.methodLink RX4 69 yX4_signAtRoot ∈ lw_tbl := List.mem_of_getElem? (i := 538) rfl
set_option maxRecDepth 100000 in
theorem pw_539 : Cond.instanceMethod yX4_signAtRoot ∈ lw_tbl := List.mem_of_getElem? (i := 539) rfl
set_option maxRecDepth 100000 in
theorem pw_540 : Cond.selects RX4 yX4_signAtRoot yX4_signAtRoot ∈ lw_tbl := List.mem_of_getElem? (i := 540) rfl
set_option maxRecDepth 100000 in
theorem pw_541 : Cond.code yX4_signAtRoot cX4_signAtRoot 17 (some .int) ∈ lw_tbl := List.mem_of_getElem? (i := 541) rfl
set_option maxRecDepth 100000 in
theorem pw_542 : Cond.methodLink RX4 58 yJ13_signum_95d88 ∈ lw_tbl := List.mem_of_getElem? (i := 542) rfl
set_option maxRecDepth 100000 in
theorem pw_543 : Cond.static yJ13_signum_95d88 ∈ lw_tbl := List.mem_of_getElem? (i := 543) rfl
set_option maxRecDepth 100000 in
theorem pw_544 : Cond.code yJ13_signum_95d88 cJ13_signum_95d88 2 (some .int) ∈ lw_tbl := List.mem_of_getElem? (i := 544) rfl
set_option maxRecDepth 100000 in
theorem pw_545 : Cond.constantLong RX4 64 (2) ∈ lw_tbl := List.mem_of_getElem? (i := 545) rfl
set_option maxRecDepth 100000 in
theorem pw_546 : Cond.methodLink RX4 66 yX4_branch ∈ lw_tbl := List.mem_of_getElem? (i := 546) rfl
set_option maxRecDepth 100000 in
theorem pw_547 : Cond.instanceMethod yX4_branch ∈ lw_tbl := List.mem_of_getElem? (i := 547) rfl
set_option maxRecDepth 100000 in
theorem pw_548 : Cond.selects RX4 yX4_branch yX4_branch ∈ lw_tbl := List.mem_of_getElem? (i := 548) rfl
set_option maxRecDepth 100000 in
theorem pw_549 : Cond.code yX4_branch cX4_branch 2 (some .int) ∈ lw_tbl := List.mem_of_getElem? (i := 549) rfl
set_option maxRecDepth 100000 in
theorem pw_550 : Cond.methodLink RX4 78 yX4_sideOfEnd ∈ lw_tbl := List.mem_of_getElem? (i := 550) rfl
set_option maxRecDepth 100000 in
theorem pw_551 : Cond.instanceMethod yX4_sideOfEnd ∈ lw_tbl := List.mem_of_getElem? (i := 551) rfl
set_option maxRecDepth 100000 in
theorem pw_552 : Cond.selects RX4 yX4_sideOfEnd yX4_sideOfEnd ∈ lw_tbl := List.mem_of_getElem? (i := 552) rfl
set_option maxRecDepth 100000 in
theorem pw_553 : Cond.code yX4_sideOfEnd cX4_sideOfEnd 2 (some .int) ∈ lw_tbl := List.mem_of_getElem? (i := 553) rfl
set_option maxRecDepth 100000 in
theorem pw_554 : Cond.constantLong RX4 73 (-1) ∈ lw_tbl := List.mem_of_getElem? (i := 554) rfl
set_option maxRecDepth 100000 in
theorem pw_555 : Cond.methodLink RX7 320 yJ13_signum_95d88 ∈ lw_tbl := List.mem_of_getElem? (i := 555) rfl
set_option maxRecDepth 100000 in
theorem pw_556 : Cond.methodLink RL 98 yX7_turns ∈ lw_tbl := List.mem_of_getElem? (i := 556) rfl
set_option maxRecDepth 100000 in
theorem pw_557 : Cond.instanceMethod yX7_turns ∈ lw_tbl := List.mem_of_getElem? (i := 557) rfl
set_option maxRecDepth 100000 in
theorem pw_558 : Cond.selects RX7 yX7_turns yX7_turns ∈ lw_tbl := List.mem_of_getElem? (i := 558) rfl
set_option maxRecDepth 100000 in
theorem pw_559 : (.code yX7_turns cX7_turns 3 (some .int) : Cond) ∈ lw_tbl := List.mem_of_getElem? (i := 559) rfl
set_option maxRecDepth 100000 in
theorem pw_560 : Cond.methodLink RL 102 yX7_held ∈ lw_tbl := List.mem_of_getElem? (i := 560) rfl
set_option maxRecDepth 100000 in
theorem pw_561 : Cond.instanceMethod yX7_held ∈ lw_tbl := List.mem_of_getElem? (i := 561) rfl
set_option maxRecDepth 100000 in
theorem pw_562 : Cond.selects RX7 yX7_held yX7_held ∈ lw_tbl := List.mem_of_getElem? (i := 562) rfl
