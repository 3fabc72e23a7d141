theorem tw_388 : (Cond.sameMethod "HireShed$BenchSaw" "HireShed$Powered" "deposit" "()I") ∈ hs_gt := hs_gt_of (List.mem_of_getElem? (i := 388) (by decide +kernel)) rfl
theorem tw_389 : (Cond.declares ⟨"HireShed$Powered", "deposit", "()I"⟩) ∈ lw_tbl := List.mem_of_getElem? (i := 389) (by decide +kernel)
theorem tw_391 : (Cond.methodLink "HireShed" 103 ⟨"HireShed$Tool", "premium", "(I)I"⟩) ∈ hs_gt := hs_gt_of (List.mem_of_getElem? (i := 391) (by decide +kernel)) rfl
theorem tw_392 : (Cond.instanceMethod ⟨"HireShed$Tool", "premium", "(I)I"⟩) ∈ hs_gt := hs_gt_of (List.mem_of_getElem? (i := 392) (by decide +kernel)) rfl
theorem tw_393 : (Cond.selects "HireShed$Tool" ⟨"HireShed$Tool", "premium", "(I)I"⟩ ⟨"HireShed$Tool", "premium", "(I)I"⟩) ∈ hs_gt := hs_gt_of (List.mem_of_getElem? (i := 393) (by decide +kernel)) rfl
theorem tw_394 : (Cond.sameMethod "HireShed$Tool" "HireShed$Tool" "premium" "(I)I") ∈ hs_gt := hs_gt_of (List.mem_of_getElem? (i := 394) (by decide +kernel)) rfl
theorem tw_395 : (Cond.selects "HireShed$BenchSaw" ⟨"HireShed$Tool", "premium", "(I)I"⟩ ⟨"HireShed$BenchSaw", "premium", "(I)I"⟩) ∈ hs_gt := hs_gt_of (List.mem_of_getElem? (i := 395) (by decide +kernel)) rfl
theorem tw_396 : (Cond.instanceMethod ⟨"HireShed$BenchSaw", "premium", "(I)I"⟩) ∈ hs_gt := hs_gt_of (List.mem_of_getElem? (i := 396) (by decide +kernel)) rfl
theorem tw_398 : (Cond.methodLink "HireShed$BenchSaw" 23 ⟨"HireShed$BenchSaw", "check", "()I"⟩) ∈ hs_gt := hs_gt_of (List.mem_of_getElem? (i := 398) (by decide +kernel)) rfl
theorem tw_399 : (Cond.methodLink "HireShed$BenchSaw" 24 ⟨"HireShed$BenchSaw", "deposit", "()I"⟩) ∈ hs_gt := hs_gt_of (List.mem_of_getElem? (i := 399) (by decide +kernel)) rfl
theorem tw_400 : (Cond.selects "HireShed$BenchSaw" ⟨"HireShed$BenchSaw", "deposit", "()I"⟩ ⟨"HireShed$Powered", "deposit", "()I"⟩) ∈ hs_gt := hs_gt_of (List.mem_of_getElem? (i := 400) (by decide +kernel)) rfl
theorem tw_401 : (Cond.selects "HireShed$TreeSaw" ⟨"HireShed$BenchSaw", "deposit", "()I"⟩ ⟨"HireShed$TreeSaw", "deposit", "()I"⟩) ∈ hs_gt := hs_gt_of (List.mem_of_getElem? (i := 401) (by decide +kernel)) rfl
theorem tw_402 : (Cond.selects "HireShed$DeepPump" ⟨"HireShed$Tool", "premium", "(I)I"⟩ ⟨"HireShed$Tool", "premium", "(I)I"⟩) ∈ hs_gt := hs_gt_of (List.mem_of_getElem? (i := 402) (by decide +kernel)) rfl
theorem tw_403 : (Cond.selects "HireShed$Powered" ⟨"HireShed$Tool", "premium", "(I)I"⟩ ⟨"HireShed$Tool", "premium", "(I)I"⟩) ∈ hs_gt := hs_gt_of (List.mem_of_getElem? (i := 403) (by decide +kernel)) rfl
theorem tw_404 : (Cond.selects "HireShed$Pump" ⟨"HireShed$Tool", "premium", "(I)I"⟩ ⟨"HireShed$Tool", "premium", "(I)I"⟩) ∈ hs_gt := hs_gt_of (List.mem_of_getElem? (i := 404) (by decide +kernel)) rfl
theorem tw_405 : (Cond.selects "HireShed$Saw" ⟨"HireShed$Tool", "premium", "(I)I"⟩ ⟨"HireShed$Saw", "premium", "(I)I"⟩) ∈ hs_gt := hs_gt_of (List.mem_of_getElem? (i := 405) (by decide +kernel)) rfl
theorem tw_406 : (Cond.instanceMethod ⟨"HireShed$Saw", "premium", "(I)I"⟩) ∈ hs_gt := hs_gt_of (List.mem_of_getElem? (i := 406) (by decide +kernel)) rfl
theorem tw_408 : (Cond.methodLink "HireShed$Saw" 23 ⟨"HireShed$Saw", "deposit", "()I"⟩) ∈ hs_gt := hs_gt_of (List.mem_of_getElem? (i := 408) (by decide +kernel)) rfl
theorem tw_409 : (Cond.sameMethod "HireShed$Saw" "HireShed$Powered" "deposit" "()I") ∈ hs_gt := hs_gt_of (List.mem_of_getElem? (i := 409) (by decide +kernel)) rfl
theorem tw_410 : (Cond.selects "HireShed$BenchSaw" ⟨"HireShed$Saw", "deposit", "()I"⟩ ⟨"HireShed$Powered", "deposit", "()I"⟩) ∈ hs_gt := hs_gt_of (List.mem_of_getElem? (i := 410) (by decide +kernel)) rfl
theorem tw_411 : (Cond.selects "HireShed$Saw" ⟨"HireShed$Saw", "deposit", "()I"⟩ ⟨"HireShed$Powered", "deposit", "()I"⟩) ∈ hs_gt := hs_gt_of (List.mem_of_getElem? (i := 411) (by decide +kernel)) rfl
theorem tw_412 : (Cond.selects "HireShed$TreeSaw" ⟨"HireShed$Saw", "deposit", "()I"⟩ ⟨"HireShed$TreeSaw", "deposit", "()I"⟩) ∈ hs_gt := hs_gt_of (List.mem_of_getElem? (i := 412) (by decide +kernel)) rfl
theorem tw_413 : (Cond.selects "HireShed$TreeSaw" ⟨"HireShed$Tool", "premium", "(I)I"⟩ ⟨"HireShed$BenchSaw", "premium", "(I)I"⟩) ∈ hs_gt := hs_gt_of (List.mem_of_getElem? (i := 413) (by decide +kernel)) rfl
theorem tw_415 : (Cond.methodLink "HireShed" 77 ⟨"HireShed$Tool", "due", "(I)I"⟩) ∈ hs_gt := hs_gt_of (List.mem_of_getElem? (i := 415) (by decide +kernel)) rfl
theorem tw_416 : (Cond.instanceMethod ⟨"HireShed$Tool", "due", "(I)I"⟩) ∈ hs_gt := hs_gt_of (List.mem_of_getElem? (i := 416) (by decide +kernel)) rfl
theorem tw_417 : (Cond.selects "HireShed$Tool" ⟨"HireShed$Tool", "due", "(I)I"⟩ ⟨"HireShed$Tool", "due", "(I)I"⟩) ∈ hs_gt := hs_gt_of (List.mem_of_getElem? (i := 417) (by decide +kernel)) rfl
theorem tw_418 : (Cond.sameMethod "HireShed$Tool" "HireShed$Tool" "due" "(I)I") ∈ hs_gt := hs_gt_of (List.mem_of_getElem? (i := 418) (by decide +kernel)) rfl
theorem tw_419 : (Cond.selects "HireShed$BenchSaw" ⟨"HireShed$Tool", "due", "(I)I"⟩ ⟨"HireShed$Tool", "due", "(I)I"⟩) ∈ hs_gt := hs_gt_of (List.mem_of_getElem? (i := 419) (by decide +kernel)) rfl
theorem tw_420 : (Cond.selects "HireShed$DeepPump" ⟨"HireShed$Tool", "due", "(I)I"⟩ ⟨"HireShed$Tool", "due", "(I)I"⟩) ∈ hs_gt := hs_gt_of (List.mem_of_getElem? (i := 420) (by decide +kernel)) rfl
theorem tw_421 : (Cond.selects "HireShed$Powered" ⟨"HireShed$Tool", "due", "(I)I"⟩ ⟨"HireShed$Tool", "due", "(I)I"⟩) ∈ hs_gt := hs_gt_of (List.mem_of_getElem? (i := 421) (by decide +kernel)) rfl
theorem tw_422 : (Cond.selects "HireShed$Pump" ⟨"HireShed$Tool", "due", "(I)I"⟩ ⟨"HireShed$Tool", "due", "(I)I"⟩) ∈ hs_gt := hs_gt_of (List.mem_of_getElem? (i := 422) (by decide +kernel)) rfl
theorem tw_423 : (Cond.selects "HireShed$Saw" ⟨"HireShed$Tool", "due", "(I)I"⟩ ⟨"HireShed$Tool", "due", "(I)I"⟩) ∈ hs_gt := hs_gt_of (List.mem_of_getElem? (i := 423) (by decide +kernel)) rfl
theorem tw_424 : (Cond.selects "HireShed$TreeSaw" ⟨"HireShed$Tool", "due", "(I)I"⟩ ⟨"HireShed$Tool", "due", "(I)I"⟩) ∈ hs_gt := hs_gt_of (List.mem_of_getElem? (i := 424) (by decide +kernel)) rfl
theorem tw_426 : (Cond.methodLink "HireShed$Tool" 43 ⟨"HireShed$Tool", "isServiced", "()Z"⟩) ∈ hs_gt := hs_gt_of (List.mem_of_getElem? (i := 426) (by decide +kernel)) rfl
theorem tw_427 : (Cond.methodLink "HireShed$Tool" 47 ⟨"HireShed$Tool", "wear", "(I)I"⟩) ∈ hs_gt := hs_gt_of (List.mem_of_getElem? (i := 427) (by decide +kernel)) rfl
theorem tw_428 : (Cond.methodLink "HireShed" 63 ⟨"HireShed$Trace", "end", "()V"⟩) ∈ hs_gt := hs_gt_of (List.mem_of_getElem? (i := 428) (by decide +kernel)) rfl
theorem tw_429 : (Cond.instanceMethod ⟨"HireShed$Trace", "end", "()V"⟩) ∈ hs_gt := hs_gt_of (List.mem_of_getElem? (i := 429) (by decide +kernel)) rfl
theorem tw_430 : (Cond.selects "HireShed$Trace" ⟨"HireShed$Trace", "end", "()V"⟩ ⟨"HireShed$Trace", "end", "()V"⟩) ∈ hs_gt := hs_gt_of (List.mem_of_getElem? (i := 430) (by decide +kernel)) rfl
theorem tw_432 : (Cond.methodLink "HireShedLaw" 22 ⟨"HireShed", "trace", "(I)I"⟩) ∈ hs_gt := hs_gt_of (List.mem_of_getElem? (i := 432) (by decide +kernel)) rfl
theorem tw_433 : (Cond.instanceMethod ⟨"HireShed", "trace", "(I)I"⟩) ∈ hs_gt := hs_gt_of (List.mem_of_getElem? (i := 433) (by decide +kernel)) rfl
theorem tw_434 : (Cond.selects "HireShed" ⟨"HireShed", "trace", "(I)I"⟩ ⟨"HireShed", "trace", "(I)I"⟩) ∈ hs_gt := hs_gt_of (List.mem_of_getElem? (i := 434) (by decide +kernel)) rfl
theorem tw_436 : (Cond.methodLink "HireShed" 66 ⟨"HireShed$Trace", "numberAt", "(I)I"⟩) ∈ hs_gt := hs_gt_of (List.mem_of_getElem? (i := 436) (by decide +kernel)) rfl
theorem tw_437 : (Cond.instanceMethod ⟨"HireShed$Trace", "numberAt", "(I)I"⟩) ∈ hs_gt := hs_gt_of (List.mem_of_getElem? (i := 437) (by decide +kernel)) rfl
theorem tw_438 : (Cond.selects "HireShed$Trace" ⟨"HireShed$Trace", "numberAt", "(I)I"⟩ ⟨"HireShed$Trace", "numberAt", "(I)I"⟩) ∈ hs_gt := hs_gt_of (List.mem_of_getElem? (i := 438) (by decide +kernel)) rfl
theorem tw_440 : (Cond.methodLink "HireShedLaw" 27 ⟨"HireShed", "hire", "(II)I"⟩) ∈ hs_gt := hs_gt_of (List.mem_of_getElem? (i := 440) (by decide +kernel)) rfl
theorem tw_441 : (Cond.instanceMethod ⟨"HireShed", "hire", "(II)I"⟩) ∈ hs_gt := hs_gt_of (List.mem_of_getElem? (i := 441) (by decide +kernel)) rfl
theorem tw_442 : (Cond.selects "HireShed" ⟨"HireShed", "hire", "(II)I"⟩ ⟨"HireShed", "hire", "(II)I"⟩) ∈ hs_gt := hs_gt_of (List.mem_of_getElem? (i := 442) (by decide +kernel)) rfl
theorem tw_444 : (Cond.methodLink "HireShed" 70 ⟨"HireShed", "isCustomer", "(I)Z"⟩) ∈ hs_gt := hs_gt_of (List.mem_of_getElem? (i := 444) (by decide +kernel)) rfl
theorem tw_445 : (Cond.static ⟨"HireShed", "isCustomer", "(I)Z"⟩) ∈ hs_gt := hs_gt_of (List.mem_of_getElem? (i := 445) (by decide +kernel)) rfl
theorem tw_447 : (Cond.methodLink "HireShed" 84 ⟨"HireShed", "pay", "(II)V"⟩) ∈ hs_gt := hs_gt_of (List.mem_of_getElem? (i := 447) (by decide +kernel)) rfl
theorem tw_448 : (Cond.privateMethod ⟨"HireShed", "pay", "(II)V"⟩) ∈ lw_tbl := List.mem_of_getElem? (i := 448) (by decide +kernel)
theorem tw_449 : (Cond.instanceMethod ⟨"HireShed", "pay", "(II)V"⟩) ∈ hs_gt := hs_gt_of (List.mem_of_getElem? (i := 449) (by decide +kernel)) rfl
theorem tw_451 : (Cond.methodLink "HireShed" 88 ⟨"HireShed$Tool", "goOut", "(II)V"⟩) ∈ hs_gt := hs_gt_of (List.mem_of_getElem? (i := 451) (by decide +kernel)) rfl
theorem tw_452 : (Cond.instanceMethod ⟨"HireShed$Tool", "goOut", "(II)V"⟩) ∈ hs_gt := hs_gt_of (List.mem_of_getElem? (i := 452) (by decide +kernel)) rfl
theorem tw_453 : (Cond.selects "HireShed$Tool" ⟨"HireShed$Tool", "goOut", "(II)V"⟩ ⟨"HireShed$Tool", "goOut", "(II)V"⟩) ∈ hs_gt := hs_gt_of (List.mem_of_getElem? (i := 453) (by decide +kernel)) rfl
theorem tw_454 : (Cond.sameMethod "HireShed$Tool" "HireShed$Tool" "goOut" "(II)V") ∈ hs_gt := hs_gt_of (List.mem_of_getElem? (i := 454) (by decide +kernel)) rfl
theorem tw_455 : (Cond.selects "HireShed$BenchSaw" ⟨"HireShed$Tool", "goOut", "(II)V"⟩ ⟨"HireShed$Tool", "goOut", "(II)V"⟩) ∈ hs_gt := hs_gt_of (List.mem_of_getElem? (i := 455) (by decide +kernel)) rfl
theorem tw_456 : (Cond.selects "HireShed$DeepPump" ⟨"HireShed$Tool", "goOut", "(II)V"⟩ ⟨"HireShed$Tool", "goOut", "(II)V"⟩) ∈ hs_gt := hs_gt_of (List.mem_of_getElem? (i := 456) (by decide +kernel)) rfl
theorem tw_457 : (Cond.selects "HireShed$Powered" ⟨"HireShed$Tool", "goOut", "(II)V"⟩ ⟨"HireShed$Tool", "goOut", "(II)V"⟩) ∈ hs_gt := hs_gt_of (List.mem_of_getElem? (i := 457) (by decide +kernel)) rfl
theorem tw_458 : (Cond.selects "HireShed$Pump" ⟨"HireShed$Tool", "goOut", "(II)V"⟩ ⟨"HireShed$Tool", "goOut", "(II)V"⟩) ∈ hs_gt := hs_gt_of (List.mem_of_getElem? (i := 458) (by decide +kernel)) rfl
theorem tw_459 : (Cond.selects "HireShed$Saw" ⟨"HireShed$Tool", "goOut", "(II)V"⟩ ⟨"HireShed$Tool", "goOut", "(II)V"⟩) ∈ hs_gt := hs_gt_of (List.mem_of_getElem? (i := 459) (by decide +kernel)) rfl
theorem tw_460 : (Cond.selects "HireShed$TreeSaw" ⟨"HireShed$Tool", "goOut", "(II)V"⟩ ⟨"HireShed$Tool", "goOut", "(II)V"⟩) ∈ hs_gt := hs_gt_of (List.mem_of_getElem? (i := 460) (by decide +kernel)) rfl
theorem tw_462 : (Cond.methodLink "HireShedLaw" 32 ⟨"HireShed", "back", "(I)I"⟩) ∈ hs_gt := hs_gt_of (List.mem_of_getElem? (i := 462) (by decide +kernel)) rfl
theorem tw_463 : (Cond.instanceMethod ⟨"HireShed", "back", "(I)I"⟩) ∈ hs_gt := hs_gt_of (List.mem_of_getElem? (i := 463) (by decide +kernel)) rfl
theorem tw_464 : (Cond.selects "HireShed" ⟨"HireShed", "back", "(I)I"⟩ ⟨"HireShed", "back", "(I)I"⟩) ∈ hs_gt := hs_gt_of (List.mem_of_getElem? (i := 464) (by decide +kernel)) rfl
theorem tw_466 : (Cond.methodLink "HireShed" 94 ⟨"java/lang/Math", "max", "(II)I"⟩) ∈ hs_gt := hs_gt_of (List.mem_of_getElem? (i := 466) (by decide +kernel)) rfl
theorem tw_467 : (Cond.methodLink "HireShed" 109 ⟨"HireShed$Tool", "comeBack", "(I)V"⟩) ∈ hs_gt := hs_gt_of (List.mem_of_getElem? (i := 467) (by decide +kernel)) rfl
theorem tw_468 : (Cond.instanceMethod ⟨"HireShed$Tool", "comeBack", "(I)V"⟩) ∈ hs_gt := hs_gt_of (List.mem_of_getElem? (i := 468) (by decide +kernel)) rfl
theorem tw_469 : (Cond.selects "HireShed$Tool" ⟨"HireShed$Tool", "comeBack", "(I)V"⟩ ⟨"HireShed$Tool", "comeBack", "(I)V"⟩) ∈ hs_gt := hs_gt_of (List.mem_of_getElem? (i := 469) (by decide +kernel)) rfl
theorem tw_470 : (Cond.sameMethod "HireShed$Tool" "HireShed$Tool" "comeBack" "(I)V") ∈ hs_gt := hs_gt_of (List.mem_of_getElem? (i := 470) (by decide +kernel)) rfl
theorem tw_471 : (Cond.selects "HireShed$BenchSaw" ⟨"HireShed$Tool", "comeBack", "(I)V"⟩ ⟨"HireShed$Tool", "comeBack", "(I)V"⟩) ∈ hs_gt := hs_gt_of (List.mem_of_getElem? (i := 471) (by decide +kernel)) rfl
theorem tw_472 : (Cond.selects "HireShed$DeepPump" ⟨"HireShed$Tool", "comeBack", "(I)V"⟩ ⟨"HireShed$Tool", "comeBack", "(I)V"⟩) ∈ hs_gt := hs_gt_of (List.mem_of_getElem? (i := 472) (by decide +kernel)) rfl
theorem tw_473 : (Cond.selects "HireShed$Powered" ⟨"HireShed$Tool", "comeBack", "(I)V"⟩ ⟨"HireShed$Tool", "comeBack", "(I)V"⟩) ∈ hs_gt := hs_gt_of (List.mem_of_getElem? (i := 473) (by decide +kernel)) rfl
theorem tw_474 : (Cond.selects "HireShed$Pump" ⟨"HireShed$Tool", "comeBack", "(I)V"⟩ ⟨"HireShed$Tool", "comeBack", "(I)V"⟩) ∈ hs_gt := hs_gt_of (List.mem_of_getElem? (i := 474) (by decide +kernel)) rfl
theorem tw_475 : (Cond.selects "HireShed$Saw" ⟨"HireShed$Tool", "comeBack", "(I)V"⟩ ⟨"HireShed$Tool", "comeBack", "(I)V"⟩) ∈ hs_gt := hs_gt_of (List.mem_of_getElem? (i := 475) (by decide +kernel)) rfl
theorem tw_476 : (Cond.selects "HireShed$TreeSaw" ⟨"HireShed$Tool", "comeBack", "(I)V"⟩ ⟨"HireShed$Tool", "comeBack", "(I)V"⟩) ∈ hs_gt := hs_gt_of (List.mem_of_getElem? (i := 476) (by decide +kernel)) rfl
theorem tw_478 : (Cond.methodLink "HireShed$Tool" 51 ⟨"HireShed$Tool", "check", "()I"⟩) ∈ hs_gt := hs_gt_of (List.mem_of_getElem? (i := 478) (by decide +kernel)) rfl
theorem tw_479 : (Cond.methodLink "HireShedLaw" 36 ⟨"HireShed", "service", "(I)I"⟩) ∈ hs_gt := hs_gt_of (List.mem_of_getElem? (i := 479) (by decide +kernel)) rfl
theorem tw_480 : (Cond.instanceMethod ⟨"HireShed", "service", "(I)I"⟩) ∈ hs_gt := hs_gt_of (List.mem_of_getElem? (i := 480) (by decide +kernel)) rfl
theorem tw_481 : (Cond.selects "HireShed" ⟨"HireShed", "service", "(I)I"⟩ ⟨"HireShed", "service", "(I)I"⟩) ∈ hs_gt := hs_gt_of (List.mem_of_getElem? (i := 481) (by decide +kernel)) rfl
theorem tw_483 : (Cond.methodLink "HireShed" 116 ⟨"HireShed$Tool", "renew", "()V"⟩) ∈ hs_gt := hs_gt_of (List.mem_of_getElem? (i := 483) (by decide +kernel)) rfl
theorem tw_484 : (Cond.instanceMethod ⟨"HireShed$Tool", "renew", "()V"⟩) ∈ hs_gt := hs_gt_of (List.mem_of_getElem? (i := 484) (by decide +kernel)) rfl
theorem tw_485 : (Cond.selects "HireShed$Tool" ⟨"HireShed$Tool", "renew", "()V"⟩ ⟨"HireShed$Tool", "renew", "()V"⟩) ∈ hs_gt := hs_gt_of (List.mem_of_getElem? (i := 485) (by decide +kernel)) rfl
theorem tw_486 : (Cond.sameMethod "HireShed$Tool" "HireShed$Tool" "renew" "()V") ∈ hs_gt := hs_gt_of (List.mem_of_getElem? (i := 486) (by decide +kernel)) rfl
theorem tw_487 : (Cond.selects "HireShed$BenchSaw" ⟨"HireShed$Tool", "renew", "()V"⟩ ⟨"HireShed$Tool", "renew", "()V"⟩) ∈ hs_gt := hs_gt_of (List.mem_of_getElem? (i := 487) (by decide +kernel)) rfl
theorem tw_488 : (Cond.selects "HireShed$DeepPump" ⟨"HireShed$Tool", "renew", "()V"⟩ ⟨"HireShed$Tool", "renew", "()V"⟩) ∈ hs_gt := hs_gt_of (List.mem_of_getElem? (i := 488) (by decide +kernel)) rfl
theorem tw_489 : (Cond.selects "HireShed$Powered" ⟨"HireShed$Tool", "renew", "()V"⟩ ⟨"HireShed$Tool", "renew", "()V"⟩) ∈ hs_gt := hs_gt_of (List.mem_of_getElem? (i := 489) (by decide +kernel)) rfl
theorem tw_490 : (Cond.selects "HireShed$Pump" ⟨"HireShed$Tool", "renew", "()V"⟩ ⟨"HireShed$Tool", "renew", "()V"⟩) ∈ hs_gt := hs_gt_of (List.mem_of_getElem? (i := 490) (by decide +kernel)) rfl
theorem tw_491 : (Cond.selects "HireShed$Saw" ⟨"HireShed$Tool", "renew", "()V"⟩ ⟨"HireShed$Tool", "renew", "()V"⟩) ∈ hs_gt := hs_gt_of (List.mem_of_getElem? (i := 491) (by decide +kernel)) rfl
theorem tw_492 : (Cond.selects "HireShed$TreeSaw" ⟨"HireShed$Tool", "renew", "()V"⟩ ⟨"HireShed$Tool", "renew", "()V"⟩) ∈ hs_gt := hs_gt_of (List.mem_of_getElem? (i := 492) (by decide +kernel)) rfl
theorem tw_494 : (Cond.methodLink "HireShedLaw" 40 ⟨"HireShed", "day", "(I)I"⟩) ∈ hs_gt := hs_gt_of (List.mem_of_getElem? (i := 494) (by decide +kernel)) rfl
theorem tw_495 : (Cond.instanceMethod ⟨"HireShed", "day", "(I)I"⟩) ∈ hs_gt := hs_gt_of (List.mem_of_getElem? (i := 495) (by decide +kernel)) rfl
theorem tw_496 : (Cond.selects "HireShed" ⟨"HireShed", "day", "(I)I"⟩ ⟨"HireShed", "day", "(I)I"⟩) ∈ hs_gt := hs_gt_of (List.mem_of_getElem? (i := 496) (by decide +kernel)) rfl
theorem tw_498 : (Cond.methodLink "HireShedLaw" 44 ⟨"HireShed", "account", "(I)J"⟩) ∈ hs_gt := hs_gt_of (List.mem_of_getElem? (i := 498) (by decide +kernel)) rfl
theorem tw_499 : (Cond.instanceMethod ⟨"HireShed", "account", "(I)J"⟩) ∈ hs_gt := hs_gt_of (List.mem_of_getElem? (i := 499) (by decide +kernel)) rfl
theorem tw_500 : (Cond.selects "HireShed" ⟨"HireShed", "account", "(I)J"⟩ ⟨"HireShed", "account", "(I)J"⟩) ∈ hs_gt := hs_gt_of (List.mem_of_getElem? (i := 500) (by decide +kernel)) rfl
theorem tw_502 : (Cond.methodLink "HireShedLaw" 49 ⟨"HireShed", "told", "(II)I"⟩) ∈ hs_gt := hs_gt_of (List.mem_of_getElem? (i := 502) (by decide +kernel)) rfl
theorem tw_503 : (Cond.instanceMethod ⟨"HireShed", "told", "(II)I"⟩) ∈ hs_gt := hs_gt_of (List.mem_of_getElem? (i := 503) (by decide +kernel)) rfl
theorem tw_504 : (Cond.selects "HireShed" ⟨"HireShed", "told", "(II)I"⟩ ⟨"HireShed", "told", "(II)I"⟩) ∈ hs_gt := hs_gt_of (List.mem_of_getElem? (i := 504) (by decide +kernel)) rfl
theorem tw_506 : (Cond.methodLink "HireShedLaw" 53 ⟨"HireShed", "count", "(I)I"⟩) ∈ hs_gt := hs_gt_of (List.mem_of_getElem? (i := 506) (by decide +kernel)) rfl
theorem tw_507 : (Cond.instanceMethod ⟨"HireShed", "count", "(I)I"⟩) ∈ hs_gt := hs_gt_of (List.mem_of_getElem? (i := 507) (by decide +kernel)) rfl
theorem tw_508 : (Cond.selects "HireShed" ⟨"HireShed", "count", "(I)I"⟩ ⟨"HireShed", "count", "(I)I"⟩) ∈ hs_gt := hs_gt_of (List.mem_of_getElem? (i := 508) (by decide +kernel)) rfl
theorem tw_510 : (Cond.methodLink "HireShed" 132 ⟨"HireShed", "toolsThatAre", "(I)I"⟩) ∈ hs_gt := hs_gt_of (List.mem_of_getElem? (i := 510) (by decide +kernel)) rfl
theorem tw_511 : (Cond.privateMethod ⟨"HireShed", "toolsThatAre", "(I)I"⟩) ∈ lw_tbl := List.mem_of_getElem? (i := 511) (by decide +kernel)
theorem tw_512 : (Cond.instanceMethod ⟨"HireShed", "toolsThatAre", "(I)I"⟩) ∈ hs_gt := hs_gt_of (List.mem_of_getElem? (i := 512) (by decide +kernel)) rfl
theorem tw_514 : (Cond.classLink "HireShedLaw" 10 "HireShedModel") ∈ hs_gt := hs_gt_of (List.mem_of_getElem? (i := 514) (by decide +kernel)) rfl
theorem tw_515 : (Cond.instantiable "HireShedModel" 15) ∈ hs_gt := hs_gt_of (List.mem_of_getElem? (i := 515) (by decide +kernel)) rfl
theorem tw_516 : (Cond.methodLink "HireShedLaw" 12 ⟨"HireShedModel", "<init>", "()V"⟩) ∈ hs_gt := hs_gt_of (List.mem_of_getElem? (i := 516) (by decide +kernel)) rfl
theorem tw_517 : (Cond.instanceMethod ⟨"HireShedModel", "<init>", "()V"⟩) ∈ hs_gt := hs_gt_of (List.mem_of_getElem? (i := 517) (by decide +kernel)) rfl
theorem tw_519 : (Cond.methodLink "HireShedModel" 1 ⟨"java/lang/Object", "<init>", "()V"⟩) ∈ hs_gt := hs_gt_of (List.mem_of_getElem? (i := 519) (by decide +kernel)) rfl
theorem tw_520 : (Cond.fieldLink "HireShedModel" 42 "HireShedModel" "tools" "I") ∈ hs_gt := hs_gt_of (List.mem_of_getElem? (i := 520) (by decide +kernel)) rfl
theorem tw_521 : (Cond.fieldLink "HireShedModel" 7 "HireShedModel" "kind" "[I") ∈ hs_gt := hs_gt_of (List.mem_of_getElem? (i := 521) (by decide +kernel)) rfl
theorem tw_522 : (Cond.fieldLink "HireShedModel" 13 "HireShedModel" "rate" "[I") ∈ hs_gt := hs_gt_of (List.mem_of_getElem? (i := 522) (by decide +kernel)) rfl
theorem tw_523 : (Cond.fieldLink "HireShedModel" 16 "HireShedModel" "value" "[I") ∈ hs_gt := hs_gt_of (List.mem_of_getElem? (i := 523) (by decide +kernel)) rfl
theorem tw_524 : (Cond.fieldLink "HireShedModel" 19 "HireShedModel" "hours" "[I") ∈ hs_gt := hs_gt_of (List.mem_of_getElem? (i := 524) (by decide +kernel)) rfl
theorem tw_525 : (Cond.fieldLink "HireShedModel" 22 "HireShedModel" "how" "[I") ∈ hs_gt := hs_gt_of (List.mem_of_getElem? (i := 525) (by decide +kernel)) rfl
theorem tw_526 : (Cond.fieldLink "HireShedModel" 25 "HireShedModel" "customer" "[I") ∈ hs_gt := hs_gt_of (List.mem_of_getElem? (i := 526) (by decide +kernel)) rfl
theorem tw_527 : (Cond.fieldLink "HireShedModel" 28 "HireShedModel" "since" "[I") ∈ hs_gt := hs_gt_of (List.mem_of_getElem? (i := 527) (by decide +kernel)) rfl
theorem tw_528 : (Cond.fieldLink "HireShedModel" 31 "HireShedModel" "accounts" "[J") ∈ hs_gt := hs_gt_of (List.mem_of_getElem? (i := 528) (by decide +kernel)) rfl
theorem tw_529 : (Cond.fieldLink "HireShedModel" 38 "HireShedModel" "today" "I") ∈ hs_gt := hs_gt_of (List.mem_of_getElem? (i := 529) (by decide +kernel)) rfl
theorem tw_530 : (Cond.fieldLink "HireShedModel" 101 "HireShedModel" "costs" "I") ∈ hs_gt := hs_gt_of (List.mem_of_getElem? (i := 530) (by decide +kernel)) rfl
theorem tw_531 : (Cond.fieldLink "HireShedModel" 98 "HireShedModel" "hired" "I") ∈ hs_gt := hs_gt_of (List.mem_of_getElem? (i := 531) (by decide +kernel)) rfl
theorem tw_532 : (Cond.fieldLink "HireShedModel" 35 "HireShedModel" "trace" "[I") ∈ hs_gt := hs_gt_of (List.mem_of_getElem? (i := 532) (by decide +kernel)) rfl
theorem tw_533 : (Cond.fieldLink "HireShedModel" 54 "HireShedModel" "traced" "I") ∈ hs_gt := hs_gt_of (List.mem_of_getElem? (i := 533) (by decide +kernel)) rfl
theorem tw_534 : (Cond.fieldLink "HireShedModel" 50 "HireShedModel" "isTraced" "Z") ∈ hs_gt := hs_gt_of (List.mem_of_getElem? (i := 534) (by decide +kernel)) rfl
theorem tw_535 : (Cond.lays "HireShedModel" "HireShedModel" "tools" "I") ∈ hs_gt := hs_gt_of (List.mem_of_getElem? (i := 535) (by decide +kernel)) rfl
theorem tw_536 : (Cond.soleField "HireShedModel" "tools") ∈ hs_gt := hs_gt_of (List.mem_of_getElem? (i := 536) (by decide +kernel)) rfl
theorem tw_537 : (Cond.laysFinal "HireShedModel" "HireShedModel" "kind" "[I") ∈ hs_gt := hs_gt_of (List.mem_of_getElem? (i := 537) (by decide +kernel)) rfl
theorem tw_538 : (Cond.soleField "HireShedModel" "kind") ∈ hs_gt := hs_gt_of (List.mem_of_getElem? (i := 538) (by decide +kernel)) rfl
theorem tw_539 : (Cond.laysFinal "HireShedModel" "HireShedModel" "rate" "[I") ∈ hs_gt := hs_gt_of (List.mem_of_getElem? (i := 539) (by decide +kernel)) rfl
theorem tw_540 : (Cond.soleField "HireShedModel" "rate") ∈ hs_gt := hs_gt_of (List.mem_of_getElem? (i := 540) (by decide +kernel)) rfl
theorem tw_541 : (Cond.laysFinal "HireShedModel" "HireShedModel" "value" "[I") ∈ hs_gt := hs_gt_of (List.mem_of_getElem? (i := 541) (by decide +kernel)) rfl
theorem tw_542 : (Cond.soleField "HireShedModel" "value") ∈ hs_gt := hs_gt_of (List.mem_of_getElem? (i := 542) (by decide +kernel)) rfl
theorem tw_543 : (Cond.laysFinal "HireShedModel" "HireShedModel" "hours" "[I") ∈ hs_gt := hs_gt_of (List.mem_of_getElem? (i := 543) (by decide +kernel)) rfl
theorem tw_544 : (Cond.soleField "HireShedModel" "hours") ∈ hs_gt := hs_gt_of (List.mem_of_getElem? (i := 544) (by decide +kernel)) rfl
theorem tw_545 : (Cond.laysFinal "HireShedModel" "HireShedModel" "how" "[I") ∈ hs_gt := hs_gt_of (List.mem_of_getElem? (i := 545) (by decide +kernel)) rfl
theorem tw_546 : (Cond.soleField "HireShedModel" "how") ∈ hs_gt := hs_gt_of (List.mem_of_getElem? (i := 546) (by decide +kernel)) rfl
theorem tw_547 : (Cond.laysFinal "HireShedModel" "HireShedModel" "customer" "[I") ∈ hs_gt := hs_gt_of (List.mem_of_getElem? (i := 547) (by decide +kernel)) rfl
theorem tw_548 : (Cond.soleField "HireShedModel" "customer") ∈ hs_gt := hs_gt_of (List.mem_of_getElem? (i := 548) (by decide +kernel)) rfl
theorem tw_549 : (Cond.laysFinal "HireShedModel" "HireShedModel" "since" "[I") ∈ hs_gt := hs_gt_of (List.mem_of_getElem? (i := 549) (by decide +kernel)) rfl
theorem tw_550 : (Cond.soleField "HireShedModel" "since") ∈ hs_gt := hs_gt_of (List.mem_of_getElem? (i := 550) (by decide +kernel)) rfl
theorem tw_551 : (Cond.laysFinal "HireShedModel" "HireShedModel" "accounts" "[J") ∈ hs_gt := hs_gt_of (List.mem_of_getElem? (i := 551) (by decide +kernel)) rfl
theorem tw_552 : (Cond.soleField "HireShedModel" "accounts") ∈ hs_gt := hs_gt_of (List.mem_of_getElem? (i := 552) (by decide +kernel)) rfl
theorem tw_553 : (Cond.lays "HireShedModel" "HireShedModel" "today" "I") ∈ hs_gt := hs_gt_of (List.mem_of_getElem? (i := 553) (by decide +kernel)) rfl
theorem tw_554 : (Cond.soleField "HireShedModel" "today") ∈ hs_gt := hs_gt_of (List.mem_of_getElem? (i := 554) (by decide +kernel)) rfl
theorem tw_555 : (Cond.lays "HireShedModel" "HireShedModel" "costs" "I") ∈ hs_gt := hs_gt_of (List.mem_of_getElem? (i := 555) (by decide +kernel)) rfl
theorem tw_556 : (Cond.soleField "HireShedModel" "costs") ∈ hs_gt := hs_gt_of (List.mem_of_getElem? (i := 556) (by decide +kernel)) rfl
theorem tw_557 : (Cond.lays "HireShedModel" "HireShedModel" "hired" "I") ∈ hs_gt := hs_gt_of (List.mem_of_getElem? (i := 557) (by decide +kernel)) rfl
theorem tw_558 : (Cond.soleField "HireShedModel" "hired") ∈ hs_gt := hs_gt_of (List.mem_of_getElem? (i := 558) (by decide +kernel)) rfl
theorem tw_559 : (Cond.laysFinal "HireShedModel" "HireShedModel" "trace" "[I") ∈ hs_gt := hs_gt_of (List.mem_of_getElem? (i := 559) (by decide +kernel)) rfl
theorem tw_560 : (Cond.soleField "HireShedModel" "trace") ∈ hs_gt := hs_gt_of (List.mem_of_getElem? (i := 560) (by decide +kernel)) rfl
theorem tw_561 : (Cond.lays "HireShedModel" "HireShedModel" "traced" "I") ∈ hs_gt := hs_gt_of (List.mem_of_getElem? (i := 561) (by decide +kernel)) rfl
theorem tw_562 : (Cond.soleField "HireShedModel" "traced") ∈ hs_gt := hs_gt_of (List.mem_of_getElem? (i := 562) (by decide +kernel)) rfl
theorem tw_563 : (Cond.lays "HireShedModel" "HireShedModel" "isTraced" "Z") ∈ hs_gt := hs_gt_of (List.mem_of_getElem? (i := 563) (by decide +kernel)) rfl
theorem tw_564 : (Cond.soleField "HireShedModel" "isTraced") ∈ hs_gt := hs_gt_of (List.mem_of_getElem? (i := 564) (by decide +kernel)) rfl
theorem tw_565 : (Cond.superclass "HireShedModel" "java/lang/Object") ∈ hs_gt := hs_gt_of (List.mem_of_getElem? (i := 565) (by decide +kernel)) rfl
theorem tw_566 : (Cond.methodLink "HireShedLaw" 17 ⟨"HireShedModel", "tool", "(III)I"⟩) ∈ hs_gt := hs_gt_of (List.mem_of_getElem? (i := 566) (by decide +kernel)) rfl
theorem tw_567 : (Cond.instanceMethod ⟨"HireShedModel", "tool", "(III)I"⟩) ∈ hs_gt := hs_gt_of (List.mem_of_getElem? (i := 567) (by decide +kernel)) rfl
theorem tw_568 : (Cond.selects "HireShedModel" ⟨"HireShedModel", "tool", "(III)I"⟩ ⟨"HireShedModel", "tool", "(III)I"⟩) ∈ hs_gt := hs_gt_of (List.mem_of_getElem? (i := 568) (by decide +kernel)) rfl
theorem tw_570 : (Cond.methodLink "HireShedModel" 45 ⟨"HireShedModel", "in", "(III)Z"⟩) ∈ hs_gt := hs_gt_of (List.mem_of_getElem? (i := 570) (by decide +kernel)) rfl
theorem tw_571 : (Cond.static ⟨"HireShedModel", "in", "(III)Z"⟩) ∈ hs_gt := hs_gt_of (List.mem_of_getElem? (i := 571) (by decide +kernel)) rfl
theorem tw_573 : (Cond.constant "HireShedModel" 49 (100000 : Int32)) ∈ hs_gt := hs_gt_of (List.mem_of_getElem? (i := 573) (by decide +kernel)) rfl
theorem tw_574 : (Cond.methodLink "HireShedLaw" 21 ⟨"HireShedModel", "ask", "(III)I"⟩) ∈ hs_gt := hs_gt_of (List.mem_of_getElem? (i := 574) (by decide +kernel)) rfl
theorem tw_575 : (Cond.instanceMethod ⟨"HireShedModel", "ask", "(III)I"⟩) ∈ hs_gt := hs_gt_of (List.mem_of_getElem? (i := 575) (by decide +kernel)) rfl
theorem tw_576 : (Cond.selects "HireShedModel" ⟨"HireShedModel", "ask", "(III)I"⟩ ⟨"HireShedModel", "ask", "(III)I"⟩) ∈ hs_gt := hs_gt_of (List.mem_of_getElem? (i := 576) (by decide +kernel)) rfl
theorem tw_578 : (Cond.methodLink "HireShedModel" 79 ⟨"HireShedModel", "isTool", "(I)Z"⟩) ∈ hs_gt := hs_gt_of (List.mem_of_getElem? (i := 578) (by decide +kernel)) rfl
theorem tw_579 : (Cond.privateMethod ⟨"HireShedModel", "isTool", "(I)Z"⟩) ∈ lw_tbl := List.mem_of_getElem? (i := 579) (by decide +kernel)
theorem tw_580 : (Cond.instanceMethod ⟨"HireShedModel", "isTool", "(I)Z"⟩) ∈ hs_gt := hs_gt_of (List.mem_of_getElem? (i := 580) (by decide +kernel)) rfl
theorem tw_582 : (Cond.methodLink "HireShedModel" 82 ⟨"HireShedModel", "answers", "(II)Z"⟩) ∈ hs_gt := hs_gt_of (List.mem_of_getElem? (i := 582) (by decide +kernel)) rfl
theorem tw_583 : (Cond.privateMethod ⟨"HireShedModel", "answers", "(II)Z"⟩) ∈ lw_tbl := List.mem_of_getElem? (i := 583) (by decide +kernel)
theorem tw_584 : (Cond.instanceMethod ⟨"HireShedModel", "answers", "(II)Z"⟩) ∈ hs_gt := hs_gt_of (List.mem_of_getElem? (i := 584) (by decide +kernel)) rfl
theorem tw_586 : (Cond.methodLink "HireShedModel" 72 ⟨"HireShedModel", "isInsured", "(I)Z"⟩) ∈ hs_gt := hs_gt_of (List.mem_of_getElem? (i := 586) (by decide +kernel)) rfl
theorem tw_587 : (Cond.privateMethod ⟨"HireShedModel", "isInsured", "(I)Z"⟩) ∈ lw_tbl := List.mem_of_getElem? (i := 587) (by decide +kernel)
theorem tw_588 : (Cond.instanceMethod ⟨"HireShedModel", "isInsured", "(I)Z"⟩) ∈ hs_gt := hs_gt_of (List.mem_of_getElem? (i := 588) (by decide +kernel)) rfl
theorem tw_590 : (Cond.methodLink "HireShedModel" 76 ⟨"HireShedModel", "isServiced", "(I)Z"⟩) ∈ hs_gt := hs_gt_of (List.mem_of_getElem? (i := 590) (by decide +kernel)) rfl
theorem tw_591 : (Cond.privateMethod ⟨"HireShedModel", "isServiced", "(I)Z"⟩) ∈ lw_tbl := List.mem_of_getElem? (i := 591) (by decide +kernel)
theorem tw_592 : (Cond.instanceMethod ⟨"HireShedModel", "isServiced", "(I)Z"⟩) ∈ hs_gt := hs_gt_of (List.mem_of_getElem? (i := 592) (by decide +kernel)) rfl
theorem tw_594 : (Cond.methodLink "HireShedModel" 86 ⟨"HireShedModel", "charge", "(II)I"⟩) ∈ hs_gt := hs_gt_of (List.mem_of_getElem? (i := 594) (by decide +kernel)) rfl
theorem tw_595 : (Cond.privateMethod ⟨"HireShedModel", "charge", "(II)I"⟩) ∈ lw_tbl := List.mem_of_getElem? (i := 595) (by decide +kernel)
theorem tw_596 : (Cond.instanceMethod ⟨"HireShedModel", "charge", "(II)I"⟩) ∈ hs_gt := hs_gt_of (List.mem_of_getElem? (i := 596) (by decide +kernel)) rfl
theorem tw_598 : (Cond.methodLink "HireShedModel" 57 ⟨"HireShedModel", "body", "(I)V"⟩) ∈ hs_gt := hs_gt_of (List.mem_of_getElem? (i := 598) (by decide +kernel)) rfl
theorem tw_599 : (Cond.privateMethod ⟨"HireShedModel", "body", "(I)V"⟩) ∈ lw_tbl := List.mem_of_getElem? (i := 599) (by decide +kernel)
theorem tw_600 : (Cond.instanceMethod ⟨"HireShedModel", "body", "(I)V"⟩) ∈ hs_gt := hs_gt_of (List.mem_of_getElem? (i := 600) (by decide +kernel)) rfl
theorem tw_602 : (Cond.methodLink "HireShedModel" 68 ⟨"HireShedModel", "wear", "(II)I"⟩) ∈ hs_gt := hs_gt_of (List.mem_of_getElem? (i := 602) (by decide +kernel)) rfl
theorem tw_603 : (Cond.privateMethod ⟨"HireShedModel", "wear", "(II)I"⟩) ∈ lw_tbl := List.mem_of_getElem? (i := 603) (by decide +kernel)
theorem tw_604 : (Cond.instanceMethod ⟨"HireShedModel", "wear", "(II)I"⟩) ∈ hs_gt := hs_gt_of (List.mem_of_getElem? (i := 604) (by decide +kernel)) rfl
theorem tw_606 : (Cond.methodLink "HireShedModel" 65 ⟨"HireShedModel", "check", "(I)I"⟩) ∈ hs_gt := hs_gt_of (List.mem_of_getElem? (i := 606) (by decide +kernel)) rfl
theorem tw_607 : (Cond.privateMethod ⟨"HireShedModel", "check", "(I)I"⟩) ∈ lw_tbl := List.mem_of_getElem? (i := 607) (by decide +kernel)
theorem tw_608 : (Cond.instanceMethod ⟨"HireShedModel", "check", "(I)I"⟩) ∈ hs_gt := hs_gt_of (List.mem_of_getElem? (i := 608) (by decide +kernel)) rfl
theorem tw_610 : (Cond.methodLink "HireShedModel" 61 ⟨"HireShedModel", "deposit", "(I)I"⟩) ∈ hs_gt := hs_gt_of (List.mem_of_getElem? (i := 610) (by decide +kernel)) rfl
theorem tw_611 : (Cond.privateMethod ⟨"HireShedModel", "deposit", "(I)I"⟩) ∈ lw_tbl := List.mem_of_getElem? (i := 611) (by decide +kernel)
theorem tw_612 : (Cond.instanceMethod ⟨"HireShedModel", "deposit", "(I)I"⟩) ∈ hs_gt := hs_gt_of (List.mem_of_getElem? (i := 612) (by decide +kernel)) rfl
theorem tw_614 : (Cond.methodLink "HireShedModel" 89 ⟨"HireShedModel", "premium", "(II)I"⟩) ∈ hs_gt := hs_gt_of (List.mem_of_getElem? (i := 614) (by decide +kernel)) rfl
theorem tw_615 : (Cond.privateMethod ⟨"HireShedModel", "premium", "(II)I"⟩) ∈ lw_tbl := List.mem_of_getElem? (i := 615) (by decide +kernel)
theorem tw_616 : (Cond.instanceMethod ⟨"HireShedModel", "premium", "(II)I"⟩) ∈ hs_gt := hs_gt_of (List.mem_of_getElem? (i := 616) (by decide +kernel)) rfl
theorem tw_618 : (Cond.methodLink "HireShedModel" 92 ⟨"HireShedModel", "due", "(II)I"⟩) ∈ hs_gt := hs_gt_of (List.mem_of_getElem? (i := 618) (by decide +kernel)) rfl
theorem tw_619 : (Cond.privateMethod ⟨"HireShedModel", "due", "(II)I"⟩) ∈ lw_tbl := List.mem_of_getElem? (i := 619) (by decide +kernel)
theorem tw_620 : (Cond.instanceMethod ⟨"HireShedModel", "due", "(II)I"⟩) ∈ hs_gt := hs_gt_of (List.mem_of_getElem? (i := 620) (by decide +kernel)) rfl
theorem tw_622 : (Cond.methodLink "HireShedLaw" 26 ⟨"HireShedModel", "trace", "(I)I"⟩) ∈ hs_gt := hs_gt_of (List.mem_of_getElem? (i := 622) (by decide +kernel)) rfl
theorem tw_623 : (Cond.instanceMethod ⟨"HireShedModel", "trace", "(I)I"⟩) ∈ hs_gt := hs_gt_of (List.mem_of_getElem? (i := 623) (by decide +kernel)) rfl
theorem tw_624 : (Cond.selects "HireShedModel" ⟨"HireShedModel", "trace", "(I)I"⟩ ⟨"HireShedModel", "trace", "(I)I"⟩) ∈ hs_gt := hs_gt_of (List.mem_of_getElem? (i := 624) (by decide +kernel)) rfl
theorem tw_626 : (Cond.methodLink "HireShedLaw" 31 ⟨"HireShedModel", "hire", "(II)I"⟩) ∈ hs_gt := hs_gt_of (List.mem_of_getElem? (i := 626) (by decide +kernel)) rfl
theorem tw_627 : (Cond.instanceMethod ⟨"HireShedModel", "hire", "(II)I"⟩) ∈ hs_gt := hs_gt_of (List.mem_of_getElem? (i := 627) (by decide +kernel)) rfl
theorem tw_628 : (Cond.selects "HireShedModel" ⟨"HireShedModel", "hire", "(II)I"⟩ ⟨"HireShedModel", "hire", "(II)I"⟩) ∈ hs_gt := hs_gt_of (List.mem_of_getElem? (i := 628) (by decide +kernel)) rfl
theorem tw_630 : (Cond.methodLink "HireShedModel" 95 ⟨"HireShedModel", "lent", "(I)I"⟩) ∈ hs_gt := hs_gt_of (List.mem_of_getElem? (i := 630) (by decide +kernel)) rfl
theorem tw_631 : (Cond.privateMethod ⟨"HireShedModel", "lent", "(I)I"⟩) ∈ lw_tbl := List.mem_of_getElem? (i := 631) (by decide +kernel)
theorem tw_632 : (Cond.instanceMethod ⟨"HireShedModel", "lent", "(I)I"⟩) ∈ hs_gt := hs_gt_of (List.mem_of_getElem? (i := 632) (by decide +kernel)) rfl
theorem tw_634 : (Cond.methodLink "HireShedLaw" 35 ⟨"HireShedModel", "back", "(I)I"⟩) ∈ hs_gt := hs_gt_of (List.mem_of_getElem? (i := 634) (by decide +kernel)) rfl
theorem tw_635 : (Cond.instanceMethod ⟨"HireShedModel", "back", "(I)I"⟩) ∈ hs_gt := hs_gt_of (List.mem_of_getElem? (i := 635) (by decide +kernel)) rfl
theorem tw_636 : (Cond.selects "HireShedModel" ⟨"HireShedModel", "back", "(I)I"⟩ ⟨"HireShedModel", "back", "(I)I"⟩) ∈ hs_gt := hs_gt_of (List.mem_of_getElem? (i := 636) (by decide +kernel)) rfl
theorem tw_638 : (Cond.methodLink "HireShedLaw" 39 ⟨"HireShedModel", "service", "(I)I"⟩) ∈ hs_gt := hs_gt_of (List.mem_of_getElem? (i := 638) (by decide +kernel)) rfl
theorem tw_639 : (Cond.instanceMethod ⟨"HireShedModel", "service", "(I)I"⟩) ∈ hs_gt := hs_gt_of (List.mem_of_getElem? (i := 639) (by decide +kernel)) rfl
theorem tw_640 : (Cond.selects "HireShedModel" ⟨"HireShedModel", "service", "(I)I"⟩ ⟨"HireShedModel", "service", "(I)I"⟩) ∈ hs_gt := hs_gt_of (List.mem_of_getElem? (i := 640) (by decide +kernel)) rfl
theorem tw_642 : (Cond.methodLink "HireShedLaw" 43 ⟨"HireShedModel", "day", "(I)I"⟩) ∈ hs_gt := hs_gt_of (List.mem_of_getElem? (i := 642) (by decide +kernel)) rfl
theorem tw_643 : (Cond.instanceMethod ⟨"HireShedModel", "day", "(I)I"⟩) ∈ hs_gt := hs_gt_of (List.mem_of_getElem? (i := 643) (by decide +kernel)) rfl
theorem tw_644 : (Cond.selects "HireShedModel" ⟨"HireShedModel", "day", "(I)I"⟩ ⟨"HireShedModel", "day", "(I)I"⟩) ∈ hs_gt := hs_gt_of (List.mem_of_getElem? (i := 644) (by decide +kernel)) rfl
theorem tw_646 : (Cond.methodLink "HireShedLaw" 48 ⟨"HireShedModel", "account", "(I)J"⟩) ∈ hs_gt := hs_gt_of (List.mem_of_getElem? (i := 646) (by decide +kernel)) rfl
theorem tw_647 : (Cond.instanceMethod ⟨"HireShedModel", "account", "(I)J"⟩) ∈ hs_gt := hs_gt_of (List.mem_of_getElem? (i := 647) (by decide +kernel)) rfl
theorem tw_648 : (Cond.selects "HireShedModel" ⟨"HireShedModel", "account", "(I)J"⟩ ⟨"HireShedModel", "account", "(I)J"⟩) ∈ hs_gt := hs_gt_of (List.mem_of_getElem? (i := 648) (by decide +kernel)) rfl
theorem tw_650 : (Cond.methodLink "HireShedLaw" 52 ⟨"HireShedModel", "told", "(II)I"⟩) ∈ hs_gt := hs_gt_of (List.mem_of_getElem? (i := 650) (by decide +kernel)) rfl
theorem tw_651 : (Cond.instanceMethod ⟨"HireShedModel", "told", "(II)I"⟩) ∈ hs_gt := hs_gt_of (List.mem_of_getElem? (i := 651) (by decide +kernel)) rfl
theorem tw_652 : (Cond.selects "HireShedModel" ⟨"HireShedModel", "told", "(II)I"⟩ ⟨"HireShedModel", "told", "(II)I"⟩) ∈ hs_gt := hs_gt_of (List.mem_of_getElem? (i := 652) (by decide +kernel)) rfl
theorem tw_654 : (Cond.methodLink "HireShedLaw" 56 ⟨"HireShedModel", "count", "(I)I"⟩) ∈ hs_gt := hs_gt_of (List.mem_of_getElem? (i := 654) (by decide +kernel)) rfl
theorem tw_655 : (Cond.instanceMethod ⟨"HireShedModel", "count", "(I)I"⟩) ∈ hs_gt := hs_gt_of (List.mem_of_getElem? (i := 655) (by decide +kernel)) rfl
theorem tw_656 : (Cond.selects "HireShedModel" ⟨"HireShedModel", "count", "(I)I"⟩ ⟨"HireShedModel", "count", "(I)I"⟩) ∈ hs_gt := hs_gt_of (List.mem_of_getElem? (i := 656) (by decide +kernel)) rfl
theorem tw_658 : (Cond.sameMethod "HireShed$BenchSaw" "HireShed$BenchSaw" "check" "()I") ∈ hs_gt := hs_gt_of (List.mem_of_getElem? (i := 658) (by decide +kernel)) rfl
theorem tw_659 : (Cond.selects "HireShed$BenchSaw" ⟨"HireShed$BenchSaw", "check", "()I"⟩ ⟨"HireShed$BenchSaw", "check", "()I"⟩) ∈ hs_gt := hs_gt_of (List.mem_of_getElem? (i := 659) (by decide +kernel)) rfl
theorem tw_660 : (Cond.selects "HireShed$TreeSaw" ⟨"HireShed$BenchSaw", "check", "()I"⟩ ⟨"HireShed$BenchSaw", "check", "()I"⟩) ∈ hs_gt := hs_gt_of (List.mem_of_getElem? (i := 660) (by decide +kernel)) rfl
theorem tw_661 : (Cond.castable "HireShed$BenchSaw" "HireShed$Tool") ∈ lw_tbl := List.mem_of_getElem? (i := 661) (by decide +kernel)
theorem tw_662 : (Cond.castable "HireShed$DeepPump" "HireShed$Tool") ∈ lw_tbl := List.mem_of_getElem? (i := 662) (by decide +kernel)
theorem tw_663 : (Cond.castable "HireShed$Powered" "HireShed$Tool") ∈ lw_tbl := List.mem_of_getElem? (i := 663) (by decide +kernel)
theorem tw_664 : (Cond.castable "HireShed$Pump" "HireShed$Tool") ∈ lw_tbl := List.mem_of_getElem? (i := 664) (by decide +kernel)
theorem tw_665 : (Cond.castable "HireShed$Saw" "HireShed$Tool") ∈ lw_tbl := List.mem_of_getElem? (i := 665) (by decide +kernel)
theorem tw_666 : (Cond.castable "HireShed$TreeSaw" "HireShed$Tool") ∈ lw_tbl := List.mem_of_getElem? (i := 666) (by decide +kernel)
theorem tw_32 : Cond.code yX8_init prog_1_method_1_code 1 (Option.none : Option FieldType) ∈ hs_gt := hs_gt_of (List.mem_of_getElem? (i := 32) (by decide +kernel)) rfl
theorem tw_35 : (Cond.code ⟨"java/lang/Object", "<init>", "()V"⟩ object_method_1_code 1 (Option.none : Option FieldType)) ∈ hs_gt := hs_gt_of (List.mem_of_getElem? (i := 35) (by decide +kernel)) rfl
theorem tw_40 : Cond.code yX6_init prog_8_method_1_code 1 (Option.none : Option FieldType) ∈ hs_gt := hs_gt_of (List.mem_of_getElem? (i := 40) (by decide +kernel)) rfl
theorem tw_81 : Cond.code yX8_tool prog_1_method_2_code 5 (Option.some FieldType.int) ∈ hs_gt := hs_gt_of (List.mem_of_getElem? (i := 81) (by decide +kernel)) rfl
theorem tw_84 : Cond.code yX8_isWithin prog_1_method_12_code 3 (Option.some FieldType.boolean) ∈ hs_gt := hs_gt_of (List.mem_of_getElem? (i := 84) (by decide +kernel)) rfl
theorem tw_89 : Cond.code yX8_newTool prog_1_method_15_code 4 (Option.some (FieldType.object "HireShed$Tool")) ∈ hs_gt := hs_gt_of (List.mem_of_getElem? (i := 89) (by decide +kernel)) rfl
theorem tw_94 : Cond.code yX2_init prog_4_method_1_code 5 (Option.none : Option FieldType) ∈ hs_gt := hs_gt_of (List.mem_of_getElem? (i := 94) (by decide +kernel)) rfl
theorem tw_97 : Cond.code yX5_init prog_7_method_1_code 5 (Option.none : Option FieldType) ∈ hs_gt := hs_gt_of (List.mem_of_getElem? (i := 97) (by decide +kernel)) rfl
theorem tw_151 : Cond.code yX4_init prog_6_method_1_code 5 (Option.none : Option FieldType) ∈ hs_gt := hs_gt_of (List.mem_of_getElem? (i := 151) (by decide +kernel)) rfl
theorem tw_166 : Cond.code yX0_init prog_2_method_1_code 5 (Option.none : Option FieldType) ∈ hs_gt := hs_gt_of (List.mem_of_getElem? (i := 166) (by decide +kernel)) rfl
theorem tw_181 : Cond.code yX7_init prog_9_method_1_code 5 (Option.none : Option FieldType) ∈ hs_gt := hs_gt_of (List.mem_of_getElem? (i := 181) (by decide +kernel)) rfl
theorem tw_196 : Cond.code yX3_init prog_5_method_1_code 5 (Option.none : Option FieldType) ∈ hs_gt := hs_gt_of (List.mem_of_getElem? (i := 196) (by decide +kernel)) rfl
theorem tw_211 : Cond.code yX1_init prog_3_method_1_code 5 (Option.none : Option FieldType) ∈ hs_gt := hs_gt_of (List.mem_of_getElem? (i := 211) (by decide +kernel)) rfl
theorem tw_236 : Cond.code yX8_ask prog_1_method_3_code 6 (Option.some FieldType.int) ∈ hs_gt := hs_gt_of (List.mem_of_getElem? (i := 236) (by decide +kernel)) rfl
theorem tw_240 : Cond.code yX8_toolAt prog_1_method_14_code 2 (Option.some (FieldType.object "HireShed$Tool")) ∈ hs_gt := hs_gt_of (List.mem_of_getElem? (i := 240) (by decide +kernel)) rfl
theorem tw_244 : Cond.code yX6_begin prog_8_method_2_code 1 (Option.none : Option FieldType) ∈ hs_gt := hs_gt_of (List.mem_of_getElem? (i := 244) (by decide +kernel)) rfl
theorem tw_247 : Cond.code yX8_hasAnswer prog_1_method_16_code 2 (Option.some FieldType.boolean) ∈ hs_gt := hs_gt_of (List.mem_of_getElem? (i := 247) (by decide +kernel)) rfl
theorem tw_254 : Cond.code yX2_hasDeposit prog_4_method_2_code 1 (Option.some FieldType.boolean) ∈ hs_gt := hs_gt_of (List.mem_of_getElem? (i := 254) (by decide +kernel)) rfl
theorem tw_260 : Cond.code yX5_hasDeposit prog_7_method_2_code 1 (Option.some FieldType.boolean) ∈ hs_gt := hs_gt_of (List.mem_of_getElem? (i := 260) (by decide +kernel)) rfl
theorem tw_267 : Cond.code yX4_isInsured prog_6_method_2_code 1 (Option.some FieldType.boolean) ∈ hs_gt := hs_gt_of (List.mem_of_getElem? (i := 267) (by decide +kernel)) rfl
theorem tw_273 : Cond.code yX5_isInsured prog_7_method_3_code 1 (Option.some FieldType.boolean) ∈ hs_gt := hs_gt_of (List.mem_of_getElem? (i := 273) (by decide +kernel)) rfl
theorem tw_280 : Cond.code yX0_isServiced prog_2_method_2_code 1 (Option.some FieldType.boolean) ∈ hs_gt := hs_gt_of (List.mem_of_getElem? (i := 280) (by decide +kernel)) rfl
theorem tw_283 : Cond.code yX3_isServiced prog_5_method_2_code 1 (Option.some FieldType.boolean) ∈ hs_gt := hs_gt_of (List.mem_of_getElem? (i := 283) (by decide +kernel)) rfl
theorem tw_288 : Cond.code yX5_isServiced prog_7_method_4_code 1 (Option.some FieldType.boolean) ∈ hs_gt := hs_gt_of (List.mem_of_getElem? (i := 288) (by decide +kernel)) rfl
theorem tw_291 : Cond.code yX8_answerOf prog_1_method_17_code 3 (Option.some FieldType.int) ∈ hs_gt := hs_gt_of (List.mem_of_getElem? (i := 291) (by decide +kernel)) rfl
theorem tw_298 : Cond.code yX4_charge prog_6_method_3_code 2 (Option.some FieldType.int) ∈ hs_gt := hs_gt_of (List.mem_of_getElem? (i := 298) (by decide +kernel)) rfl
theorem tw_302 : Cond.code yX6_leave prog_8_method_4_code 2 (Option.none : Option FieldType) ∈ hs_gt := hs_gt_of (List.mem_of_getElem? (i := 302) (by decide +kernel)) rfl
theorem tw_308 : Cond.code yX1_charge prog_3_method_2_code 2 (Option.some FieldType.int) ∈ hs_gt := hs_gt_of (List.mem_of_getElem? (i := 308) (by decide +kernel)) rfl
theorem tw_317 : Cond.code yX7_charge prog_9_method_2_code 2 (Option.some FieldType.int) ∈ hs_gt := hs_gt_of (List.mem_of_getElem? (i := 317) (by decide +kernel)) rfl
theorem tw_324 : Cond.code yJ9_max_7cf53 prog_12_method_65_code 2 (Option.some FieldType.int) ∈ hs_gt := hs_gt_of (List.mem_of_getElem? (i := 324) (by decide +kernel)) rfl
theorem tw_325 : Cond.code yX5_charge prog_7_method_5_code 2 (Option.some FieldType.int) ∈ hs_gt := hs_gt_of (List.mem_of_getElem? (i := 325) (by decide +kernel)) rfl
theorem tw_334 : Cond.code yX3_wear prog_5_method_3_code 2 (Option.some FieldType.int) ∈ hs_gt := hs_gt_of (List.mem_of_getElem? (i := 334) (by decide +kernel)) rfl
theorem tw_344 : Cond.code yX7_wear prog_9_method_3_code 2 (Option.some FieldType.int) ∈ hs_gt := hs_gt_of (List.mem_of_getElem? (i := 344) (by decide +kernel)) rfl
theorem tw_347 : Cond.code yX5_wear prog_7_method_6_code 2 (Option.some FieldType.int) ∈ hs_gt := hs_gt_of (List.mem_of_getElem? (i := 347) (by decide +kernel)) rfl
theorem tw_354 : Cond.code yX0_check prog_2_method_3_code 1 (Option.some FieldType.int) ∈ hs_gt := hs_gt_of (List.mem_of_getElem? (i := 354) (by decide +kernel)) rfl
theorem tw_360 : Cond.code yX2_check prog_4_method_3_code 1 (Option.some FieldType.int) ∈ hs_gt := hs_gt_of (List.mem_of_getElem? (i := 360) (by decide +kernel)) rfl
theorem tw_365 : Cond.code yX1_check prog_3_method_3_code 1 (Option.some FieldType.int) ∈ hs_gt := hs_gt_of (List.mem_of_getElem? (i := 365) (by decide +kernel)) rfl
theorem tw_372 : Cond.code yX5_check prog_7_method_7_code 1 (Option.some FieldType.int) ∈ hs_gt := hs_gt_of (List.mem_of_getElem? (i := 372) (by decide +kernel)) rfl
theorem tw_379 : Cond.code yX2_deposit prog_4_method_4_code 1 (Option.some FieldType.int) ∈ hs_gt := hs_gt_of (List.mem_of_getElem? (i := 379) (by decide +kernel)) rfl
theorem tw_386 : Cond.code yX7_deposit prog_9_method_4_code 1 (Option.some FieldType.int) ∈ hs_gt := hs_gt_of (List.mem_of_getElem? (i := 386) (by decide +kernel)) rfl
theorem tw_390 : Cond.code yX5_deposit prog_7_method_8_code 1 (Option.some FieldType.int) ∈ hs_gt := hs_gt_of (List.mem_of_getElem? (i := 390) (by decide +kernel)) rfl
theorem tw_397 : Cond.code yX0_premium prog_2_method_4_code 2 (Option.some FieldType.int) ∈ hs_gt := hs_gt_of (List.mem_of_getElem? (i := 397) (by decide +kernel)) rfl
theorem tw_407 : Cond.code yX4_premium prog_6_method_4_code 2 (Option.some FieldType.int) ∈ hs_gt := hs_gt_of (List.mem_of_getElem? (i := 407) (by decide +kernel)) rfl
theorem tw_414 : Cond.code yX5_premium prog_7_method_9_code 2 (Option.some FieldType.int) ∈ hs_gt := hs_gt_of (List.mem_of_getElem? (i := 414) (by decide +kernel)) rfl
theorem tw_425 : Cond.code yX5_due prog_7_method_10_code 2 (Option.some FieldType.int) ∈ hs_gt := hs_gt_of (List.mem_of_getElem? (i := 425) (by decide +kernel)) rfl
theorem tw_431 : Cond.code yX6_end prog_8_method_3_code 1 (Option.none : Option FieldType) ∈ hs_gt := hs_gt_of (List.mem_of_getElem? (i := 431) (by decide +kernel)) rfl
theorem tw_435 : Cond.code yX8_trace prog_1_method_4_code 2 (Option.some FieldType.int) ∈ hs_gt := hs_gt_of (List.mem_of_getElem? (i := 435) (by decide +kernel)) rfl
theorem tw_439 : Cond.code yX6_numberAt prog_8_method_5_code 2 (Option.some FieldType.int) ∈ hs_gt := hs_gt_of (List.mem_of_getElem? (i := 439) (by decide +kernel)) rfl
theorem tw_443 : Cond.code yX8_hire prog_1_method_5_code 5 (Option.some FieldType.int) ∈ hs_gt := hs_gt_of (List.mem_of_getElem? (i := 443) (by decide +kernel)) rfl
theorem tw_446 : Cond.code yX8_isCustomer prog_1_method_13_code 1 (Option.some FieldType.boolean) ∈ hs_gt := hs_gt_of (List.mem_of_getElem? (i := 446) (by decide +kernel)) rfl
theorem tw_450 : Cond.code yX8_pay prog_1_method_18_code 3 (Option.none : Option FieldType) ∈ hs_gt := hs_gt_of (List.mem_of_getElem? (i := 450) (by decide +kernel)) rfl
theorem tw_461 : Cond.code yX5_goOut prog_7_method_11_code 3 (Option.none : Option FieldType) ∈ hs_gt := hs_gt_of (List.mem_of_getElem? (i := 461) (by decide +kernel)) rfl
theorem tw_465 : Cond.code yX8_back prog_1_method_6_code 5 (Option.some FieldType.int) ∈ hs_gt := hs_gt_of (List.mem_of_getElem? (i := 465) (by decide +kernel)) rfl
theorem tw_477 : Cond.code yX5_comeBack prog_7_method_12_code 2 (Option.none : Option FieldType) ∈ hs_gt := hs_gt_of (List.mem_of_getElem? (i := 477) (by decide +kernel)) rfl
theorem tw_482 : Cond.code yX8_service prog_1_method_7_code 4 (Option.some FieldType.int) ∈ hs_gt := hs_gt_of (List.mem_of_getElem? (i := 482) (by decide +kernel)) rfl
theorem tw_493 : Cond.code yX5_renew prog_7_method_13_code 1 (Option.none : Option FieldType) ∈ hs_gt := hs_gt_of (List.mem_of_getElem? (i := 493) (by decide +kernel)) rfl
theorem tw_497 : Cond.code yX8_day prog_1_method_8_code 2 (Option.some FieldType.int) ∈ hs_gt := hs_gt_of (List.mem_of_getElem? (i := 497) (by decide +kernel)) rfl
theorem tw_501 : Cond.code yX8_account prog_1_method_9_code 2 (Option.some FieldType.long) ∈ hs_gt := hs_gt_of (List.mem_of_getElem? (i := 501) (by decide +kernel)) rfl
theorem tw_505 : Cond.code yX8_told prog_1_method_10_code 4 (Option.some FieldType.int) ∈ hs_gt := hs_gt_of (List.mem_of_getElem? (i := 505) (by decide +kernel)) rfl
theorem tw_509 : Cond.code yX8_count prog_1_method_11_code 2 (Option.some FieldType.int) ∈ hs_gt := hs_gt_of (List.mem_of_getElem? (i := 509) (by decide +kernel)) rfl
theorem tw_513 : Cond.code yX8_toolsThatAre prog_1_method_19_code 7 (Option.some FieldType.int) ∈ hs_gt := hs_gt_of (List.mem_of_getElem? (i := 513) (by decide +kernel)) rfl
theorem tw_518 : Cond.code yX9_init prog_11_method_1_code 1 (Option.none : Option FieldType) ∈ hs_gt := hs_gt_of (List.mem_of_getElem? (i := 518) (by decide +kernel)) rfl
theorem tw_569 : Cond.code yX9_tool prog_11_method_5_code 4 (Option.some FieldType.int) ∈ hs_gt := hs_gt_of (List.mem_of_getElem? (i := 569) (by decide +kernel)) rfl
theorem tw_572 : Cond.code yX9_in prog_11_method_3_code 3 (Option.some FieldType.boolean) ∈ hs_gt := hs_gt_of (List.mem_of_getElem? (i := 572) (by decide +kernel)) rfl
theorem tw_577 : Cond.code yX9_ask prog_11_method_16_code 5 (Option.some FieldType.int) ∈ hs_gt := hs_gt_of (List.mem_of_getElem? (i := 577) (by decide +kernel)) rfl
theorem tw_581 : Cond.code yX9_isTool prog_11_method_4_code 2 (Option.some FieldType.boolean) ∈ hs_gt := hs_gt_of (List.mem_of_getElem? (i := 581) (by decide +kernel)) rfl
theorem tw_585 : Cond.code yX9_answers prog_11_method_15_code 3 (Option.some FieldType.boolean) ∈ hs_gt := hs_gt_of (List.mem_of_getElem? (i := 585) (by decide +kernel)) rfl
theorem tw_589 : Cond.code yX9_isInsured prog_11_method_11_code 2 (Option.some FieldType.boolean) ∈ hs_gt := hs_gt_of (List.mem_of_getElem? (i := 589) (by decide +kernel)) rfl
theorem tw_593 : Cond.code yX9_isServiced prog_11_method_12_code 2 (Option.some FieldType.boolean) ∈ hs_gt := hs_gt_of (List.mem_of_getElem? (i := 593) (by decide +kernel)) rfl
theorem tw_597 : Cond.code yX9_charge prog_11_method_7_code 6 (Option.some FieldType.int) ∈ hs_gt := hs_gt_of (List.mem_of_getElem? (i := 597) (by decide +kernel)) rfl
theorem tw_601 : Cond.code yX9_body prog_11_method_6_code 2 (Option.none : Option FieldType) ∈ hs_gt := hs_gt_of (List.mem_of_getElem? (i := 601) (by decide +kernel)) rfl
theorem tw_605 : Cond.code yX9_wear prog_11_method_8_code 4 (Option.some FieldType.int) ∈ hs_gt := hs_gt_of (List.mem_of_getElem? (i := 605) (by decide +kernel)) rfl
theorem tw_609 : Cond.code yX9_check prog_11_method_9_code 4 (Option.some FieldType.int) ∈ hs_gt := hs_gt_of (List.mem_of_getElem? (i := 609) (by decide +kernel)) rfl
theorem tw_613 : Cond.code yX9_deposit prog_11_method_10_code 2 (Option.some FieldType.int) ∈ hs_gt := hs_gt_of (List.mem_of_getElem? (i := 613) (by decide +kernel)) rfl
theorem tw_617 : Cond.code yX9_premium prog_11_method_13_code 4 (Option.some FieldType.int) ∈ hs_gt := hs_gt_of (List.mem_of_getElem? (i := 617) (by decide +kernel)) rfl
theorem tw_621 : Cond.code yX9_due prog_11_method_14_code 3 (Option.some FieldType.int) ∈ hs_gt := hs_gt_of (List.mem_of_getElem? (i := 621) (by decide +kernel)) rfl
theorem tw_625 : Cond.code yX9_trace prog_11_method_17_code 2 (Option.some FieldType.int) ∈ hs_gt := hs_gt_of (List.mem_of_getElem? (i := 625) (by decide +kernel)) rfl
theorem tw_629 : Cond.code yX9_hire prog_11_method_19_code 3 (Option.some FieldType.int) ∈ hs_gt := hs_gt_of (List.mem_of_getElem? (i := 629) (by decide +kernel)) rfl
theorem tw_633 : Cond.code yX9_lent prog_11_method_18_code 2 (Option.some FieldType.int) ∈ hs_gt := hs_gt_of (List.mem_of_getElem? (i := 633) (by decide +kernel)) rfl
theorem tw_637 : Cond.code yX9_back prog_11_method_20_code 4 (Option.some FieldType.int) ∈ hs_gt := hs_gt_of (List.mem_of_getElem? (i := 637) (by decide +kernel)) rfl
theorem tw_641 : Cond.code yX9_service prog_11_method_21_code 3 (Option.some FieldType.int) ∈ hs_gt := hs_gt_of (List.mem_of_getElem? (i := 641) (by decide +kernel)) rfl
theorem tw_645 : Cond.code yX9_day prog_11_method_22_code 2 (Option.some FieldType.int) ∈ hs_gt := hs_gt_of (List.mem_of_getElem? (i := 645) (by decide +kernel)) rfl
theorem tw_649 : Cond.code yX9_account prog_11_method_23_code 2 (Option.some FieldType.long) ∈ hs_gt := hs_gt_of (List.mem_of_getElem? (i := 649) (by decide +kernel)) rfl
theorem tw_653 : Cond.code yX9_told prog_11_method_24_code 3 (Option.some FieldType.int) ∈ hs_gt := hs_gt_of (List.mem_of_getElem? (i := 653) (by decide +kernel)) rfl
theorem tw_657 : Cond.code yX9_count prog_11_method_25_code 4 (Option.some FieldType.int) ∈ hs_gt := hs_gt_of (List.mem_of_getElem? (i := 657) (by decide +kernel)) rfl
