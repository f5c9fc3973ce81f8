theorem dL_law_404 : decode cL_law 404 = .ok (.aload_n 1, 1) := by decide +kernel
theorem dL_law_405 : decode cL_law 405 = .ok (.aload_n 0, 1) := by decide +kernel
theorem dL_law_406 : decode cL_law 406 = .ok (.iload_n 3, 1) := by decide +kernel
theorem dL_law_407 : decode cL_law 407 = .ok (.iconst 1, 1) := by decide +kernel
theorem dL_law_408 : decode cL_law 408 = .ok (.iadd, 1) := by decide +kernel
theorem dL_law_409 : decode cL_law 409 = .ok (.iaload, 1) := by decide +kernel
theorem dL_law_410 : decode cL_law 410 = .ok (.aload_n 0, 1) := by decide +kernel
theorem dL_law_411 : decode cL_law 411 = .ok (.iload_n 3, 1) := by decide +kernel
theorem dL_law_412 : decode cL_law 412 = .ok (.iconst 2, 1) := by decide +kernel
theorem dL_law_413 : decode cL_law 413 = .ok (.iadd, 1) := by decide +kernel
theorem dL_law_414 : decode cL_law 414 = .ok (.iaload, 1) := by decide +kernel
theorem dL_law_415 : decode cL_law 415 = .ok (.invokevirtual 37, 3) := by decide +kernel
theorem dL_law_418 : decode cL_law 418 = .ok (.aload_n 2, 1) := by decide +kernel
theorem dL_law_419 : decode cL_law 419 = .ok (.aload_n 0, 1) := by decide +kernel
theorem dL_law_420 : decode cL_law 420 = .ok (.iload_n 3, 1) := by decide +kernel
theorem dL_law_421 : decode cL_law 421 = .ok (.iconst 1, 1) := by decide +kernel
theorem dL_law_422 : decode cL_law 422 = .ok (.iadd, 1) := by decide +kernel
theorem dL_law_423 : decode cL_law 423 = .ok (.iaload, 1) := by decide +kernel
theorem dL_law_424 : decode cL_law 424 = .ok (.aload_n 0, 1) := by decide +kernel
theorem dL_law_425 : decode cL_law 425 = .ok (.iload_n 3, 1) := by decide +kernel
theorem dL_law_426 : decode cL_law 426 = .ok (.iconst 2, 1) := by decide +kernel
theorem dL_law_427 : decode cL_law 427 = .ok (.iadd, 1) := by decide +kernel
theorem dL_law_428 : decode cL_law 428 = .ok (.iaload, 1) := by decide +kernel
theorem dL_law_429 : decode cL_law 429 = .ok (.invokevirtual 40, 3) := by decide +kernel
theorem dL_law_432 : decode cL_law 432 = .ok (.lcmp, 1) := by decide +kernel
theorem dL_law_433 : decode cL_law 433 = .ok (.ifCond .eq 1853, 3) := by decide +kernel
theorem dL_law_438 : decode cL_law 438 = .ok (.aload_n 1, 1) := by decide +kernel
theorem dL_law_439 : decode cL_law 439 = .ok (.aload_n 0, 1) := by decide +kernel
theorem dL_law_440 : decode cL_law 440 = .ok (.iload_n 3, 1) := by decide +kernel
theorem dL_law_441 : decode cL_law 441 = .ok (.iconst 1, 1) := by decide +kernel
theorem dL_law_442 : decode cL_law 442 = .ok (.iadd, 1) := by decide +kernel
theorem dL_law_443 : decode cL_law 443 = .ok (.iaload, 1) := by decide +kernel
theorem dL_law_444 : decode cL_law 444 = .ok (.aload_n 0, 1) := by decide +kernel
theorem dL_law_445 : decode cL_law 445 = .ok (.iload_n 3, 1) := by decide +kernel
theorem dL_law_446 : decode cL_law 446 = .ok (.iconst 2, 1) := by decide +kernel
theorem dL_law_447 : decode cL_law 447 = .ok (.iadd, 1) := by decide +kernel
theorem dL_law_448 : decode cL_law 448 = .ok (.iaload, 1) := by decide +kernel
theorem dL_law_449 : decode cL_law 449 = .ok (.aload_n 0, 1) := by decide +kernel
theorem dL_law_450 : decode cL_law 450 = .ok (.iload_n 3, 1) := by decide +kernel
theorem dL_law_451 : decode cL_law 451 = .ok (.iconst 3, 1) := by decide +kernel
theorem dL_law_452 : decode cL_law 452 = .ok (.iadd, 1) := by decide +kernel
theorem dL_law_453 : decode cL_law 453 = .ok (.iaload, 1) := by decide +kernel
theorem dL_law_454 : decode cL_law 454 = .ok (.aload_n 0, 1) := by decide +kernel
theorem dL_law_455 : decode cL_law 455 = .ok (.iload_n 3, 1) := by decide +kernel
theorem dL_law_456 : decode cL_law 456 = .ok (.iconst 4, 1) := by decide +kernel
theorem dL_law_457 : decode cL_law 457 = .ok (.iadd, 1) := by decide +kernel
theorem dL_law_458 : decode cL_law 458 = .ok (.iaload, 1) := by decide +kernel
theorem dL_law_459 : decode cL_law 459 = .ok (.invokevirtual 41, 3) := by decide +kernel
theorem dL_law_462 : decode cL_law 462 = .ok (.aload_n 2, 1) := by decide +kernel
theorem dL_law_463 : decode cL_law 463 = .ok (.aload_n 0, 1) := by decide +kernel
theorem dL_law_464 : decode cL_law 464 = .ok (.iload_n 3, 1) := by decide +kernel
theorem dL_law_465 : decode cL_law 465 = .ok (.iconst 1, 1) := by decide +kernel
theorem dL_law_466 : decode cL_law 466 = .ok (.iadd, 1) := by decide +kernel
theorem dL_law_467 : decode cL_law 467 = .ok (.iaload, 1) := by decide +kernel
theorem dL_law_468 : decode cL_law 468 = .ok (.aload_n 0, 1) := by decide +kernel
theorem dL_law_469 : decode cL_law 469 = .ok (.iload_n 3, 1) := by decide +kernel
theorem dL_law_470 : decode cL_law 470 = .ok (.iconst 2, 1) := by decide +kernel
theorem dL_law_471 : decode cL_law 471 = .ok (.iadd, 1) := by decide +kernel
theorem dL_law_472 : decode cL_law 472 = .ok (.iaload, 1) := by decide +kernel
theorem dL_law_473 : decode cL_law 473 = .ok (.aload_n 0, 1) := by decide +kernel
theorem dL_law_474 : decode cL_law 474 = .ok (.iload_n 3, 1) := by decide +kernel
theorem dL_law_475 : decode cL_law 475 = .ok (.iconst 3, 1) := by decide +kernel
theorem dL_law_476 : decode cL_law 476 = .ok (.iadd, 1) := by decide +kernel
theorem dL_law_477 : decode cL_law 477 = .ok (.iaload, 1) := by decide +kernel
theorem dL_law_478 : decode cL_law 478 = .ok (.aload_n 0, 1) := by decide +kernel
theorem dL_law_479 : decode cL_law 479 = .ok (.iload_n 3, 1) := by decide +kernel
theorem dL_law_480 : decode cL_law 480 = .ok (.iconst 4, 1) := by decide +kernel
theorem dL_law_481 : decode cL_law 481 = .ok (.iadd, 1) := by decide +kernel
theorem dL_law_482 : decode cL_law 482 = .ok (.iaload, 1) := by decide +kernel
theorem dL_law_483 : decode cL_law 483 = .ok (.invokevirtual 45, 3) := by decide +kernel
theorem dL_law_486 : decode cL_law 486 = .ok (.lcmp, 1) := by decide +kernel
theorem dL_law_487 : decode cL_law 487 = .ok (.ifCond .eq 1799, 3) := by decide +kernel
theorem dL_law_492 : decode cL_law 492 = .ok (.aload_n 1, 1) := by decide +kernel
theorem dL_law_493 : decode cL_law 493 = .ok (.aload_n 0, 1) := by decide +kernel
theorem dL_law_494 : decode cL_law 494 = .ok (.iload_n 3, 1) := by decide +kernel
theorem dL_law_495 : decode cL_law 495 = .ok (.iconst 1, 1) := by decide +kernel
theorem dL_law_496 : decode cL_law 496 = .ok (.iadd, 1) := by decide +kernel
theorem dL_law_497 : decode cL_law 497 = .ok (.iaload, 1) := by decide +kernel
theorem dL_law_498 : decode cL_law 498 = .ok (.aload_n 0, 1) := by decide +kernel
theorem dL_law_499 : decode cL_law 499 = .ok (.iload_n 3, 1) := by decide +kernel
theorem dL_law_500 : decode cL_law 500 = .ok (.iconst 2, 1) := by decide +kernel
theorem dL_law_501 : decode cL_law 501 = .ok (.iadd, 1) := by decide +kernel
theorem dL_law_502 : decode cL_law 502 = .ok (.iaload, 1) := by decide +kernel
theorem dL_law_503 : decode cL_law 503 = .ok (.invokevirtual 46, 3) := by decide +kernel
theorem dL_law_506 : decode cL_law 506 = .ok (.aload_n 2, 1) := by decide +kernel
theorem dL_law_507 : decode cL_law 507 = .ok (.aload_n 0, 1) := by decide +kernel
theorem dL_law_508 : decode cL_law 508 = .ok (.iload_n 3, 1) := by decide +kernel
theorem dL_law_509 : decode cL_law 509 = .ok (.iconst 1, 1) := by decide +kernel
theorem dL_law_510 : decode cL_law 510 = .ok (.iadd, 1) := by decide +kernel
theorem dL_law_511 : decode cL_law 511 = .ok (.iaload, 1) := by decide +kernel
theorem dL_law_512 : decode cL_law 512 = .ok (.aload_n 0, 1) := by decide +kernel
theorem dL_law_513 : decode cL_law 513 = .ok (.iload_n 3, 1) := by decide +kernel
theorem dL_law_514 : decode cL_law 514 = .ok (.iconst 2, 1) := by decide +kernel
theorem dL_law_515 : decode cL_law 515 = .ok (.iadd, 1) := by decide +kernel
theorem dL_law_516 : decode cL_law 516 = .ok (.iaload, 1) := by decide +kernel
theorem dL_law_517 : decode cL_law 517 = .ok (.invokevirtual 49, 3) := by decide +kernel
theorem dL_law_520 : decode cL_law 520 = .ok (.lcmp, 1) := by decide +kernel
theorem dL_law_521 : decode cL_law 521 = .ok (.ifCond .eq 1765, 3) := by decide +kernel
theorem dL_law_526 : decode cL_law 526 = .ok (.aload_n 1, 1) := by decide +kernel
theorem dL_law_527 : decode cL_law 527 = .ok (.aload_n 0, 1) := by decide +kernel
theorem dL_law_528 : decode cL_law 528 = .ok (.iload_n 3, 1) := by decide +kernel
theorem dL_law_529 : decode cL_law 529 = .ok (.iconst 1, 1) := by decide +kernel
theorem dL_law_530 : decode cL_law 530 = .ok (.iadd, 1) := by decide +kernel
theorem dL_law_531 : decode cL_law 531 = .ok (.iaload, 1) := by decide +kernel
theorem dL_law_532 : decode cL_law 532 = .ok (.aload_n 0, 1) := by decide +kernel
theorem dL_law_533 : decode cL_law 533 = .ok (.iload_n 3, 1) := by decide +kernel
theorem dL_law_534 : decode cL_law 534 = .ok (.iconst 2, 1) := by decide +kernel
theorem dL_law_535 : decode cL_law 535 = .ok (.iadd, 1) := by decide +kernel
theorem dL_law_536 : decode cL_law 536 = .ok (.iaload, 1) := by decide +kernel
theorem dL_law_537 : decode cL_law 537 = .ok (.invokevirtual 50, 3) := by decide +kernel
theorem dL_law_540 : decode cL_law 540 = .ok (.aload_n 2, 1) := by decide +kernel
theorem dL_law_541 : decode cL_law 541 = .ok (.aload_n 0, 1) := by decide +kernel
theorem dL_law_542 : decode cL_law 542 = .ok (.iload_n 3, 1) := by decide +kernel
theorem dL_law_543 : decode cL_law 543 = .ok (.iconst 1, 1) := by decide +kernel
theorem dL_law_544 : decode cL_law 544 = .ok (.iadd, 1) := by decide +kernel
theorem dL_law_545 : decode cL_law 545 = .ok (.iaload, 1) := by decide +kernel
theorem dL_law_546 : decode cL_law 546 = .ok (.aload_n 0, 1) := by decide +kernel
theorem dL_law_547 : decode cL_law 547 = .ok (.iload_n 3, 1) := by decide +kernel
theorem dL_law_548 : decode cL_law 548 = .ok (.iconst 2, 1) := by decide +kernel
theorem dL_law_549 : decode cL_law 549 = .ok (.iadd, 1) := by decide +kernel
theorem dL_law_550 : decode cL_law 550 = .ok (.iaload, 1) := by decide +kernel
theorem dL_law_551 : decode cL_law 551 = .ok (.invokevirtual 53, 3) := by decide +kernel
theorem dL_law_554 : decode cL_law 554 = .ok (.lcmp, 1) := by decide +kernel
theorem dL_law_555 : decode cL_law 555 = .ok (.ifCond .eq 1731, 3) := by decide +kernel
theorem dL_law_560 : decode cL_law 560 = .ok (.aload_n 1, 1) := by decide +kernel
theorem dL_law_561 : decode cL_law 561 = .ok (.aload_n 0, 1) := by decide +kernel
theorem dL_law_562 : decode cL_law 562 = .ok (.iload_n 3, 1) := by decide +kernel
theorem dL_law_563 : decode cL_law 563 = .ok (.iconst 1, 1) := by decide +kernel
theorem dL_law_564 : decode cL_law 564 = .ok (.iadd, 1) := by decide +kernel
theorem dL_law_565 : decode cL_law 565 = .ok (.iaload, 1) := by decide +kernel
theorem dL_law_566 : decode cL_law 566 = .ok (.aload_n 0, 1) := by decide +kernel
theorem dL_law_567 : decode cL_law 567 = .ok (.iload_n 3, 1) := by decide +kernel
theorem dL_law_568 : decode cL_law 568 = .ok (.iconst 2, 1) := by decide +kernel
theorem dL_law_569 : decode cL_law 569 = .ok (.iadd, 1) := by decide +kernel
theorem dL_law_570 : decode cL_law 570 = .ok (.iaload, 1) := by decide +kernel
theorem dL_law_571 : decode cL_law 571 = .ok (.invokevirtual 54, 3) := by decide +kernel
theorem dL_law_574 : decode cL_law 574 = .ok (.aload_n 2, 1) := by decide +kernel
theorem dL_law_575 : decode cL_law 575 = .ok (.aload_n 0, 1) := by decide +kernel
theorem dL_law_576 : decode cL_law 576 = .ok (.iload_n 3, 1) := by decide +kernel
theorem dL_law_577 : decode cL_law 577 = .ok (.iconst 1, 1) := by decide +kernel
theorem dL_law_578 : decode cL_law 578 = .ok (.iadd, 1) := by decide +kernel
theorem dL_law_579 : decode cL_law 579 = .ok (.iaload, 1) := by decide +kernel
theorem dL_law_580 : decode cL_law 580 = .ok (.aload_n 0, 1) := by decide +kernel
theorem dL_law_581 : decode cL_law 581 = .ok (.iload_n 3, 1) := by decide +kernel
theorem dL_law_582 : decode cL_law 582 = .ok (.iconst 2, 1) := by decide +kernel
theorem dL_law_583 : decode cL_law 583 = .ok (.iadd, 1) := by decide +kernel
theorem dL_law_584 : decode cL_law 584 = .ok (.iaload, 1) := by decide +kernel
theorem dL_law_585 : decode cL_law 585 = .ok (.invokevirtual 58, 3) := by decide +kernel
theorem dL_law_588 : decode cL_law 588 = .ok (.if_icmp .eq 1698, 3) := by decide +kernel
theorem sV_L_37 : SiteV RL 37 yX9_by cX9_by 6 (some .long) 2 := ⟨ml_L_37, im_X9_by, se_X9_by, ini_X9, co_X9_by, by decide +kernel⟩
theorem sV_L_40 : SiteV RL 40 yX10_by cX10_by 3 (some .long) 2 := ⟨ml_L_40, im_X10_by, se_X10_by, ini_X10, co_X10_by, by decide +kernel⟩
theorem sV_L_41 : SiteV RL 41 yX9_both cX9_both 5 (some .long) 4 := ⟨ml_L_41, im_X9_both, se_X9_both, ini_X9, co_X9_both, by decide +kernel⟩
theorem sV_L_45 : SiteV RL 45 yX10_both cX10_both 5 (some .long) 4 := ⟨ml_L_45, im_X10_both, se_X10_both, ini_X10, co_X10_both, by decide +kernel⟩
theorem sV_L_46 : SiteV RL 46 yX9_together cX9_together 6 (some .long) 2 := ⟨ml_L_46, im_X9_together, se_X9_together, ini_X9, co_X9_together, by decide +kernel⟩
theorem sV_L_49 : SiteV RL 49 yX10_together cX10_together 6 (some .long) 2 := ⟨ml_L_49, im_X10_together, se_X10_together, ini_X10, co_X10_together, by decide +kernel⟩
theorem sV_L_50 : SiteV RL 50 yX9_set cX9_set 3 (some .long) 2 := ⟨ml_L_50, im_X9_set, se_X9_set, ini_X9, co_X9_set, by decide +kernel⟩
theorem sV_L_53 : SiteV RL 53 yX10_set cX10_set 3 (some .long) 2 := ⟨ml_L_53, im_X10_set, se_X10_set, ini_X10, co_X10_set, by decide +kernel⟩
theorem sV_L_54 : SiteV RL 54 yX9_when cX9_when 6 (some .int) 2 := ⟨ml_L_54, im_X9_when, se_X9_when, ini_X9, co_X9_when, by decide +kernel⟩
theorem sV_L_58 : SiteV RL 58 yX10_when cX10_when 4 (some .int) 2 := ⟨ml_L_58, im_X10_when, se_X10_when, ini_X10, co_X10_when, by decide +kernel⟩
set_option maxHeartbeats 4000000 in
set_option maxRecDepth 100000 in
theorem lc_5 {p : Program} {e : Env} {s : State} {m : MethodId} {below : List Frame} {meth : Method} {c : Code} {l : Launch} {b L : Nat} {xs : Nat → Int32} {A : Nat → Prop} (D : va_G) (cy : Nat → ClassId) (xa ma : Nat → Nat) (fw : Nat → Int32) (hw : ∀ k : Nat, k < 4 → fw k = -1) (hL7 : L = 7) (C0 : lw_At p s m meth c b L xs) (hK : KK D cy s) (hA : ∀ q : Nat, s.heap.size ≤ q → A q) (hA2 : ∀ q : Nat, A q → s.heap.size ≤ q) (hbA : ¬ A b) {H : Heap} {locs : List Loc} (hP : va_P D vwCl [((xa 0), .inr (9, [.ref (xa 1), .ref (xa 2), .ref (xa 3), .ref (xa 4), .ref (xa 5), .ref (xa 6), .ref (xa 7), .ref (xa 8), .ref (xa 9), .int 0, .ref (xa 11), .null, .int 0, .int (-1)])), ((xa 1), .inl (cy 0, 1600, .inl (fun _ => 0))), ((xa 2), .inr (4, [.int 0, .int (-1), .ref (xa 30), .int 0, .int 0, .int 0, .int 0, .int 0, .ref (xa 31), .int 0, .int 0, .int 0])), ((xa 8), .inl (cy 4, 4, .inr (.inr (.inr (.inr (fun _ => none)))))), ((xa 9), .inl (cy 5, 3, .inr (.inr (.inr (.inr (fun _ => none)))))), ((xa 11), .inr (2, [.int 0, .int 0, .int 0, .int 0, .int 0, .int 0, .int 0, .int 0, .int 1, .int 10, .int 0, .int 0, .int 0, .int 0, .ref (xa 20), .ref (xa 21), .ref (xa 22), .ref (xa 23), .ref (xa 24), .ref (xa 25), .ref (xa 26)])), ((ma 0), .inr (10, [.int 0, .ref (ma 1), .ref (ma 2), .ref (ma 3), .ref (ma 4), .ref (ma 5), .int 0, .int 0, .int 0, .int 0, .int 0, .long 0, .int 0, .int 0, .int 0, .int (-1), .ref (ma 16), .ref (ma 17), .ref (ma 18), .ref (ma 19), .ref (ma 20), .ref (ma 21), .ref (ma 22), .ref (ma 23), .ref (ma 24), .ref (ma 25), .ref (ma 26), .ref (ma 27), .ref (ma 28), .ref (ma 29), .ref (ma 30), .ref (ma 31), .ref (ma 32), .ref (ma 33), .ref (ma 34), .ref (ma 35), .ref (ma 36), .ref (ma 37), .ref (ma 38), .ref (ma 39), .ref (ma 40), .ref (ma 41), .long 0])), ((ma 1), .inl (cy 1, 4, .inl fw)), ((ma 2), .inl (cy 1, 4, .inl (fun _ => 0))), ((ma 3), .inl (cy 2, 240, .inr (.inl (fun _ => 0)))), ((ma 5), .inl (cy 0, 1600, .inl (fun _ => 0))), ((ma 16), .inl (cy 1, 5, .inl (fun _ => 0))), ((ma 17), .inl (cy 1, 20, .inl (fun _ => 0))), ((ma 18), .inl (cy 1, 5, .inl (fun _ => 0))), ((ma 19), .inl (cy 1, 45, .inl (fun _ => 0))), ((ma 20), .inl (cy 1, 5, .inl (fun _ => 0))), ((ma 21), .inl (cy 1, 150, .inl (fun _ => 0))), ((ma 22), .inl (cy 1, 5, .inl (fun _ => 0))), ((ma 23), .inl (cy 1, 120, .inl (fun _ => 0))), ((ma 24), .inl (cy 1, 30, .inl (fun _ => 0))), ((ma 25), .inl (cy 3, 15, .inl (fun _ => 0))), ((ma 26), .inl (cy 1, 5, .inl (fun _ => 0))), ((ma 27), .inl (cy 1, 30, .inl (fun _ => 0))), ((ma 28), .inl (cy 3, 3, .inl (fun _ => 0)))] H) (hD : va_D A [((xa 0), .inr (9, [.ref (xa 1), .ref (xa 2), .ref (xa 3), .ref (xa 4), .ref (xa 5), .ref (xa 6), .ref (xa 7), .ref (xa 8), .ref (xa 9), .int 0, .ref (xa 11), .null, .int 0, .int (-1)])), ((xa 1), .inl (cy 0, 1600, .inl (fun _ => 0))), ((xa 2), .inr (4, [.int 0, .int (-1), .ref (xa 30), .int 0, .int 0, .int 0, .int 0, .int 0, .ref (xa 31), .int 0, .int 0, .int 0])), ((xa 8), .inl (cy 4, 4, .inr (.inr (.inr (.inr (fun _ => none)))))), ((xa 9), .inl (cy 5, 3, .inr (.inr (.inr (.inr (fun _ => none)))))), ((xa 11), .inr (2, [.int 0, .int 0, .int 0, .int 0, .int 0, .int 0, .int 0, .int 0, .int 1, .int 10, .int 0, .int 0, .int 0, .int 0, .ref (xa 20), .ref (xa 21), .ref (xa 22), .ref (xa 23), .ref (xa 24), .ref (xa 25), .ref (xa 26)])), ((ma 0), .inr (10, [.int 0, .ref (ma 1), .ref (ma 2), .ref (ma 3), .ref (ma 4), .ref (ma 5), .int 0, .int 0, .int 0, .int 0, .int 0, .long 0, .int 0, .int 0, .int 0, .int (-1), .ref (ma 16), .ref (ma 17), .ref (ma 18), .ref (ma 19), .ref (ma 20), .ref (ma 21), .ref (ma 22), .ref (ma 23), .ref (ma 24), .ref (ma 25), .ref (ma 26), .ref (ma 27), .ref (ma 28), .ref (ma 29), .ref (ma 30), .ref (ma 31), .ref (ma 32), .ref (ma 33), .ref (ma 34), .ref (ma 35), .ref (ma 36), .ref (ma 37), .ref (ma 38), .ref (ma 39), .ref (ma 40), .ref (ma 41), .long 0])), ((ma 1), .inl (cy 1, 4, .inl fw)), ((ma 2), .inl (cy 1, 4, .inl (fun _ => 0))), ((ma 3), .inl (cy 2, 240, .inr (.inl (fun _ => 0)))), ((ma 5), .inl (cy 0, 1600, .inl (fun _ => 0))), ((ma 16), .inl (cy 1, 5, .inl (fun _ => 0))), ((ma 17), .inl (cy 1, 20, .inl (fun _ => 0))), ((ma 18), .inl (cy 1, 5, .inl (fun _ => 0))), ((ma 19), .inl (cy 1, 45, .inl (fun _ => 0))), ((ma 20), .inl (cy 1, 5, .inl (fun _ => 0))), ((ma 21), .inl (cy 1, 150, .inl (fun _ => 0))), ((ma 22), .inl (cy 1, 5, .inl (fun _ => 0))), ((ma 23), .inl (cy 1, 120, .inl (fun _ => 0))), ((ma 24), .inl (cy 1, 30, .inl (fun _ => 0))), ((ma 25), .inl (cy 3, 15, .inl (fun _ => 0))), ((ma 26), .inl (cy 1, 5, .inl (fun _ => 0))), ((ma 27), .inl (cy 1, 30, .inl (fun _ => 0))), ((ma 28), .inl (cy 3, 3, .inl (fun _ => 0)))]) (hS : va_S A s.heap H locs) {ls : Array Slot} (hl : lv_has ls 4 [(3, .int 0), (2, .ref (ma 0)), (1, .ref (xa 0)), (0, .ref b)]) : W p l e room_1 s m #[Value.ref b] below meth c H locs 82 108979 (lw_Z below #[Value.ref b] s) (F0 m 404 ls []) := by
  obtain ⟨hx, hb, hr, hml, hown, hts, hX, hbl, hlocks, hgv⟩ := id C0
  have hown : s.vm.findClass RL = some m.cls := hown
  have hb : c.code = cL_law := hb
  have hts : ∀ w ∈ GW, w.before #[Value.ref b] s = true := fun w h => hts w (gw_tbl w h)
  refine lv_aload_n hx hb dL_law_404 rfl (lv_at hl 2 rfl) ?_
  refine lv_aload_n hx hb dL_law_405 rfl (lv_at hl 3 rfl) ?_
  refine lv_iload_n hx hb dL_law_406 rfl (lv_at hl 0 rfl) ?_
  refine lv_iconst (v := 1) hx hb dL_law_407 (by decide) ?_
  refine lv_iadd hx hb dL_law_408 ?_
  refine lv_topi (fun z_1 ez_1 => ?_)
  have ez_1 : z_1 = 1 := ez_1.trans (by decide)
  subst ez_1
  refine va_sld (i := 1) hx hb hX hbl hbA hS (by subst hL7; exact vp_in_iff.mpr (by decide)) dL_law_409 ?_
  refine W.eq (g2 := F0 m 410 ls [.int (xs 1), .ref (xa 0)]) rfl ?_
  refine lv_aload_n hx hb dL_law_410 rfl (lv_at hl 3 rfl) ?_
  refine lv_iload_n hx hb dL_law_411 rfl (lv_at hl 0 rfl) ?_
  refine lv_iconst (v := 2) hx hb dL_law_412 (by decide) ?_
  refine lv_iadd hx hb dL_law_413 ?_
  refine lv_topi (fun z_2 ez_2 => ?_)
  have ez_2 : z_2 = 2 := ez_2.trans (by decide)
  subst ez_2
  refine va_sld (i := 2) hx hb hX hbl hbA hS (by subst hL7; exact vp_in_iff.mpr (by decide)) dL_law_414 ?_
  refine W.eq (g2 := F0 m 415 ls [.int (xs 2), .int (xs 1), .ref (xa 0)]) rfl ?_
  refine pu_calll (runV (As := [.int (xs 1), .int (xs 2)]) (rest := []) ⟨hx, hb, hml, hown, hts⟩ (f_X9_by l D cy xa (xs 1) (xs 2) ) sV_L_37 hK (va_recv hK.1 hP (ci := 9) (q0 := 0) rfl rfl) (hP.sub (ws' := [((xa 0), .inr (9, [.ref (xa 1), .ref (xa 2), .ref (xa 3), .ref (xa 4), .ref (xa 5), .ref (xa 6), .ref (xa 7), .ref (xa 8), .ref (xa 9), .int 0, .ref (xa 11), .null, .int 0, .int (-1)])), ((xa 11), .inr (2, [.int 0, .int 0, .int 0, .int 0, .int 0, .int 0, .int 0, .int 0, .int 1, .int 10, .int 0, .int 0, .int 0, .int 0, .ref (xa 20), .ref (xa 21), .ref (xa 22), .ref (xa 23), .ref (xa 24), .ref (xa 25), .ref (xa 26)]))]) [0, 5] rfl) ⟨Nat.le_of_ble_eq_true rfl, Nat.le_of_ble_eq_true rfl⟩ rfl hl.1 rfl (Nat.le_of_ble_eq_true rfl) dL_law_415 ⟨Nat.le_of_ble_eq_true rfl, Nat.le_of_ble_eq_true rfl⟩) (fun r_3 hr_3 => ?_)
  have er_3 := hr_3
  subst er_3
  refine W.eq (g2 := F0 m 418 ls [.long (-2)]) rfl ?_
  refine lv_aload_n hx hb dL_law_418 rfl (lv_at hl 1 rfl) ?_
  refine lv_aload_n hx hb dL_law_419 rfl (lv_at hl 3 rfl) ?_
  refine lv_iload_n hx hb dL_law_420 rfl (lv_at hl 0 rfl) ?_
  refine lv_iconst (v := 1) hx hb dL_law_421 (by decide) ?_
  refine lv_iadd hx hb dL_law_422 ?_
  refine lv_topi (fun z_4 ez_4 => ?_)
  have ez_4 : z_4 = 1 := ez_4.trans (by decide)
  subst ez_4
  refine va_sld (i := 1) hx hb hX hbl hbA hS (by subst hL7; exact vp_in_iff.mpr (by decide)) dL_law_423 ?_
  refine W.eq (g2 := F0 m 424 ls [.int (xs 1), .ref (ma 0), .long (-2)]) rfl ?_
  refine lv_aload_n hx hb dL_law_424 rfl (lv_at hl 3 rfl) ?_
  refine lv_iload_n hx hb dL_law_425 rfl (lv_at hl 0 rfl) ?_
  refine lv_iconst (v := 2) hx hb dL_law_426 (by decide) ?_
  refine lv_iadd hx hb dL_law_427 ?_
  refine lv_topi (fun z_5 ez_5 => ?_)
  have ez_5 : z_5 = 2 := ez_5.trans (by decide)
  subst ez_5
  refine va_sld (i := 2) hx hb hX hbl hbA hS (by subst hL7; exact vp_in_iff.mpr (by decide)) dL_law_428 ?_
  refine W.eq (g2 := F0 m 429 ls [.int (xs 2), .int (xs 1), .ref (ma 0), .long (-2)]) rfl ?_
  refine fw_call (wc := [((ma 0), .inr (10, [.int 0, .ref (ma 1), .ref (ma 2), .ref (ma 3), .ref (ma 4), .ref (ma 5), .int 0, .int 0, .int 0, .int 0, .int 0, .long 0, .int 0, .int 0, .int 0, .int (-1), .ref (ma 16), .ref (ma 17), .ref (ma 18), .ref (ma 19), .ref (ma 20), .ref (ma 21), .ref (ma 22), .ref (ma 23), .ref (ma 24), .ref (ma 25), .ref (ma 26), .ref (ma 27), .ref (ma 28), .ref (ma 29), .ref (ma 30), .ref (ma 31), .ref (ma 32), .ref (ma 33), .ref (ma 34), .ref (ma 35), .ref (ma 36), .ref (ma 37), .ref (ma 38), .ref (ma 39), .ref (ma 40), .ref (ma 41), .long 0])), ((ma 20), .inl (cy 1, 5, .inl (fun _ => 0))), ((ma 18), .inl (cy 1, 5, .inl (fun _ => 0))), ((ma 17), .inl (cy 1, 20, .inl (fun _ => 0)))]) (wr := [((xa 0), .inr (9, [.ref (xa 1), .ref (xa 2), .ref (xa 3), .ref (xa 4), .ref (xa 5), .ref (xa 6), .ref (xa 7), .ref (xa 8), .ref (xa 9), .int 0, .ref (xa 11), .null, .int 0, .int (-1)])), ((xa 1), .inl (cy 0, 1600, .inl (fun _ => 0))), ((xa 2), .inr (4, [.int 0, .int (-1), .ref (xa 30), .int 0, .int 0, .int 0, .int 0, .int 0, .ref (xa 31), .int 0, .int 0, .int 0])), ((xa 8), .inl (cy 4, 4, .inr (.inr (.inr (.inr (fun _ => none)))))), ((xa 9), .inl (cy 5, 3, .inr (.inr (.inr (.inr (fun _ => none)))))), ((xa 11), .inr (2, [.int 0, .int 0, .int 0, .int 0, .int 0, .int 0, .int 0, .int 0, .int 1, .int 10, .int 0, .int 0, .int 0, .int 0, .ref (xa 20), .ref (xa 21), .ref (xa 22), .ref (xa 23), .ref (xa 24), .ref (xa 25), .ref (xa 26)])), ((ma 1), .inl (cy 1, 4, .inl fw)), ((ma 2), .inl (cy 1, 4, .inl (fun _ => 0))), ((ma 3), .inl (cy 2, 240, .inr (.inl (fun _ => 0)))), ((ma 5), .inl (cy 0, 1600, .inl (fun _ => 0))), ((ma 16), .inl (cy 1, 5, .inl (fun _ => 0))), ((ma 19), .inl (cy 1, 45, .inl (fun _ => 0))), ((ma 21), .inl (cy 1, 150, .inl (fun _ => 0))), ((ma 22), .inl (cy 1, 5, .inl (fun _ => 0))), ((ma 23), .inl (cy 1, 120, .inl (fun _ => 0))), ((ma 24), .inl (cy 1, 30, .inl (fun _ => 0))), ((ma 25), .inl (cy 3, 15, .inl (fun _ => 0))), ((ma 26), .inl (cy 1, 5, .inl (fun _ => 0))), ((ma 27), .inl (cy 1, 30, .inl (fun _ => 0))), ((ma 28), .inl (cy 3, 3, .inl (fun _ => 0)))]) (runV (As := [.int (xs 1), .int (xs 2)]) (rest := [.long (-2)]) ⟨hx, hb, hml, hown, hts⟩ (g_X10_by l D cy ma (xs 1) (xs 2)  H.size) sV_L_40 hK (va_recv hK.1 hP (ci := 10) (q0 := 6) rfl rfl) (PW.of hP hD [6, 15, 13, 12] (by decide) rfl rfl) ⟨Nat.le_of_ble_eq_true rfl, Nat.le_of_ble_eq_true rfl⟩ rfl hl.1 rfl (Nat.le_of_ble_eq_true rfl) dL_law_429 ⟨Nat.le_of_ble_eq_true rfl, Nat.le_of_ble_eq_true rfl⟩) hP hD hS hA [6, 15, 13, 12] [0, 1, 2, 3, 4, 5, 7, 8, 9, 10, 11, 14, 16, 17, 18, 19, 20, 21, 22, 23] rfl rfl (by decide) (by decide) (fun v u_6 H locs hv hP hD hS => ?_)
  have hP : va_P D vwCl [((xa 0), .inr (9, [.ref (xa 1), .ref (xa 2), .ref (xa 3), .ref (xa 4), .ref (xa 5), .ref (xa 6), .ref (xa 7), .ref (xa 8), .ref (xa 9), .int 0, .ref (xa 11), .null, .int 0, .int (-1)])), ((xa 1), .inl (cy 0, 1600, .inl (fun _ => 0))), ((xa 2), .inr (4, [.int 0, .int (-1), .ref (xa 30), .int 0, .int 0, .int 0, .int 0, .int 0, .ref (xa 31), .int 0, .int 0, .int 0])), ((xa 8), .inl (cy 4, 4, .inr (.inr (.inr (.inr (fun _ => none)))))), ((xa 9), .inl (cy 5, 3, .inr (.inr (.inr (.inr (fun _ => none)))))), ((xa 11), .inr (2, [.int 0, .int 0, .int 0, .int 0, .int 0, .int 0, .int 0, .int 0, .int 1, .int 10, .int 0, .int 0, .int 0, .int 0, .ref (xa 20), .ref (xa 21), .ref (xa 22), .ref (xa 23), .ref (xa 24), .ref (xa 25), .ref (xa 26)])), ((ma 1), .inl (cy 1, 4, .inl fw)), ((ma 2), .inl (cy 1, 4, .inl (fun _ => 0))), ((ma 3), .inl (cy 2, 240, .inr (.inl (fun _ => 0)))), ((ma 5), .inl (cy 0, 1600, .inl (fun _ => 0))), ((ma 16), .inl (cy 1, 5, .inl (fun _ => 0))), ((ma 19), .inl (cy 1, 45, .inl (fun _ => 0))), ((ma 21), .inl (cy 1, 150, .inl (fun _ => 0))), ((ma 22), .inl (cy 1, 5, .inl (fun _ => 0))), ((ma 23), .inl (cy 1, 120, .inl (fun _ => 0))), ((ma 24), .inl (cy 1, 30, .inl (fun _ => 0))), ((ma 25), .inl (cy 3, 15, .inl (fun _ => 0))), ((ma 26), .inl (cy 1, 5, .inl (fun _ => 0))), ((ma 27), .inl (cy 1, 30, .inl (fun _ => 0))), ((ma 28), .inl (cy 3, 3, .inl (fun _ => 0)))] H := hP
  have hD : va_D A [((xa 0), .inr (9, [.ref (xa 1), .ref (xa 2), .ref (xa 3), .ref (xa 4), .ref (xa 5), .ref (xa 6), .ref (xa 7), .ref (xa 8), .ref (xa 9), .int 0, .ref (xa 11), .null, .int 0, .int (-1)])), ((xa 1), .inl (cy 0, 1600, .inl (fun _ => 0))), ((xa 2), .inr (4, [.int 0, .int (-1), .ref (xa 30), .int 0, .int 0, .int 0, .int 0, .int 0, .ref (xa 31), .int 0, .int 0, .int 0])), ((xa 8), .inl (cy 4, 4, .inr (.inr (.inr (.inr (fun _ => none)))))), ((xa 9), .inl (cy 5, 3, .inr (.inr (.inr (.inr (fun _ => none)))))), ((xa 11), .inr (2, [.int 0, .int 0, .int 0, .int 0, .int 0, .int 0, .int 0, .int 0, .int 1, .int 10, .int 0, .int 0, .int 0, .int 0, .ref (xa 20), .ref (xa 21), .ref (xa 22), .ref (xa 23), .ref (xa 24), .ref (xa 25), .ref (xa 26)])), ((ma 1), .inl (cy 1, 4, .inl fw)), ((ma 2), .inl (cy 1, 4, .inl (fun _ => 0))), ((ma 3), .inl (cy 2, 240, .inr (.inl (fun _ => 0)))), ((ma 5), .inl (cy 0, 1600, .inl (fun _ => 0))), ((ma 16), .inl (cy 1, 5, .inl (fun _ => 0))), ((ma 19), .inl (cy 1, 45, .inl (fun _ => 0))), ((ma 21), .inl (cy 1, 150, .inl (fun _ => 0))), ((ma 22), .inl (cy 1, 5, .inl (fun _ => 0))), ((ma 23), .inl (cy 1, 120, .inl (fun _ => 0))), ((ma 24), .inl (cy 1, 30, .inl (fun _ => 0))), ((ma 25), .inl (cy 3, 15, .inl (fun _ => 0))), ((ma 26), .inl (cy 1, 5, .inl (fun _ => 0))), ((ma 27), .inl (cy 1, 30, .inl (fun _ => 0))), ((ma 28), .inl (cy 3, 3, .inl (fun _ => 0)))] := hD
  obtain ⟨r_7, rfl, hr_7⟩ := hv
  have er_7 := hr_7
  subst er_7
  refine W.eq (g2 := F0 m 432 ls [.long (-2), .long (-2)]) rfl ?_
  refine W.lcmp hx hb dL_law_432 ?_
  refine lv_topi (fun z_8 ez_8 => ?_)
  have ez_8 : z_8 = 0 := ez_8.trans (by decide)
  subst ez_8
  refine lv_if_eq (tgt := 2286) hx hb dL_law_433 (by decide) (fun _ => ?_) (fun c_9 => absurd (by decide) c_9)
  exact law_end C0 hL7 hA2 hbA hS (lv_sub hl [0, 1, 2, 3] rfl) (Nat.le_of_ble_eq_true rfl) (Nat.le_of_ble_eq_true rfl)
set_option maxHeartbeats 4000000 in
set_option maxRecDepth 100000 in
theorem lc_6 {p : Program} {e : Env} {s : State} {m : MethodId} {below : List Frame} {meth : Method} {c : Code} {l : Launch} {b L : Nat} {xs : Nat → Int32} {A : Nat → Prop} (D : va_G) (cy : Nat → ClassId) (xa ma : Nat → Nat) (fw : Nat → Int32) (hw : ∀ k : Nat, k < 4 → fw k = -1) (hL7 : L = 7) (C0 : lw_At p s m meth c b L xs) (hK : KK D cy s) (hA : ∀ q : Nat, s.heap.size ≤ q → A q) (hA2 : ∀ q : Nat, A q → s.heap.size ≤ q) (hbA : ¬ A b) {H : Heap} {locs : List Loc} (hP : va_P D vwCl [((xa 0), .inr (9, [.ref (xa 1), .ref (xa 2), .ref (xa 3), .ref (xa 4), .ref (xa 5), .ref (xa 6), .ref (xa 7), .ref (xa 8), .ref (xa 9), .int 0, .ref (xa 11), .null, .int 0, .int (-1)])), ((xa 1), .inl (cy 0, 1600, .inl (fun _ => 0))), ((xa 2), .inr (4, [.int 0, .int (-1), .ref (xa 30), .int 0, .int 0, .int 0, .int 0, .int 0, .ref (xa 31), .int 0, .int 0, .int 0])), ((xa 8), .inl (cy 4, 4, .inr (.inr (.inr (.inr (fun _ => none)))))), ((xa 9), .inl (cy 5, 3, .inr (.inr (.inr (.inr (fun _ => none)))))), ((xa 11), .inr (2, [.int 0, .int 0, .int 0, .int 0, .int 0, .int 0, .int 0, .int 0, .int 1, .int 10, .int 0, .int 0, .int 0, .int 0, .ref (xa 20), .ref (xa 21), .ref (xa 22), .ref (xa 23), .ref (xa 24), .ref (xa 25), .ref (xa 26)])), ((ma 0), .inr (10, [.int 0, .ref (ma 1), .ref (ma 2), .ref (ma 3), .ref (ma 4), .ref (ma 5), .int 0, .int 0, .int 0, .int 0, .int 0, .long 0, .int 0, .int 0, .int 0, .int (-1), .ref (ma 16), .ref (ma 17), .ref (ma 18), .ref (ma 19), .ref (ma 20), .ref (ma 21), .ref (ma 22), .ref (ma 23), .ref (ma 24), .ref (ma 25), .ref (ma 26), .ref (ma 27), .ref (ma 28), .ref (ma 29), .ref (ma 30), .ref (ma 31), .ref (ma 32), .ref (ma 33), .ref (ma 34), .ref (ma 35), .ref (ma 36), .ref (ma 37), .ref (ma 38), .ref (ma 39), .ref (ma 40), .ref (ma 41), .long 0])), ((ma 1), .inl (cy 1, 4, .inl fw)), ((ma 2), .inl (cy 1, 4, .inl (fun _ => 0))), ((ma 3), .inl (cy 2, 240, .inr (.inl (fun _ => 0)))), ((ma 5), .inl (cy 0, 1600, .inl (fun _ => 0))), ((ma 16), .inl (cy 1, 5, .inl (fun _ => 0))), ((ma 17), .inl (cy 1, 20, .inl (fun _ => 0))), ((ma 18), .inl (cy 1, 5, .inl (fun _ => 0))), ((ma 19), .inl (cy 1, 45, .inl (fun _ => 0))), ((ma 20), .inl (cy 1, 5, .inl (fun _ => 0))), ((ma 21), .inl (cy 1, 150, .inl (fun _ => 0))), ((ma 22), .inl (cy 1, 5, .inl (fun _ => 0))), ((ma 23), .inl (cy 1, 120, .inl (fun _ => 0))), ((ma 24), .inl (cy 1, 30, .inl (fun _ => 0))), ((ma 25), .inl (cy 3, 15, .inl (fun _ => 0))), ((ma 26), .inl (cy 1, 5, .inl (fun _ => 0))), ((ma 27), .inl (cy 1, 30, .inl (fun _ => 0))), ((ma 28), .inl (cy 3, 3, .inl (fun _ => 0)))] H) (hD : va_D A [((xa 0), .inr (9, [.ref (xa 1), .ref (xa 2), .ref (xa 3), .ref (xa 4), .ref (xa 5), .ref (xa 6), .ref (xa 7), .ref (xa 8), .ref (xa 9), .int 0, .ref (xa 11), .null, .int 0, .int (-1)])), ((xa 1), .inl (cy 0, 1600, .inl (fun _ => 0))), ((xa 2), .inr (4, [.int 0, .int (-1), .ref (xa 30), .int 0, .int 0, .int 0, .int 0, .int 0, .ref (xa 31), .int 0, .int 0, .int 0])), ((xa 8), .inl (cy 4, 4, .inr (.inr (.inr (.inr (fun _ => none)))))), ((xa 9), .inl (cy 5, 3, .inr (.inr (.inr (.inr (fun _ => none)))))), ((xa 11), .inr (2, [.int 0, .int 0, .int 0, .int 0, .int 0, .int 0, .int 0, .int 0, .int 1, .int 10, .int 0, .int 0, .int 0, .int 0, .ref (xa 20), .ref (xa 21), .ref (xa 22), .ref (xa 23), .ref (xa 24), .ref (xa 25), .ref (xa 26)])), ((ma 0), .inr (10, [.int 0, .ref (ma 1), .ref (ma 2), .ref (ma 3), .ref (ma 4), .ref (ma 5), .int 0, .int 0, .int 0, .int 0, .int 0, .long 0, .int 0, .int 0, .int 0, .int (-1), .ref (ma 16), .ref (ma 17), .ref (ma 18), .ref (ma 19), .ref (ma 20), .ref (ma 21), .ref (ma 22), .ref (ma 23), .ref (ma 24), .ref (ma 25), .ref (ma 26), .ref (ma 27), .ref (ma 28), .ref (ma 29), .ref (ma 30), .ref (ma 31), .ref (ma 32), .ref (ma 33), .ref (ma 34), .ref (ma 35), .ref (ma 36), .ref (ma 37), .ref (ma 38), .ref (ma 39), .ref (ma 40), .ref (ma 41), .long 0])), ((ma 1), .inl (cy 1, 4, .inl fw)), ((ma 2), .inl (cy 1, 4, .inl (fun _ => 0))), ((ma 3), .inl (cy 2, 240, .inr (.inl (fun _ => 0)))), ((ma 5), .inl (cy 0, 1600, .inl (fun _ => 0))), ((ma 16), .inl (cy 1, 5, .inl (fun _ => 0))), ((ma 17), .inl (cy 1, 20, .inl (fun _ => 0))), ((ma 18), .inl (cy 1, 5, .inl (fun _ => 0))), ((ma 19), .inl (cy 1, 45, .inl (fun _ => 0))), ((ma 20), .inl (cy 1, 5, .inl (fun _ => 0))), ((ma 21), .inl (cy 1, 150, .inl (fun _ => 0))), ((ma 22), .inl (cy 1, 5, .inl (fun _ => 0))), ((ma 23), .inl (cy 1, 120, .inl (fun _ => 0))), ((ma 24), .inl (cy 1, 30, .inl (fun _ => 0))), ((ma 25), .inl (cy 3, 15, .inl (fun _ => 0))), ((ma 26), .inl (cy 1, 5, .inl (fun _ => 0))), ((ma 27), .inl (cy 1, 30, .inl (fun _ => 0))), ((ma 28), .inl (cy 3, 3, .inl (fun _ => 0)))]) (hS : va_S A s.heap H locs) {ls : Array Slot} (hl : lv_has ls 4 [(3, .int 0), (2, .ref (ma 0)), (1, .ref (xa 0)), (0, .ref b)]) : W p l e room_1 s m #[Value.ref b] below meth c H locs 82 108979 (lw_Z below #[Value.ref b] s) (F0 m 438 ls []) := by
  obtain ⟨hx, hb, hr, hml, hown, hts, hX, hbl, hlocks, hgv⟩ := id C0
  have hown : s.vm.findClass RL = some m.cls := hown
  have hb : c.code = cL_law := hb
  have hts : ∀ w ∈ GW, w.before #[Value.ref b] s = true := fun w h => hts w (gw_tbl w h)
  refine lv_aload_n hx hb dL_law_438 rfl (lv_at hl 2 rfl) ?_
  refine lv_aload_n hx hb dL_law_439 rfl (lv_at hl 3 rfl) ?_
  refine lv_iload_n hx hb dL_law_440 rfl (lv_at hl 0 rfl) ?_
  refine lv_iconst (v := 1) hx hb dL_law_441 (by decide) ?_
  refine lv_iadd hx hb dL_law_442 ?_
  refine lv_topi (fun z_1 ez_1 => ?_)
  have ez_1 : z_1 = 1 := ez_1.trans (by decide)
  subst ez_1
  refine va_sld (i := 1) hx hb hX hbl hbA hS (by subst hL7; exact vp_in_iff.mpr (by decide)) dL_law_443 ?_
  refine W.eq (g2 := F0 m 444 ls [.int (xs 1), .ref (xa 0)]) rfl ?_
  refine lv_aload_n hx hb dL_law_444 rfl (lv_at hl 3 rfl) ?_
  refine lv_iload_n hx hb dL_law_445 rfl (lv_at hl 0 rfl) ?_
  refine lv_iconst (v := 2) hx hb dL_law_446 (by decide) ?_
  refine lv_iadd hx hb dL_law_447 ?_
  refine lv_topi (fun z_2 ez_2 => ?_)
  have ez_2 : z_2 = 2 := ez_2.trans (by decide)
  subst ez_2
  refine va_sld (i := 2) hx hb hX hbl hbA hS (by subst hL7; exact vp_in_iff.mpr (by decide)) dL_law_448 ?_
  refine W.eq (g2 := F0 m 449 ls [.int (xs 2), .int (xs 1), .ref (xa 0)]) rfl ?_
  refine lv_aload_n hx hb dL_law_449 rfl (lv_at hl 3 rfl) ?_
  refine lv_iload_n hx hb dL_law_450 rfl (lv_at hl 0 rfl) ?_
  refine lv_iconst (v := 3) hx hb dL_law_451 (by decide) ?_
  refine lv_iadd hx hb dL_law_452 ?_
  refine lv_topi (fun z_3 ez_3 => ?_)
  have ez_3 : z_3 = 3 := ez_3.trans (by decide)
  subst ez_3
  refine va_sld (i := 3) hx hb hX hbl hbA hS (by subst hL7; exact vp_in_iff.mpr (by decide)) dL_law_453 ?_
  refine W.eq (g2 := F0 m 454 ls [.int (xs 3), .int (xs 2), .int (xs 1), .ref (xa 0)]) rfl ?_
  refine lv_aload_n hx hb dL_law_454 rfl (lv_at hl 3 rfl) ?_
  refine lv_iload_n hx hb dL_law_455 rfl (lv_at hl 0 rfl) ?_
  refine lv_iconst (v := 4) hx hb dL_law_456 (by decide) ?_
  refine lv_iadd hx hb dL_law_457 ?_
  refine lv_topi (fun z_4 ez_4 => ?_)
  have ez_4 : z_4 = 4 := ez_4.trans (by decide)
  subst ez_4
  refine va_sld (i := 4) hx hb hX hbl hbA hS (by subst hL7; exact vp_in_iff.mpr (by decide)) dL_law_458 ?_
  refine W.eq (g2 := F0 m 459 ls [.int (xs 4), .int (xs 3), .int (xs 2), .int (xs 1), .ref (xa 0)]) rfl ?_
  refine pu_calll (runV (As := [.int (xs 1), .int (xs 2), .int (xs 3), .int (xs 4)]) (rest := []) ⟨hx, hb, hml, hown, hts⟩ (f_X9_both l D cy xa (xs 1) (xs 2) (xs 3) (xs 4) ) sV_L_41 hK (va_recv hK.1 hP (ci := 9) (q0 := 0) rfl rfl) (hP.sub (ws' := [((xa 0), .inr (9, [.ref (xa 1), .ref (xa 2), .ref (xa 3), .ref (xa 4), .ref (xa 5), .ref (xa 6), .ref (xa 7), .ref (xa 8), .ref (xa 9), .int 0, .ref (xa 11), .null, .int 0, .int (-1)])), ((xa 11), .inr (2, [.int 0, .int 0, .int 0, .int 0, .int 0, .int 0, .int 0, .int 0, .int 1, .int 10, .int 0, .int 0, .int 0, .int 0, .ref (xa 20), .ref (xa 21), .ref (xa 22), .ref (xa 23), .ref (xa 24), .ref (xa 25), .ref (xa 26)]))]) [0, 5] rfl) ⟨Nat.le_of_ble_eq_true rfl, Nat.le_of_ble_eq_true rfl⟩ rfl hl.1 rfl (Nat.le_of_ble_eq_true rfl) dL_law_459 ⟨Nat.le_of_ble_eq_true rfl, Nat.le_of_ble_eq_true rfl⟩) (fun r_5 hr_5 => ?_)
  have er_5 := hr_5
  subst er_5
  refine W.eq (g2 := F0 m 462 ls [.long (-2)]) rfl ?_
  refine lv_aload_n hx hb dL_law_462 rfl (lv_at hl 1 rfl) ?_
  refine lv_aload_n hx hb dL_law_463 rfl (lv_at hl 3 rfl) ?_
  refine lv_iload_n hx hb dL_law_464 rfl (lv_at hl 0 rfl) ?_
  refine lv_iconst (v := 1) hx hb dL_law_465 (by decide) ?_
  refine lv_iadd hx hb dL_law_466 ?_
  refine lv_topi (fun z_6 ez_6 => ?_)
  have ez_6 : z_6 = 1 := ez_6.trans (by decide)
  subst ez_6
  refine va_sld (i := 1) hx hb hX hbl hbA hS (by subst hL7; exact vp_in_iff.mpr (by decide)) dL_law_467 ?_
  refine W.eq (g2 := F0 m 468 ls [.int (xs 1), .ref (ma 0), .long (-2)]) rfl ?_
  refine lv_aload_n hx hb dL_law_468 rfl (lv_at hl 3 rfl) ?_
  refine lv_iload_n hx hb dL_law_469 rfl (lv_at hl 0 rfl) ?_
  refine lv_iconst (v := 2) hx hb dL_law_470 (by decide) ?_
  refine lv_iadd hx hb dL_law_471 ?_
  refine lv_topi (fun z_7 ez_7 => ?_)
  have ez_7 : z_7 = 2 := ez_7.trans (by decide)
  subst ez_7
  refine va_sld (i := 2) hx hb hX hbl hbA hS (by subst hL7; exact vp_in_iff.mpr (by decide)) dL_law_472 ?_
  refine W.eq (g2 := F0 m 473 ls [.int (xs 2), .int (xs 1), .ref (ma 0), .long (-2)]) rfl ?_
  refine lv_aload_n hx hb dL_law_473 rfl (lv_at hl 3 rfl) ?_
  refine lv_iload_n hx hb dL_law_474 rfl (lv_at hl 0 rfl) ?_
  refine lv_iconst (v := 3) hx hb dL_law_475 (by decide) ?_
  refine lv_iadd hx hb dL_law_476 ?_
  refine lv_topi (fun z_8 ez_8 => ?_)
  have ez_8 : z_8 = 3 := ez_8.trans (by decide)
  subst ez_8
  refine va_sld (i := 3) hx hb hX hbl hbA hS (by subst hL7; exact vp_in_iff.mpr (by decide)) dL_law_477 ?_
  refine W.eq (g2 := F0 m 478 ls [.int (xs 3), .int (xs 2), .int (xs 1), .ref (ma 0), .long (-2)]) rfl ?_
  refine lv_aload_n hx hb dL_law_478 rfl (lv_at hl 3 rfl) ?_
  refine lv_iload_n hx hb dL_law_479 rfl (lv_at hl 0 rfl) ?_
  refine lv_iconst (v := 4) hx hb dL_law_480 (by decide) ?_
  refine lv_iadd hx hb dL_law_481 ?_
  refine lv_topi (fun z_9 ez_9 => ?_)
  have ez_9 : z_9 = 4 := ez_9.trans (by decide)
  subst ez_9
  refine va_sld (i := 4) hx hb hX hbl hbA hS (by subst hL7; exact vp_in_iff.mpr (by decide)) dL_law_482 ?_
  refine W.eq (g2 := F0 m 483 ls [.int (xs 4), .int (xs 3), .int (xs 2), .int (xs 1), .ref (ma 0), .long (-2)]) rfl ?_
  refine fw_call (wc := [((ma 0), .inr (10, [.int 0, .ref (ma 1), .ref (ma 2), .ref (ma 3), .ref (ma 4), .ref (ma 5), .int 0, .int 0, .int 0, .int 0, .int 0, .long 0, .int 0, .int 0, .int 0, .int (-1), .ref (ma 16), .ref (ma 17), .ref (ma 18), .ref (ma 19), .ref (ma 20), .ref (ma 21), .ref (ma 22), .ref (ma 23), .ref (ma 24), .ref (ma 25), .ref (ma 26), .ref (ma 27), .ref (ma 28), .ref (ma 29), .ref (ma 30), .ref (ma 31), .ref (ma 32), .ref (ma 33), .ref (ma 34), .ref (ma 35), .ref (ma 36), .ref (ma 37), .ref (ma 38), .ref (ma 39), .ref (ma 40), .ref (ma 41), .long 0])), ((ma 20), .inl (cy 1, 5, .inl (fun _ => 0))), ((ma 18), .inl (cy 1, 5, .inl (fun _ => 0))), ((ma 17), .inl (cy 1, 20, .inl (fun _ => 0)))]) (wr := [((xa 0), .inr (9, [.ref (xa 1), .ref (xa 2), .ref (xa 3), .ref (xa 4), .ref (xa 5), .ref (xa 6), .ref (xa 7), .ref (xa 8), .ref (xa 9), .int 0, .ref (xa 11), .null, .int 0, .int (-1)])), ((xa 1), .inl (cy 0, 1600, .inl (fun _ => 0))), ((xa 2), .inr (4, [.int 0, .int (-1), .ref (xa 30), .int 0, .int 0, .int 0, .int 0, .int 0, .ref (xa 31), .int 0, .int 0, .int 0])), ((xa 8), .inl (cy 4, 4, .inr (.inr (.inr (.inr (fun _ => none)))))), ((xa 9), .inl (cy 5, 3, .inr (.inr (.inr (.inr (fun _ => none)))))), ((xa 11), .inr (2, [.int 0, .int 0, .int 0, .int 0, .int 0, .int 0, .int 0, .int 0, .int 1, .int 10, .int 0, .int 0, .int 0, .int 0, .ref (xa 20), .ref (xa 21), .ref (xa 22), .ref (xa 23), .ref (xa 24), .ref (xa 25), .ref (xa 26)])), ((ma 1), .inl (cy 1, 4, .inl fw)), ((ma 2), .inl (cy 1, 4, .inl (fun _ => 0))), ((ma 3), .inl (cy 2, 240, .inr (.inl (fun _ => 0)))), ((ma 5), .inl (cy 0, 1600, .inl (fun _ => 0))), ((ma 16), .inl (cy 1, 5, .inl (fun _ => 0))), ((ma 19), .inl (cy 1, 45, .inl (fun _ => 0))), ((ma 21), .inl (cy 1, 150, .inl (fun _ => 0))), ((ma 22), .inl (cy 1, 5, .inl (fun _ => 0))), ((ma 23), .inl (cy 1, 120, .inl (fun _ => 0))), ((ma 24), .inl (cy 1, 30, .inl (fun _ => 0))), ((ma 25), .inl (cy 3, 15, .inl (fun _ => 0))), ((ma 26), .inl (cy 1, 5, .inl (fun _ => 0))), ((ma 27), .inl (cy 1, 30, .inl (fun _ => 0))), ((ma 28), .inl (cy 3, 3, .inl (fun _ => 0)))]) (runV (As := [.int (xs 1), .int (xs 2), .int (xs 3), .int (xs 4)]) (rest := [.long (-2)]) ⟨hx, hb, hml, hown, hts⟩ (g_X10_both l D cy ma (xs 1) (xs 2) (xs 3) (xs 4)  H.size) sV_L_45 hK (va_recv hK.1 hP (ci := 10) (q0 := 6) rfl rfl) (PW.of hP hD [6, 15, 13, 12] (by decide) rfl rfl) ⟨Nat.le_of_ble_eq_true rfl, Nat.le_of_ble_eq_true rfl⟩ rfl hl.1 rfl (Nat.le_of_ble_eq_true rfl) dL_law_483 ⟨Nat.le_of_ble_eq_true rfl, Nat.le_of_ble_eq_true rfl⟩) hP hD hS hA [6, 15, 13, 12] [0, 1, 2, 3, 4, 5, 7, 8, 9, 10, 11, 14, 16, 17, 18, 19, 20, 21, 22, 23] rfl rfl (by decide) (by decide) (fun v u_10 H locs hv hP hD hS => ?_)
  have hP : va_P D vwCl [((xa 0), .inr (9, [.ref (xa 1), .ref (xa 2), .ref (xa 3), .ref (xa 4), .ref (xa 5), .ref (xa 6), .ref (xa 7), .ref (xa 8), .ref (xa 9), .int 0, .ref (xa 11), .null, .int 0, .int (-1)])), ((xa 1), .inl (cy 0, 1600, .inl (fun _ => 0))), ((xa 2), .inr (4, [.int 0, .int (-1), .ref (xa 30), .int 0, .int 0, .int 0, .int 0, .int 0, .ref (xa 31), .int 0, .int 0, .int 0])), ((xa 8), .inl (cy 4, 4, .inr (.inr (.inr (.inr (fun _ => none)))))), ((xa 9), .inl (cy 5, 3, .inr (.inr (.inr (.inr (fun _ => none)))))), ((xa 11), .inr (2, [.int 0, .int 0, .int 0, .int 0, .int 0, .int 0, .int 0, .int 0, .int 1, .int 10, .int 0, .int 0, .int 0, .int 0, .ref (xa 20), .ref (xa 21), .ref (xa 22), .ref (xa 23), .ref (xa 24), .ref (xa 25), .ref (xa 26)])), ((ma 1), .inl (cy 1, 4, .inl fw)), ((ma 2), .inl (cy 1, 4, .inl (fun _ => 0))), ((ma 3), .inl (cy 2, 240, .inr (.inl (fun _ => 0)))), ((ma 5), .inl (cy 0, 1600, .inl (fun _ => 0))), ((ma 16), .inl (cy 1, 5, .inl (fun _ => 0))), ((ma 19), .inl (cy 1, 45, .inl (fun _ => 0))), ((ma 21), .inl (cy 1, 150, .inl (fun _ => 0))), ((ma 22), .inl (cy 1, 5, .inl (fun _ => 0))), ((ma 23), .inl (cy 1, 120, .inl (fun _ => 0))), ((ma 24), .inl (cy 1, 30, .inl (fun _ => 0))), ((ma 25), .inl (cy 3, 15, .inl (fun _ => 0))), ((ma 26), .inl (cy 1, 5, .inl (fun _ => 0))), ((ma 27), .inl (cy 1, 30, .inl (fun _ => 0))), ((ma 28), .inl (cy 3, 3, .inl (fun _ => 0)))] H := hP
  have hD : va_D A [((xa 0), .inr (9, [.ref (xa 1), .ref (xa 2), .ref (xa 3), .ref (xa 4), .ref (xa 5), .ref (xa 6), .ref (xa 7), .ref (xa 8), .ref (xa 9), .int 0, .ref (xa 11), .null, .int 0, .int (-1)])), ((xa 1), .inl (cy 0, 1600, .inl (fun _ => 0))), ((xa 2), .inr (4, [.int 0, .int (-1), .ref (xa 30), .int 0, .int 0, .int 0, .int 0, .int 0, .ref (xa 31), .int 0, .int 0, .int 0])), ((xa 8), .inl (cy 4, 4, .inr (.inr (.inr (.inr (fun _ => none)))))), ((xa 9), .inl (cy 5, 3, .inr (.inr (.inr (.inr (fun _ => none)))))), ((xa 11), .inr (2, [.int 0, .int 0, .int 0, .int 0, .int 0, .int 0, .int 0, .int 0, .int 1, .int 10, .int 0, .int 0, .int 0, .int 0, .ref (xa 20), .ref (xa 21), .ref (xa 22), .ref (xa 23), .ref (xa 24), .ref (xa 25), .ref (xa 26)])), ((ma 1), .inl (cy 1, 4, .inl fw)), ((ma 2), .inl (cy 1, 4, .inl (fun _ => 0))), ((ma 3), .inl (cy 2, 240, .inr (.inl (fun _ => 0)))), ((ma 5), .inl (cy 0, 1600, .inl (fun _ => 0))), ((ma 16), .inl (cy 1, 5, .inl (fun _ => 0))), ((ma 19), .inl (cy 1, 45, .inl (fun _ => 0))), ((ma 21), .inl (cy 1, 150, .inl (fun _ => 0))), ((ma 22), .inl (cy 1, 5, .inl (fun _ => 0))), ((ma 23), .inl (cy 1, 120, .inl (fun _ => 0))), ((ma 24), .inl (cy 1, 30, .inl (fun _ => 0))), ((ma 25), .inl (cy 3, 15, .inl (fun _ => 0))), ((ma 26), .inl (cy 1, 5, .inl (fun _ => 0))), ((ma 27), .inl (cy 1, 30, .inl (fun _ => 0))), ((ma 28), .inl (cy 3, 3, .inl (fun _ => 0)))] := hD
  obtain ⟨r_11, rfl, hr_11⟩ := hv
  have er_11 := hr_11
  subst er_11
  refine W.eq (g2 := F0 m 486 ls [.long (-2), .long (-2)]) rfl ?_
  refine W.lcmp hx hb dL_law_486 ?_
  refine lv_topi (fun z_12 ez_12 => ?_)
  have ez_12 : z_12 = 0 := ez_12.trans (by decide)
  subst ez_12
  refine lv_if_eq (tgt := 2286) hx hb dL_law_487 (by decide) (fun _ => ?_) (fun c_13 => absurd (by decide) c_13)
  exact law_end C0 hL7 hA2 hbA hS (lv_sub hl [0, 1, 2, 3] rfl) (Nat.le_of_ble_eq_true rfl) (Nat.le_of_ble_eq_true rfl)
set_option maxHeartbeats 4000000 in
set_option maxRecDepth 100000 in
theorem lc_7 {p : Program} {e : Env} {s : State} {m : MethodId} {below : List Frame} {meth : Method} {c : Code} {l : Launch} {b L : Nat} {xs : Nat → Int32} {A : Nat → Prop} (D : va_G) (cy : Nat → ClassId) (xa ma : Nat → Nat) (fw : Nat → Int32) (hw : ∀ k : Nat, k < 4 → fw k = -1) (hL7 : L = 7) (C0 : lw_At p s m meth c b L xs) (hK : KK D cy s) (hA : ∀ q : Nat, s.heap.size ≤ q → A q) (hA2 : ∀ q : Nat, A q → s.heap.size ≤ q) (hbA : ¬ A b) {H : Heap} {locs : List Loc} (hP : va_P D vwCl [((xa 0), .inr (9, [.ref (xa 1), .ref (xa 2), .ref (xa 3), .ref (xa 4), .ref (xa 5), .ref (xa 6), .ref (xa 7), .ref (xa 8), .ref (xa 9), .int 0, .ref (xa 11), .null, .int 0, .int (-1)])), ((xa 1), .inl (cy 0, 1600, .inl (fun _ => 0))), ((xa 2), .inr (4, [.int 0, .int (-1), .ref (xa 30), .int 0, .int 0, .int 0, .int 0, .int 0, .ref (xa 31), .int 0, .int 0, .int 0])), ((xa 8), .inl (cy 4, 4, .inr (.inr (.inr (.inr (fun _ => none)))))), ((xa 9), .inl (cy 5, 3, .inr (.inr (.inr (.inr (fun _ => none)))))), ((xa 11), .inr (2, [.int 0, .int 0, .int 0, .int 0, .int 0, .int 0, .int 0, .int 0, .int 1, .int 10, .int 0, .int 0, .int 0, .int 0, .ref (xa 20), .ref (xa 21), .ref (xa 22), .ref (xa 23), .ref (xa 24), .ref (xa 25), .ref (xa 26)])), ((ma 0), .inr (10, [.int 0, .ref (ma 1), .ref (ma 2), .ref (ma 3), .ref (ma 4), .ref (ma 5), .int 0, .int 0, .int 0, .int 0, .int 0, .long 0, .int 0, .int 0, .int 0, .int (-1), .ref (ma 16), .ref (ma 17), .ref (ma 18), .ref (ma 19), .ref (ma 20), .ref (ma 21), .ref (ma 22), .ref (ma 23), .ref (ma 24), .ref (ma 25), .ref (ma 26), .ref (ma 27), .ref (ma 28), .ref (ma 29), .ref (ma 30), .ref (ma 31), .ref (ma 32), .ref (ma 33), .ref (ma 34), .ref (ma 35), .ref (ma 36), .ref (ma 37), .ref (ma 38), .ref (ma 39), .ref (ma 40), .ref (ma 41), .long 0])), ((ma 1), .inl (cy 1, 4, .inl fw)), ((ma 2), .inl (cy 1, 4, .inl (fun _ => 0))), ((ma 3), .inl (cy 2, 240, .inr (.inl (fun _ => 0)))), ((ma 5), .inl (cy 0, 1600, .inl (fun _ => 0))), ((ma 16), .inl (cy 1, 5, .inl (fun _ => 0))), ((ma 17), .inl (cy 1, 20, .inl (fun _ => 0))), ((ma 18), .inl (cy 1, 5, .inl (fun _ => 0))), ((ma 19), .inl (cy 1, 45, .inl (fun _ => 0))), ((ma 20), .inl (cy 1, 5, .inl (fun _ => 0))), ((ma 21), .inl (cy 1, 150, .inl (fun _ => 0))), ((ma 22), .inl (cy 1, 5, .inl (fun _ => 0))), ((ma 23), .inl (cy 1, 120, .inl (fun _ => 0))), ((ma 24), .inl (cy 1, 30, .inl (fun _ => 0))), ((ma 25), .inl (cy 3, 15, .inl (fun _ => 0))), ((ma 26), .inl (cy 1, 5, .inl (fun _ => 0))), ((ma 27), .inl (cy 1, 30, .inl (fun _ => 0))), ((ma 28), .inl (cy 3, 3, .inl (fun _ => 0)))] H) (hD : va_D A [((xa 0), .inr (9, [.ref (xa 1), .ref (xa 2), .ref (xa 3), .ref (xa 4), .ref (xa 5), .ref (xa 6), .ref (xa 7), .ref (xa 8), .ref (xa 9), .int 0, .ref (xa 11), .null, .int 0, .int (-1)])), ((xa 1), .inl (cy 0, 1600, .inl (fun _ => 0))), ((xa 2), .inr (4, [.int 0, .int (-1), .ref (xa 30), .int 0, .int 0, .int 0, .int 0, .int 0, .ref (xa 31), .int 0, .int 0, .int 0])), ((xa 8), .inl (cy 4, 4, .inr (.inr (.inr (.inr (fun _ => none)))))), ((xa 9), .inl (cy 5, 3, .inr (.inr (.inr (.inr (fun _ => none)))))), ((xa 11), .inr (2, [.int 0, .int 0, .int 0, .int 0, .int 0, .int 0, .int 0, .int 0, .int 1, .int 10, .int 0, .int 0, .int 0, .int 0, .ref (xa 20), .ref (xa 21), .ref (xa 22), .ref (xa 23), .ref (xa 24), .ref (xa 25), .ref (xa 26)])), ((ma 0), .inr (10, [.int 0, .ref (ma 1), .ref (ma 2), .ref (ma 3), .ref (ma 4), .ref (ma 5), .int 0, .int 0, .int 0, .int 0, .int 0, .long 0, .int 0, .int 0, .int 0, .int (-1), .ref (ma 16), .ref (ma 17), .ref (ma 18), .ref (ma 19), .ref (ma 20), .ref (ma 21), .ref (ma 22), .ref (ma 23), .ref (ma 24), .ref (ma 25), .ref (ma 26), .ref (ma 27), .ref (ma 28), .ref (ma 29), .ref (ma 30), .ref (ma 31), .ref (ma 32), .ref (ma 33), .ref (ma 34), .ref (ma 35), .ref (ma 36), .ref (ma 37), .ref (ma 38), .ref (ma 39), .ref (ma 40), .ref (ma 41), .long 0])), ((ma 1), .inl (cy 1, 4, .inl fw)), ((ma 2), .inl (cy 1, 4, .inl (fun _ => 0))), ((ma 3), .inl (cy 2, 240, .inr (.inl (fun _ => 0)))), ((ma 5), .inl (cy 0, 1600, .inl (fun _ => 0))), ((ma 16), .inl (cy 1, 5, .inl (fun _ => 0))), ((ma 17), .inl (cy 1, 20, .inl (fun _ => 0))), ((ma 18), .inl (cy 1, 5, .inl (fun _ => 0))), ((ma 19), .inl (cy 1, 45, .inl (fun _ => 0))), ((ma 20), .inl (cy 1, 5, .inl (fun _ => 0))), ((ma 21), .inl (cy 1, 150, .inl (fun _ => 0))), ((ma 22), .inl (cy 1, 5, .inl (fun _ => 0))), ((ma 23), .inl (cy 1, 120, .inl (fun _ => 0))), ((ma 24), .inl (cy 1, 30, .inl (fun _ => 0))), ((ma 25), .inl (cy 3, 15, .inl (fun _ => 0))), ((ma 26), .inl (cy 1, 5, .inl (fun _ => 0))), ((ma 27), .inl (cy 1, 30, .inl (fun _ => 0))), ((ma 28), .inl (cy 3, 3, .inl (fun _ => 0)))]) (hS : va_S A s.heap H locs) {ls : Array Slot} (hl : lv_has ls 4 [(3, .int 0), (2, .ref (ma 0)), (1, .ref (xa 0)), (0, .ref b)]) : W p l e room_1 s m #[Value.ref b] below meth c H locs 82 108979 (lw_Z below #[Value.ref b] s) (F0 m 492 ls []) := by
  obtain ⟨hx, hb, hr, hml, hown, hts, hX, hbl, hlocks, hgv⟩ := id C0
  have hown : s.vm.findClass RL = some m.cls := hown
  have hb : c.code = cL_law := hb
  have hts : ∀ w ∈ GW, w.before #[Value.ref b] s = true := fun w h => hts w (gw_tbl w h)
  refine lv_aload_n hx hb dL_law_492 rfl (lv_at hl 2 rfl) ?_
  refine lv_aload_n hx hb dL_law_493 rfl (lv_at hl 3 rfl) ?_
  refine lv_iload_n hx hb dL_law_494 rfl (lv_at hl 0 rfl) ?_
  refine lv_iconst (v := 1) hx hb dL_law_495 (by decide) ?_
  refine lv_iadd hx hb dL_law_496 ?_
  refine lv_topi (fun z_1 ez_1 => ?_)
  have ez_1 : z_1 = 1 := ez_1.trans (by decide)
  subst ez_1
  refine va_sld (i := 1) hx hb hX hbl hbA hS (by subst hL7; exact vp_in_iff.mpr (by decide)) dL_law_497 ?_
  refine W.eq (g2 := F0 m 498 ls [.int (xs 1), .ref (xa 0)]) rfl ?_
  refine lv_aload_n hx hb dL_law_498 rfl (lv_at hl 3 rfl) ?_
  refine lv_iload_n hx hb dL_law_499 rfl (lv_at hl 0 rfl) ?_
  refine lv_iconst (v := 2) hx hb dL_law_500 (by decide) ?_
  refine lv_iadd hx hb dL_law_501 ?_
  refine lv_topi (fun z_2 ez_2 => ?_)
  have ez_2 : z_2 = 2 := ez_2.trans (by decide)
  subst ez_2
  refine va_sld (i := 2) hx hb hX hbl hbA hS (by subst hL7; exact vp_in_iff.mpr (by decide)) dL_law_502 ?_
  refine W.eq (g2 := F0 m 503 ls [.int (xs 2), .int (xs 1), .ref (xa 0)]) rfl ?_
  refine pu_calll (runV (As := [.int (xs 1), .int (xs 2)]) (rest := []) ⟨hx, hb, hml, hown, hts⟩ (f_X9_together l D cy xa (xs 1) (xs 2) ) sV_L_46 hK (va_recv hK.1 hP (ci := 9) (q0 := 0) rfl rfl) (hP.sub (ws' := [((xa 0), .inr (9, [.ref (xa 1), .ref (xa 2), .ref (xa 3), .ref (xa 4), .ref (xa 5), .ref (xa 6), .ref (xa 7), .ref (xa 8), .ref (xa 9), .int 0, .ref (xa 11), .null, .int 0, .int (-1)])), ((xa 11), .inr (2, [.int 0, .int 0, .int 0, .int 0, .int 0, .int 0, .int 0, .int 0, .int 1, .int 10, .int 0, .int 0, .int 0, .int 0, .ref (xa 20), .ref (xa 21), .ref (xa 22), .ref (xa 23), .ref (xa 24), .ref (xa 25), .ref (xa 26)]))]) [0, 5] rfl) ⟨Nat.le_of_ble_eq_true rfl, Nat.le_of_ble_eq_true rfl⟩ rfl hl.1 rfl (Nat.le_of_ble_eq_true rfl) dL_law_503 ⟨Nat.le_of_ble_eq_true rfl, Nat.le_of_ble_eq_true rfl⟩) (fun r_3 hr_3 => ?_)
  have er_3 := hr_3
  subst er_3
  refine W.eq (g2 := F0 m 506 ls [.long (-2)]) rfl ?_
  refine lv_aload_n hx hb dL_law_506 rfl (lv_at hl 1 rfl) ?_
  refine lv_aload_n hx hb dL_law_507 rfl (lv_at hl 3 rfl) ?_
  refine lv_iload_n hx hb dL_law_508 rfl (lv_at hl 0 rfl) ?_
  refine lv_iconst (v := 1) hx hb dL_law_509 (by decide) ?_
  refine lv_iadd hx hb dL_law_510 ?_
  refine lv_topi (fun z_4 ez_4 => ?_)
  have ez_4 : z_4 = 1 := ez_4.trans (by decide)
  subst ez_4
  refine va_sld (i := 1) hx hb hX hbl hbA hS (by subst hL7; exact vp_in_iff.mpr (by decide)) dL_law_511 ?_
  refine W.eq (g2 := F0 m 512 ls [.int (xs 1), .ref (ma 0), .long (-2)]) rfl ?_
  refine lv_aload_n hx hb dL_law_512 rfl (lv_at hl 3 rfl) ?_
  refine lv_iload_n hx hb dL_law_513 rfl (lv_at hl 0 rfl) ?_
  refine lv_iconst (v := 2) hx hb dL_law_514 (by decide) ?_
  refine lv_iadd hx hb dL_law_515 ?_
  refine lv_topi (fun z_5 ez_5 => ?_)
  have ez_5 : z_5 = 2 := ez_5.trans (by decide)
  subst ez_5
  refine va_sld (i := 2) hx hb hX hbl hbA hS (by subst hL7; exact vp_in_iff.mpr (by decide)) dL_law_516 ?_
  refine W.eq (g2 := F0 m 517 ls [.int (xs 2), .int (xs 1), .ref (ma 0), .long (-2)]) rfl ?_
  refine fw_call (wc := [((ma 0), .inr (10, [.int 0, .ref (ma 1), .ref (ma 2), .ref (ma 3), .ref (ma 4), .ref (ma 5), .int 0, .int 0, .int 0, .int 0, .int 0, .long 0, .int 0, .int 0, .int 0, .int (-1), .ref (ma 16), .ref (ma 17), .ref (ma 18), .ref (ma 19), .ref (ma 20), .ref (ma 21), .ref (ma 22), .ref (ma 23), .ref (ma 24), .ref (ma 25), .ref (ma 26), .ref (ma 27), .ref (ma 28), .ref (ma 29), .ref (ma 30), .ref (ma 31), .ref (ma 32), .ref (ma 33), .ref (ma 34), .ref (ma 35), .ref (ma 36), .ref (ma 37), .ref (ma 38), .ref (ma 39), .ref (ma 40), .ref (ma 41), .long 0])), ((ma 20), .inl (cy 1, 5, .inl (fun _ => 0))), ((ma 18), .inl (cy 1, 5, .inl (fun _ => 0))), ((ma 17), .inl (cy 1, 20, .inl (fun _ => 0)))]) (wr := [((xa 0), .inr (9, [.ref (xa 1), .ref (xa 2), .ref (xa 3), .ref (xa 4), .ref (xa 5), .ref (xa 6), .ref (xa 7), .ref (xa 8), .ref (xa 9), .int 0, .ref (xa 11), .null, .int 0, .int (-1)])), ((xa 1), .inl (cy 0, 1600, .inl (fun _ => 0))), ((xa 2), .inr (4, [.int 0, .int (-1), .ref (xa 30), .int 0, .int 0, .int 0, .int 0, .int 0, .ref (xa 31), .int 0, .int 0, .int 0])), ((xa 8), .inl (cy 4, 4, .inr (.inr (.inr (.inr (fun _ => none)))))), ((xa 9), .inl (cy 5, 3, .inr (.inr (.inr (.inr (fun _ => none)))))), ((xa 11), .inr (2, [.int 0, .int 0, .int 0, .int 0, .int 0, .int 0, .int 0, .int 0, .int 1, .int 10, .int 0, .int 0, .int 0, .int 0, .ref (xa 20), .ref (xa 21), .ref (xa 22), .ref (xa 23), .ref (xa 24), .ref (xa 25), .ref (xa 26)])), ((ma 1), .inl (cy 1, 4, .inl fw)), ((ma 2), .inl (cy 1, 4, .inl (fun _ => 0))), ((ma 3), .inl (cy 2, 240, .inr (.inl (fun _ => 0)))), ((ma 5), .inl (cy 0, 1600, .inl (fun _ => 0))), ((ma 16), .inl (cy 1, 5, .inl (fun _ => 0))), ((ma 19), .inl (cy 1, 45, .inl (fun _ => 0))), ((ma 21), .inl (cy 1, 150, .inl (fun _ => 0))), ((ma 22), .inl (cy 1, 5, .inl (fun _ => 0))), ((ma 23), .inl (cy 1, 120, .inl (fun _ => 0))), ((ma 24), .inl (cy 1, 30, .inl (fun _ => 0))), ((ma 25), .inl (cy 3, 15, .inl (fun _ => 0))), ((ma 26), .inl (cy 1, 5, .inl (fun _ => 0))), ((ma 27), .inl (cy 1, 30, .inl (fun _ => 0))), ((ma 28), .inl (cy 3, 3, .inl (fun _ => 0)))]) (runV (As := [.int (xs 1), .int (xs 2)]) (rest := [.long (-2)]) ⟨hx, hb, hml, hown, hts⟩ (g_X10_together l D cy ma (xs 1) (xs 2)  H.size) sV_L_49 hK (va_recv hK.1 hP (ci := 10) (q0 := 6) rfl rfl) (PW.of hP hD [6, 15, 13, 12] (by decide) rfl rfl) ⟨Nat.le_of_ble_eq_true rfl, Nat.le_of_ble_eq_true rfl⟩ rfl hl.1 rfl (Nat.le_of_ble_eq_true rfl) dL_law_517 ⟨Nat.le_of_ble_eq_true rfl, Nat.le_of_ble_eq_true rfl⟩) hP hD hS hA [6, 15, 13, 12] [0, 1, 2, 3, 4, 5, 7, 8, 9, 10, 11, 14, 16, 17, 18, 19, 20, 21, 22, 23] rfl rfl (by decide) (by decide) (fun v u_6 H locs hv hP hD hS => ?_)
  have hP : va_P D vwCl [((xa 0), .inr (9, [.ref (xa 1), .ref (xa 2), .ref (xa 3), .ref (xa 4), .ref (xa 5), .ref (xa 6), .ref (xa 7), .ref (xa 8), .ref (xa 9), .int 0, .ref (xa 11), .null, .int 0, .int (-1)])), ((xa 1), .inl (cy 0, 1600, .inl (fun _ => 0))), ((xa 2), .inr (4, [.int 0, .int (-1), .ref (xa 30), .int 0, .int 0, .int 0, .int 0, .int 0, .ref (xa 31), .int 0, .int 0, .int 0])), ((xa 8), .inl (cy 4, 4, .inr (.inr (.inr (.inr (fun _ => none)))))), ((xa 9), .inl (cy 5, 3, .inr (.inr (.inr (.inr (fun _ => none)))))), ((xa 11), .inr (2, [.int 0, .int 0, .int 0, .int 0, .int 0, .int 0, .int 0, .int 0, .int 1, .int 10, .int 0, .int 0, .int 0, .int 0, .ref (xa 20), .ref (xa 21), .ref (xa 22), .ref (xa 23), .ref (xa 24), .ref (xa 25), .ref (xa 26)])), ((ma 1), .inl (cy 1, 4, .inl fw)), ((ma 2), .inl (cy 1, 4, .inl (fun _ => 0))), ((ma 3), .inl (cy 2, 240, .inr (.inl (fun _ => 0)))), ((ma 5), .inl (cy 0, 1600, .inl (fun _ => 0))), ((ma 16), .inl (cy 1, 5, .inl (fun _ => 0))), ((ma 19), .inl (cy 1, 45, .inl (fun _ => 0))), ((ma 21), .inl (cy 1, 150, .inl (fun _ => 0))), ((ma 22), .inl (cy 1, 5, .inl (fun _ => 0))), ((ma 23), .inl (cy 1, 120, .inl (fun _ => 0))), ((ma 24), .inl (cy 1, 30, .inl (fun _ => 0))), ((ma 25), .inl (cy 3, 15, .inl (fun _ => 0))), ((ma 26), .inl (cy 1, 5, .inl (fun _ => 0))), ((ma 27), .inl (cy 1, 30, .inl (fun _ => 0))), ((ma 28), .inl (cy 3, 3, .inl (fun _ => 0)))] H := hP
  have hD : va_D A [((xa 0), .inr (9, [.ref (xa 1), .ref (xa 2), .ref (xa 3), .ref (xa 4), .ref (xa 5), .ref (xa 6), .ref (xa 7), .ref (xa 8), .ref (xa 9), .int 0, .ref (xa 11), .null, .int 0, .int (-1)])), ((xa 1), .inl (cy 0, 1600, .inl (fun _ => 0))), ((xa 2), .inr (4, [.int 0, .int (-1), .ref (xa 30), .int 0, .int 0, .int 0, .int 0, .int 0, .ref (xa 31), .int 0, .int 0, .int 0])), ((xa 8), .inl (cy 4, 4, .inr (.inr (.inr (.inr (fun _ => none)))))), ((xa 9), .inl (cy 5, 3, .inr (.inr (.inr (.inr (fun _ => none)))))), ((xa 11), .inr (2, [.int 0, .int 0, .int 0, .int 0, .int 0, .int 0, .int 0, .int 0, .int 1, .int 10, .int 0, .int 0, .int 0, .int 0, .ref (xa 20), .ref (xa 21), .ref (xa 22), .ref (xa 23), .ref (xa 24), .ref (xa 25), .ref (xa 26)])), ((ma 1), .inl (cy 1, 4, .inl fw)), ((ma 2), .inl (cy 1, 4, .inl (fun _ => 0))), ((ma 3), .inl (cy 2, 240, .inr (.inl (fun _ => 0)))), ((ma 5), .inl (cy 0, 1600, .inl (fun _ => 0))), ((ma 16), .inl (cy 1, 5, .inl (fun _ => 0))), ((ma 19), .inl (cy 1, 45, .inl (fun _ => 0))), ((ma 21), .inl (cy 1, 150, .inl (fun _ => 0))), ((ma 22), .inl (cy 1, 5, .inl (fun _ => 0))), ((ma 23), .inl (cy 1, 120, .inl (fun _ => 0))), ((ma 24), .inl (cy 1, 30, .inl (fun _ => 0))), ((ma 25), .inl (cy 3, 15, .inl (fun _ => 0))), ((ma 26), .inl (cy 1, 5, .inl (fun _ => 0))), ((ma 27), .inl (cy 1, 30, .inl (fun _ => 0))), ((ma 28), .inl (cy 3, 3, .inl (fun _ => 0)))] := hD
  obtain ⟨r_7, rfl, hr_7⟩ := hv
  have er_7 := hr_7
  subst er_7
  refine W.eq (g2 := F0 m 520 ls [.long (-2), .long (-2)]) rfl ?_
  refine W.lcmp hx hb dL_law_520 ?_
  refine lv_topi (fun z_8 ez_8 => ?_)
  have ez_8 : z_8 = 0 := ez_8.trans (by decide)
  subst ez_8
  refine lv_if_eq (tgt := 2286) hx hb dL_law_521 (by decide) (fun _ => ?_) (fun c_9 => absurd (by decide) c_9)
  exact law_end C0 hL7 hA2 hbA hS (lv_sub hl [0, 1, 2, 3] rfl) (Nat.le_of_ble_eq_true rfl) (Nat.le_of_ble_eq_true rfl)
set_option maxHeartbeats 4000000 in
set_option maxRecDepth 100000 in
theorem lc_8 {p : Program} {e : Env} {s : State} {m : MethodId} {below : List Frame} {meth : Method} {c : Code} {l : Launch} {b L : Nat} {xs : Nat → Int32} {A : Nat → Prop} (D : va_G) (cy : Nat → ClassId) (xa ma : Nat → Nat) (fw : Nat → Int32) (hw : ∀ k : Nat, k < 4 → fw k = -1) (hL7 : L = 7) (C0 : lw_At p s m meth c b L xs) (hK : KK D cy s) (hA : ∀ q : Nat, s.heap.size ≤ q → A q) (hA2 : ∀ q : Nat, A q → s.heap.size ≤ q) (hbA : ¬ A b) {H : Heap} {locs : List Loc} (hP : va_P D vwCl [((xa 0), .inr (9, [.ref (xa 1), .ref (xa 2), .ref (xa 3), .ref (xa 4), .ref (xa 5), .ref (xa 6), .ref (xa 7), .ref (xa 8), .ref (xa 9), .int 0, .ref (xa 11), .null, .int 0, .int (-1)])), ((xa 1), .inl (cy 0, 1600, .inl (fun _ => 0))), ((xa 2), .inr (4, [.int 0, .int (-1), .ref (xa 30), .int 0, .int 0, .int 0, .int 0, .int 0, .ref (xa 31), .int 0, .int 0, .int 0])), ((xa 8), .inl (cy 4, 4, .inr (.inr (.inr (.inr (fun _ => none)))))), ((xa 9), .inl (cy 5, 3, .inr (.inr (.inr (.inr (fun _ => none)))))), ((xa 11), .inr (2, [.int 0, .int 0, .int 0, .int 0, .int 0, .int 0, .int 0, .int 0, .int 1, .int 10, .int 0, .int 0, .int 0, .int 0, .ref (xa 20), .ref (xa 21), .ref (xa 22), .ref (xa 23), .ref (xa 24), .ref (xa 25), .ref (xa 26)])), ((ma 0), .inr (10, [.int 0, .ref (ma 1), .ref (ma 2), .ref (ma 3), .ref (ma 4), .ref (ma 5), .int 0, .int 0, .int 0, .int 0, .int 0, .long 0, .int 0, .int 0, .int 0, .int (-1), .ref (ma 16), .ref (ma 17), .ref (ma 18), .ref (ma 19), .ref (ma 20), .ref (ma 21), .ref (ma 22), .ref (ma 23), .ref (ma 24), .ref (ma 25), .ref (ma 26), .ref (ma 27), .ref (ma 28), .ref (ma 29), .ref (ma 30), .ref (ma 31), .ref (ma 32), .ref (ma 33), .ref (ma 34), .ref (ma 35), .ref (ma 36), .ref (ma 37), .ref (ma 38), .ref (ma 39), .ref (ma 40), .ref (ma 41), .long 0])), ((ma 1), .inl (cy 1, 4, .inl fw)), ((ma 2), .inl (cy 1, 4, .inl (fun _ => 0))), ((ma 3), .inl (cy 2, 240, .inr (.inl (fun _ => 0)))), ((ma 5), .inl (cy 0, 1600, .inl (fun _ => 0))), ((ma 16), .inl (cy 1, 5, .inl (fun _ => 0))), ((ma 17), .inl (cy 1, 20, .inl (fun _ => 0))), ((ma 18), .inl (cy 1, 5, .inl (fun _ => 0))), ((ma 19), .inl (cy 1, 45, .inl (fun _ => 0))), ((ma 20), .inl (cy 1, 5, .inl (fun _ => 0))), ((ma 21), .inl (cy 1, 150, .inl (fun _ => 0))), ((ma 22), .inl (cy 1, 5, .inl (fun _ => 0))), ((ma 23), .inl (cy 1, 120, .inl (fun _ => 0))), ((ma 24), .inl (cy 1, 30, .inl (fun _ => 0))), ((ma 25), .inl (cy 3, 15, .inl (fun _ => 0))), ((ma 26), .inl (cy 1, 5, .inl (fun _ => 0))), ((ma 27), .inl (cy 1, 30, .inl (fun _ => 0))), ((ma 28), .inl (cy 3, 3, .inl (fun _ => 0)))] H) (hD : va_D A [((xa 0), .inr (9, [.ref (xa 1), .ref (xa 2), .ref (xa 3), .ref (xa 4), .ref (xa 5), .ref (xa 6), .ref (xa 7), .ref (xa 8), .ref (xa 9), .int 0, .ref (xa 11), .null, .int 0, .int (-1)])), ((xa 1), .inl (cy 0, 1600, .inl (fun _ => 0))), ((xa 2), .inr (4, [.int 0, .int (-1), .ref (xa 30), .int 0, .int 0, .int 0, .int 0, .int 0, .ref (xa 31), .int 0, .int 0, .int 0])), ((xa 8), .inl (cy 4, 4, .inr (.inr (.inr (.inr (fun _ => none)))))), ((xa 9), .inl (cy 5, 3, .inr (.inr (.inr (.inr (fun _ => none)))))), ((xa 11), .inr (2, [.int 0, .int 0, .int 0, .int 0, .int 0, .int 0, .int 0, .int 0, .int 1, .int 10, .int 0, .int 0, .int 0, .int 0, .ref (xa 20), .ref (xa 21), .ref (xa 22), .ref (xa 23), .ref (xa 24), .ref (xa 25), .ref (xa 26)])), ((ma 0), .inr (10, [.int 0, .ref (ma 1), .ref (ma 2), .ref (ma 3), .ref (ma 4), .ref (ma 5), .int 0, .int 0, .int 0, .int 0, .int 0, .long 0, .int 0, .int 0, .int 0, .int (-1), .ref (ma 16), .ref (ma 17), .ref (ma 18), .ref (ma 19), .ref (ma 20), .ref (ma 21), .ref (ma 22), .ref (ma 23), .ref (ma 24), .ref (ma 25), .ref (ma 26), .ref (ma 27), .ref (ma 28), .ref (ma 29), .ref (ma 30), .ref (ma 31), .ref (ma 32), .ref (ma 33), .ref (ma 34), .ref (ma 35), .ref (ma 36), .ref (ma 37), .ref (ma 38), .ref (ma 39), .ref (ma 40), .ref (ma 41), .long 0])), ((ma 1), .inl (cy 1, 4, .inl fw)), ((ma 2), .inl (cy 1, 4, .inl (fun _ => 0))), ((ma 3), .inl (cy 2, 240, .inr (.inl (fun _ => 0)))), ((ma 5), .inl (cy 0, 1600, .inl (fun _ => 0))), ((ma 16), .inl (cy 1, 5, .inl (fun _ => 0))), ((ma 17), .inl (cy 1, 20, .inl (fun _ => 0))), ((ma 18), .inl (cy 1, 5, .inl (fun _ => 0))), ((ma 19), .inl (cy 1, 45, .inl (fun _ => 0))), ((ma 20), .inl (cy 1, 5, .inl (fun _ => 0))), ((ma 21), .inl (cy 1, 150, .inl (fun _ => 0))), ((ma 22), .inl (cy 1, 5, .inl (fun _ => 0))), ((ma 23), .inl (cy 1, 120, .inl (fun _ => 0))), ((ma 24), .inl (cy 1, 30, .inl (fun _ => 0))), ((ma 25), .inl (cy 3, 15, .inl (fun _ => 0))), ((ma 26), .inl (cy 1, 5, .inl (fun _ => 0))), ((ma 27), .inl (cy 1, 30, .inl (fun _ => 0))), ((ma 28), .inl (cy 3, 3, .inl (fun _ => 0)))]) (hS : va_S A s.heap H locs) {ls : Array Slot} (hl : lv_has ls 4 [(3, .int 0), (2, .ref (ma 0)), (1, .ref (xa 0)), (0, .ref b)]) : W p l e room_1 s m #[Value.ref b] below meth c H locs 82 108979 (lw_Z below #[Value.ref b] s) (F0 m 526 ls []) := by
  obtain ⟨hx, hb, hr, hml, hown, hts, hX, hbl, hlocks, hgv⟩ := id C0
  have hown : s.vm.findClass RL = some m.cls := hown
  have hb : c.code = cL_law := hb
  have hts : ∀ w ∈ GW, w.before #[Value.ref b] s = true := fun w h => hts w (gw_tbl w h)
  refine lv_aload_n hx hb dL_law_526 rfl (lv_at hl 2 rfl) ?_
  refine lv_aload_n hx hb dL_law_527 rfl (lv_at hl 3 rfl) ?_
  refine lv_iload_n hx hb dL_law_528 rfl (lv_at hl 0 rfl) ?_
  refine lv_iconst (v := 1) hx hb dL_law_529 (by decide) ?_
  refine lv_iadd hx hb dL_law_530 ?_
  refine lv_topi (fun z_1 ez_1 => ?_)
  have ez_1 : z_1 = 1 := ez_1.trans (by decide)
  subst ez_1
  refine va_sld (i := 1) hx hb hX hbl hbA hS (by subst hL7; exact vp_in_iff.mpr (by decide)) dL_law_531 ?_
  refine W.eq (g2 := F0 m 532 ls [.int (xs 1), .ref (xa 0)]) rfl ?_
  refine lv_aload_n hx hb dL_law_532 rfl (lv_at hl 3 rfl) ?_
  refine lv_iload_n hx hb dL_law_533 rfl (lv_at hl 0 rfl) ?_
  refine lv_iconst (v := 2) hx hb dL_law_534 (by decide) ?_
  refine lv_iadd hx hb dL_law_535 ?_
  refine lv_topi (fun z_2 ez_2 => ?_)
  have ez_2 : z_2 = 2 := ez_2.trans (by decide)
  subst ez_2
  refine va_sld (i := 2) hx hb hX hbl hbA hS (by subst hL7; exact vp_in_iff.mpr (by decide)) dL_law_536 ?_
  refine W.eq (g2 := F0 m 537 ls [.int (xs 2), .int (xs 1), .ref (xa 0)]) rfl ?_
  refine pu_calll (runV (As := [.int (xs 1), .int (xs 2)]) (rest := []) ⟨hx, hb, hml, hown, hts⟩ (f_X9_set l D cy xa (xs 1) (xs 2) ) sV_L_50 hK (va_recv hK.1 hP (ci := 9) (q0 := 0) rfl rfl) (hP.sub (ws' := [((xa 0), .inr (9, [.ref (xa 1), .ref (xa 2), .ref (xa 3), .ref (xa 4), .ref (xa 5), .ref (xa 6), .ref (xa 7), .ref (xa 8), .ref (xa 9), .int 0, .ref (xa 11), .null, .int 0, .int (-1)])), ((xa 11), .inr (2, [.int 0, .int 0, .int 0, .int 0, .int 0, .int 0, .int 0, .int 0, .int 1, .int 10, .int 0, .int 0, .int 0, .int 0, .ref (xa 20), .ref (xa 21), .ref (xa 22), .ref (xa 23), .ref (xa 24), .ref (xa 25), .ref (xa 26)]))]) [0, 5] rfl) ⟨Nat.le_of_ble_eq_true rfl, Nat.le_of_ble_eq_true rfl⟩ rfl hl.1 rfl (Nat.le_of_ble_eq_true rfl) dL_law_537 ⟨Nat.le_of_ble_eq_true rfl, Nat.le_of_ble_eq_true rfl⟩) (fun r_3 hr_3 => ?_)
  have er_3 := hr_3
  subst er_3
  refine W.eq (g2 := F0 m 540 ls [.long (-2)]) rfl ?_
  refine lv_aload_n hx hb dL_law_540 rfl (lv_at hl 1 rfl) ?_
  refine lv_aload_n hx hb dL_law_541 rfl (lv_at hl 3 rfl) ?_
  refine lv_iload_n hx hb dL_law_542 rfl (lv_at hl 0 rfl) ?_
  refine lv_iconst (v := 1) hx hb dL_law_543 (by decide) ?_
  refine lv_iadd hx hb dL_law_544 ?_
  refine lv_topi (fun z_4 ez_4 => ?_)
  have ez_4 : z_4 = 1 := ez_4.trans (by decide)
  subst ez_4
  refine va_sld (i := 1) hx hb hX hbl hbA hS (by subst hL7; exact vp_in_iff.mpr (by decide)) dL_law_545 ?_
  refine W.eq (g2 := F0 m 546 ls [.int (xs 1), .ref (ma 0), .long (-2)]) rfl ?_
  refine lv_aload_n hx hb dL_law_546 rfl (lv_at hl 3 rfl) ?_
  refine lv_iload_n hx hb dL_law_547 rfl (lv_at hl 0 rfl) ?_
  refine lv_iconst (v := 2) hx hb dL_law_548 (by decide) ?_
  refine lv_iadd hx hb dL_law_549 ?_
  refine lv_topi (fun z_5 ez_5 => ?_)
  have ez_5 : z_5 = 2 := ez_5.trans (by decide)
  subst ez_5
  refine va_sld (i := 2) hx hb hX hbl hbA hS (by subst hL7; exact vp_in_iff.mpr (by decide)) dL_law_550 ?_
  refine W.eq (g2 := F0 m 551 ls [.int (xs 2), .int (xs 1), .ref (ma 0), .long (-2)]) rfl ?_
  refine fw_call (wc := [((ma 0), .inr (10, [.int 0, .ref (ma 1), .ref (ma 2), .ref (ma 3), .ref (ma 4), .ref (ma 5), .int 0, .int 0, .int 0, .int 0, .int 0, .long 0, .int 0, .int 0, .int 0, .int (-1), .ref (ma 16), .ref (ma 17), .ref (ma 18), .ref (ma 19), .ref (ma 20), .ref (ma 21), .ref (ma 22), .ref (ma 23), .ref (ma 24), .ref (ma 25), .ref (ma 26), .ref (ma 27), .ref (ma 28), .ref (ma 29), .ref (ma 30), .ref (ma 31), .ref (ma 32), .ref (ma 33), .ref (ma 34), .ref (ma 35), .ref (ma 36), .ref (ma 37), .ref (ma 38), .ref (ma 39), .ref (ma 40), .ref (ma 41), .long 0])), ((ma 20), .inl (cy 1, 5, .inl (fun _ => 0))), ((ma 18), .inl (cy 1, 5, .inl (fun _ => 0))), ((ma 17), .inl (cy 1, 20, .inl (fun _ => 0)))]) (wr := [((xa 0), .inr (9, [.ref (xa 1), .ref (xa 2), .ref (xa 3), .ref (xa 4), .ref (xa 5), .ref (xa 6), .ref (xa 7), .ref (xa 8), .ref (xa 9), .int 0, .ref (xa 11), .null, .int 0, .int (-1)])), ((xa 1), .inl (cy 0, 1600, .inl (fun _ => 0))), ((xa 2), .inr (4, [.int 0, .int (-1), .ref (xa 30), .int 0, .int 0, .int 0, .int 0, .int 0, .ref (xa 31), .int 0, .int 0, .int 0])), ((xa 8), .inl (cy 4, 4, .inr (.inr (.inr (.inr (fun _ => none)))))), ((xa 9), .inl (cy 5, 3, .inr (.inr (.inr (.inr (fun _ => none)))))), ((xa 11), .inr (2, [.int 0, .int 0, .int 0, .int 0, .int 0, .int 0, .int 0, .int 0, .int 1, .int 10, .int 0, .int 0, .int 0, .int 0, .ref (xa 20), .ref (xa 21), .ref (xa 22), .ref (xa 23), .ref (xa 24), .ref (xa 25), .ref (xa 26)])), ((ma 1), .inl (cy 1, 4, .inl fw)), ((ma 2), .inl (cy 1, 4, .inl (fun _ => 0))), ((ma 3), .inl (cy 2, 240, .inr (.inl (fun _ => 0)))), ((ma 5), .inl (cy 0, 1600, .inl (fun _ => 0))), ((ma 16), .inl (cy 1, 5, .inl (fun _ => 0))), ((ma 19), .inl (cy 1, 45, .inl (fun _ => 0))), ((ma 21), .inl (cy 1, 150, .inl (fun _ => 0))), ((ma 22), .inl (cy 1, 5, .inl (fun _ => 0))), ((ma 23), .inl (cy 1, 120, .inl (fun _ => 0))), ((ma 24), .inl (cy 1, 30, .inl (fun _ => 0))), ((ma 25), .inl (cy 3, 15, .inl (fun _ => 0))), ((ma 26), .inl (cy 1, 5, .inl (fun _ => 0))), ((ma 27), .inl (cy 1, 30, .inl (fun _ => 0))), ((ma 28), .inl (cy 3, 3, .inl (fun _ => 0)))]) (runV (As := [.int (xs 1), .int (xs 2)]) (rest := [.long (-2)]) ⟨hx, hb, hml, hown, hts⟩ (g_X10_set l D cy ma (xs 1) (xs 2)  H.size) sV_L_53 hK (va_recv hK.1 hP (ci := 10) (q0 := 6) rfl rfl) (PW.of hP hD [6, 15, 13, 12] (by decide) rfl rfl) ⟨Nat.le_of_ble_eq_true rfl, Nat.le_of_ble_eq_true rfl⟩ rfl hl.1 rfl (Nat.le_of_ble_eq_true rfl) dL_law_551 ⟨Nat.le_of_ble_eq_true rfl, Nat.le_of_ble_eq_true rfl⟩) hP hD hS hA [6, 15, 13, 12] [0, 1, 2, 3, 4, 5, 7, 8, 9, 10, 11, 14, 16, 17, 18, 19, 20, 21, 22, 23] rfl rfl (by decide) (by decide) (fun v u_6 H locs hv hP hD hS => ?_)
  have hP : va_P D vwCl [((xa 0), .inr (9, [.ref (xa 1), .ref (xa 2), .ref (xa 3), .ref (xa 4), .ref (xa 5), .ref (xa 6), .ref (xa 7), .ref (xa 8), .ref (xa 9), .int 0, .ref (xa 11), .null, .int 0, .int (-1)])), ((xa 1), .inl (cy 0, 1600, .inl (fun _ => 0))), ((xa 2), .inr (4, [.int 0, .int (-1), .ref (xa 30), .int 0, .int 0, .int 0, .int 0, .int 0, .ref (xa 31), .int 0, .int 0, .int 0])), ((xa 8), .inl (cy 4, 4, .inr (.inr (.inr (.inr (fun _ => none)))))), ((xa 9), .inl (cy 5, 3, .inr (.inr (.inr (.inr (fun _ => none)))))), ((xa 11), .inr (2, [.int 0, .int 0, .int 0, .int 0, .int 0, .int 0, .int 0, .int 0, .int 1, .int 10, .int 0, .int 0, .int 0, .int 0, .ref (xa 20), .ref (xa 21), .ref (xa 22), .ref (xa 23), .ref (xa 24), .ref (xa 25), .ref (xa 26)])), ((ma 1), .inl (cy 1, 4, .inl fw)), ((ma 2), .inl (cy 1, 4, .inl (fun _ => 0))), ((ma 3), .inl (cy 2, 240, .inr (.inl (fun _ => 0)))), ((ma 5), .inl (cy 0, 1600, .inl (fun _ => 0))), ((ma 16), .inl (cy 1, 5, .inl (fun _ => 0))), ((ma 19), .inl (cy 1, 45, .inl (fun _ => 0))), ((ma 21), .inl (cy 1, 150, .inl (fun _ => 0))), ((ma 22), .inl (cy 1, 5, .inl (fun _ => 0))), ((ma 23), .inl (cy 1, 120, .inl (fun _ => 0))), ((ma 24), .inl (cy 1, 30, .inl (fun _ => 0))), ((ma 25), .inl (cy 3, 15, .inl (fun _ => 0))), ((ma 26), .inl (cy 1, 5, .inl (fun _ => 0))), ((ma 27), .inl (cy 1, 30, .inl (fun _ => 0))), ((ma 28), .inl (cy 3, 3, .inl (fun _ => 0)))] H := hP
  have hD : va_D A [((xa 0), .inr (9, [.ref (xa 1), .ref (xa 2), .ref (xa 3), .ref (xa 4), .ref (xa 5), .ref (xa 6), .ref (xa 7), .ref (xa 8), .ref (xa 9), .int 0, .ref (xa 11), .null, .int 0, .int (-1)])), ((xa 1), .inl (cy 0, 1600, .inl (fun _ => 0))), ((xa 2), .inr (4, [.int 0, .int (-1), .ref (xa 30), .int 0, .int 0, .int 0, .int 0, .int 0, .ref (xa 31), .int 0, .int 0, .int 0])), ((xa 8), .inl (cy 4, 4, .inr (.inr (.inr (.inr (fun _ => none)))))), ((xa 9), .inl (cy 5, 3, .inr (.inr (.inr (.inr (fun _ => none)))))), ((xa 11), .inr (2, [.int 0, .int 0, .int 0, .int 0, .int 0, .int 0, .int 0, .int 0, .int 1, .int 10, .int 0, .int 0, .int 0, .int 0, .ref (xa 20), .ref (xa 21), .ref (xa 22), .ref (xa 23), .ref (xa 24), .ref (xa 25), .ref (xa 26)])), ((ma 1), .inl (cy 1, 4, .inl fw)), ((ma 2), .inl (cy 1, 4, .inl (fun _ => 0))), ((ma 3), .inl (cy 2, 240, .inr (.inl (fun _ => 0)))), ((ma 5), .inl (cy 0, 1600, .inl (fun _ => 0))), ((ma 16), .inl (cy 1, 5, .inl (fun _ => 0))), ((ma 19), .inl (cy 1, 45, .inl (fun _ => 0))), ((ma 21), .inl (cy 1, 150, .inl (fun _ => 0))), ((ma 22), .inl (cy 1, 5, .inl (fun _ => 0))), ((ma 23), .inl (cy 1, 120, .inl (fun _ => 0))), ((ma 24), .inl (cy 1, 30, .inl (fun _ => 0))), ((ma 25), .inl (cy 3, 15, .inl (fun _ => 0))), ((ma 26), .inl (cy 1, 5, .inl (fun _ => 0))), ((ma 27), .inl (cy 1, 30, .inl (fun _ => 0))), ((ma 28), .inl (cy 3, 3, .inl (fun _ => 0)))] := hD
  obtain ⟨r_7, rfl, hr_7⟩ := hv
  have er_7 := hr_7
  subst er_7
  refine W.eq (g2 := F0 m 554 ls [.long (-2), .long (-2)]) rfl ?_
  refine W.lcmp hx hb dL_law_554 ?_
  refine lv_topi (fun z_8 ez_8 => ?_)
  have ez_8 : z_8 = 0 := ez_8.trans (by decide)
  subst ez_8
  refine lv_if_eq (tgt := 2286) hx hb dL_law_555 (by decide) (fun _ => ?_) (fun c_9 => absurd (by decide) c_9)
  exact law_end C0 hL7 hA2 hbA hS (lv_sub hl [0, 1, 2, 3] rfl) (Nat.le_of_ble_eq_true rfl) (Nat.le_of_ble_eq_true rfl)
set_option maxHeartbeats 4000000 in
set_option maxRecDepth 100000 in
theorem lc_9 {p : Program} {e : Env} {s : State} {m : MethodId} {below : List Frame} {meth : Method} {c : Code} {l : Launch} {b L : Nat} {xs : Nat → Int32} {A : Nat → Prop} (D : va_G) (cy : Nat → ClassId) (xa ma : Nat → Nat) (fw : Nat → Int32) (hw : ∀ k : Nat, k < 4 → fw k = -1) (hL7 : L = 7) (C0 : lw_At p s m meth c b L xs) (hK : KK D cy s) (hA : ∀ q : Nat, s.heap.size ≤ q → A q) (hA2 : ∀ q : Nat, A q → s.heap.size ≤ q) (hbA : ¬ A b) {H : Heap} {locs : List Loc} (hP : va_P D vwCl [((xa 0), .inr (9, [.ref (xa 1), .ref (xa 2), .ref (xa 3), .ref (xa 4), .ref (xa 5), .ref (xa 6), .ref (xa 7), .ref (xa 8), .ref (xa 9), .int 0, .ref (xa 11), .null, .int 0, .int (-1)])), ((xa 1), .inl (cy 0, 1600, .inl (fun _ => 0))), ((xa 2), .inr (4, [.int 0, .int (-1), .ref (xa 30), .int 0, .int 0, .int 0, .int 0, .int 0, .ref (xa 31), .int 0, .int 0, .int 0])), ((xa 8), .inl (cy 4, 4, .inr (.inr (.inr (.inr (fun _ => none)))))), ((xa 9), .inl (cy 5, 3, .inr (.inr (.inr (.inr (fun _ => none)))))), ((xa 11), .inr (2, [.int 0, .int 0, .int 0, .int 0, .int 0, .int 0, .int 0, .int 0, .int 1, .int 10, .int 0, .int 0, .int 0, .int 0, .ref (xa 20), .ref (xa 21), .ref (xa 22), .ref (xa 23), .ref (xa 24), .ref (xa 25), .ref (xa 26)])), ((ma 0), .inr (10, [.int 0, .ref (ma 1), .ref (ma 2), .ref (ma 3), .ref (ma 4), .ref (ma 5), .int 0, .int 0, .int 0, .int 0, .int 0, .long 0, .int 0, .int 0, .int 0, .int (-1), .ref (ma 16), .ref (ma 17), .ref (ma 18), .ref (ma 19), .ref (ma 20), .ref (ma 21), .ref (ma 22), .ref (ma 23), .ref (ma 24), .ref (ma 25), .ref (ma 26), .ref (ma 27), .ref (ma 28), .ref (ma 29), .ref (ma 30), .ref (ma 31), .ref (ma 32), .ref (ma 33), .ref (ma 34), .ref (ma 35), .ref (ma 36), .ref (ma 37), .ref (ma 38), .ref (ma 39), .ref (ma 40), .ref (ma 41), .long 0])), ((ma 1), .inl (cy 1, 4, .inl fw)), ((ma 2), .inl (cy 1, 4, .inl (fun _ => 0))), ((ma 3), .inl (cy 2, 240, .inr (.inl (fun _ => 0)))), ((ma 5), .inl (cy 0, 1600, .inl (fun _ => 0))), ((ma 16), .inl (cy 1, 5, .inl (fun _ => 0))), ((ma 17), .inl (cy 1, 20, .inl (fun _ => 0))), ((ma 18), .inl (cy 1, 5, .inl (fun _ => 0))), ((ma 19), .inl (cy 1, 45, .inl (fun _ => 0))), ((ma 20), .inl (cy 1, 5, .inl (fun _ => 0))), ((ma 21), .inl (cy 1, 150, .inl (fun _ => 0))), ((ma 22), .inl (cy 1, 5, .inl (fun _ => 0))), ((ma 23), .inl (cy 1, 120, .inl (fun _ => 0))), ((ma 24), .inl (cy 1, 30, .inl (fun _ => 0))), ((ma 25), .inl (cy 3, 15, .inl (fun _ => 0))), ((ma 26), .inl (cy 1, 5, .inl (fun _ => 0))), ((ma 27), .inl (cy 1, 30, .inl (fun _ => 0))), ((ma 28), .inl (cy 3, 3, .inl (fun _ => 0)))] H) (hD : va_D A [((xa 0), .inr (9, [.ref (xa 1), .ref (xa 2), .ref (xa 3), .ref (xa 4), .ref (xa 5), .ref (xa 6), .ref (xa 7), .ref (xa 8), .ref (xa 9), .int 0, .ref (xa 11), .null, .int 0, .int (-1)])), ((xa 1), .inl (cy 0, 1600, .inl (fun _ => 0))), ((xa 2), .inr (4, [.int 0, .int (-1), .ref (xa 30), .int 0, .int 0, .int 0, .int 0, .int 0, .ref (xa 31), .int 0, .int 0, .int 0])), ((xa 8), .inl (cy 4, 4, .inr (.inr (.inr (.inr (fun _ => none)))))), ((xa 9), .inl (cy 5, 3, .inr (.inr (.inr (.inr (fun _ => none)))))), ((xa 11), .inr (2, [.int 0, .int 0, .int 0, .int 0, .int 0, .int 0, .int 0, .int 0, .int 1, .int 10, .int 0, .int 0, .int 0, .int 0, .ref (xa 20), .ref (xa 21), .ref (xa 22), .ref (xa 23), .ref (xa 24), .ref (xa 25), .ref (xa 26)])), ((ma 0), .inr (10, [.int 0, .ref (ma 1), .ref (ma 2), .ref (ma 3), .ref (ma 4), .ref (ma 5), .int 0, .int 0, .int 0, .int 0, .int 0, .long 0, .int 0, .int 0, .int 0, .int (-1), .ref (ma 16), .ref (ma 17), .ref (ma 18), .ref (ma 19), .ref (ma 20), .ref (ma 21), .ref (ma 22), .ref (ma 23), .ref (ma 24), .ref (ma 25), .ref (ma 26), .ref (ma 27), .ref (ma 28), .ref (ma 29), .ref (ma 30), .ref (ma 31), .ref (ma 32), .ref (ma 33), .ref (ma 34), .ref (ma 35), .ref (ma 36), .ref (ma 37), .ref (ma 38), .ref (ma 39), .ref (ma 40), .ref (ma 41), .long 0])), ((ma 1), .inl (cy 1, 4, .inl fw)), ((ma 2), .inl (cy 1, 4, .inl (fun _ => 0))), ((ma 3), .inl (cy 2, 240, .inr (.inl (fun _ => 0)))), ((ma 5), .inl (cy 0, 1600, .inl (fun _ => 0))), ((ma 16), .inl (cy 1, 5, .inl (fun _ => 0))), ((ma 17), .inl (cy 1, 20, .inl (fun _ => 0))), ((ma 18), .inl (cy 1, 5, .inl (fun _ => 0))), ((ma 19), .inl (cy 1, 45, .inl (fun _ => 0))), ((ma 20), .inl (cy 1, 5, .inl (fun _ => 0))), ((ma 21), .inl (cy 1, 150, .inl (fun _ => 0))), ((ma 22), .inl (cy 1, 5, .inl (fun _ => 0))), ((ma 23), .inl (cy 1, 120, .inl (fun _ => 0))), ((ma 24), .inl (cy 1, 30, .inl (fun _ => 0))), ((ma 25), .inl (cy 3, 15, .inl (fun _ => 0))), ((ma 26), .inl (cy 1, 5, .inl (fun _ => 0))), ((ma 27), .inl (cy 1, 30, .inl (fun _ => 0))), ((ma 28), .inl (cy 3, 3, .inl (fun _ => 0)))]) (hS : va_S A s.heap H locs) {ls : Array Slot} (hl : lv_has ls 4 [(3, .int 0), (2, .ref (ma 0)), (1, .ref (xa 0)), (0, .ref b)]) : W p l e room_1 s m #[Value.ref b] below meth c H locs 82 108979 (lw_Z below #[Value.ref b] s) (F0 m 560 ls []) := by
  obtain ⟨hx, hb, hr, hml, hown, hts, hX, hbl, hlocks, hgv⟩ := id C0
  have hown : s.vm.findClass RL = some m.cls := hown
  have hb : c.code = cL_law := hb
  have hts : ∀ w ∈ GW, w.before #[Value.ref b] s = true := fun w h => hts w (gw_tbl w h)
  refine lv_aload_n hx hb dL_law_560 rfl (lv_at hl 2 rfl) ?_
  refine lv_aload_n hx hb dL_law_561 rfl (lv_at hl 3 rfl) ?_
  refine lv_iload_n hx hb dL_law_562 rfl (lv_at hl 0 rfl) ?_
  refine lv_iconst (v := 1) hx hb dL_law_563 (by decide) ?_
  refine lv_iadd hx hb dL_law_564 ?_
  refine lv_topi (fun z_1 ez_1 => ?_)
  have ez_1 : z_1 = 1 := ez_1.trans (by decide)
  subst ez_1
  refine va_sld (i := 1) hx hb hX hbl hbA hS (by subst hL7; exact vp_in_iff.mpr (by decide)) dL_law_565 ?_
  refine W.eq (g2 := F0 m 566 ls [.int (xs 1), .ref (xa 0)]) rfl ?_
  refine lv_aload_n hx hb dL_law_566 rfl (lv_at hl 3 rfl) ?_
  refine lv_iload_n hx hb dL_law_567 rfl (lv_at hl 0 rfl) ?_
  refine lv_iconst (v := 2) hx hb dL_law_568 (by decide) ?_
  refine lv_iadd hx hb dL_law_569 ?_
  refine lv_topi (fun z_2 ez_2 => ?_)
  have ez_2 : z_2 = 2 := ez_2.trans (by decide)
  subst ez_2
  refine va_sld (i := 2) hx hb hX hbl hbA hS (by subst hL7; exact vp_in_iff.mpr (by decide)) dL_law_570 ?_
  refine W.eq (g2 := F0 m 571 ls [.int (xs 2), .int (xs 1), .ref (xa 0)]) rfl ?_
  refine pu_calli (runV (As := [.int (xs 1), .int (xs 2)]) (rest := []) ⟨hx, hb, hml, hown, hts⟩ (f_X9_when l D cy xa (xs 1) (xs 2) ) sV_L_54 hK (va_recv hK.1 hP (ci := 9) (q0 := 0) rfl rfl) (hP.sub (ws' := [((xa 0), .inr (9, [.ref (xa 1), .ref (xa 2), .ref (xa 3), .ref (xa 4), .ref (xa 5), .ref (xa 6), .ref (xa 7), .ref (xa 8), .ref (xa 9), .int 0, .ref (xa 11), .null, .int 0, .int (-1)])), ((xa 11), .inr (2, [.int 0, .int 0, .int 0, .int 0, .int 0, .int 0, .int 0, .int 0, .int 1, .int 10, .int 0, .int 0, .int 0, .int 0, .ref (xa 20), .ref (xa 21), .ref (xa 22), .ref (xa 23), .ref (xa 24), .ref (xa 25), .ref (xa 26)]))]) [0, 5] rfl) ⟨Nat.le_of_ble_eq_true rfl, Nat.le_of_ble_eq_true rfl⟩ rfl hl.1 rfl (Nat.le_of_ble_eq_true rfl) dL_law_571 ⟨Nat.le_of_ble_eq_true rfl, Nat.le_of_ble_eq_true rfl⟩) (fun r_3 hr_3 => ?_)
  have er_3 := hr_3
  subst er_3
  refine W.eq (g2 := F0 m 574 ls [.int (-2)]) rfl ?_
  refine lv_aload_n hx hb dL_law_574 rfl (lv_at hl 1 rfl) ?_
  refine lv_aload_n hx hb dL_law_575 rfl (lv_at hl 3 rfl) ?_
  refine lv_iload_n hx hb dL_law_576 rfl (lv_at hl 0 rfl) ?_
  refine lv_iconst (v := 1) hx hb dL_law_577 (by decide) ?_
  refine lv_iadd hx hb dL_law_578 ?_
  refine lv_topi (fun z_4 ez_4 => ?_)
  have ez_4 : z_4 = 1 := ez_4.trans (by decide)
  subst ez_4
  refine va_sld (i := 1) hx hb hX hbl hbA hS (by subst hL7; exact vp_in_iff.mpr (by decide)) dL_law_579 ?_
  refine W.eq (g2 := F0 m 580 ls [.int (xs 1), .ref (ma 0), .int (-2)]) rfl ?_
  refine lv_aload_n hx hb dL_law_580 rfl (lv_at hl 3 rfl) ?_
  refine lv_iload_n hx hb dL_law_581 rfl (lv_at hl 0 rfl) ?_
  refine lv_iconst (v := 2) hx hb dL_law_582 (by decide) ?_
  refine lv_iadd hx hb dL_law_583 ?_
  refine lv_topi (fun z_5 ez_5 => ?_)
  have ez_5 : z_5 = 2 := ez_5.trans (by decide)
  subst ez_5
  refine va_sld (i := 2) hx hb hX hbl hbA hS (by subst hL7; exact vp_in_iff.mpr (by decide)) dL_law_584 ?_
  refine W.eq (g2 := F0 m 585 ls [.int (xs 2), .int (xs 1), .ref (ma 0), .int (-2)]) rfl ?_
  refine fw_call (wc := [((ma 0), .inr (10, [.int 0, .ref (ma 1), .ref (ma 2), .ref (ma 3), .ref (ma 4), .ref (ma 5), .int 0, .int 0, .int 0, .int 0, .int 0, .long 0, .int 0, .int 0, .int 0, .int (-1), .ref (ma 16), .ref (ma 17), .ref (ma 18), .ref (ma 19), .ref (ma 20), .ref (ma 21), .ref (ma 22), .ref (ma 23), .ref (ma 24), .ref (ma 25), .ref (ma 26), .ref (ma 27), .ref (ma 28), .ref (ma 29), .ref (ma 30), .ref (ma 31), .ref (ma 32), .ref (ma 33), .ref (ma 34), .ref (ma 35), .ref (ma 36), .ref (ma 37), .ref (ma 38), .ref (ma 39), .ref (ma 40), .ref (ma 41), .long 0])), ((ma 20), .inl (cy 1, 5, .inl (fun _ => 0))), ((ma 18), .inl (cy 1, 5, .inl (fun _ => 0))), ((ma 17), .inl (cy 1, 20, .inl (fun _ => 0)))]) (wr := [((xa 0), .inr (9, [.ref (xa 1), .ref (xa 2), .ref (xa 3), .ref (xa 4), .ref (xa 5), .ref (xa 6), .ref (xa 7), .ref (xa 8), .ref (xa 9), .int 0, .ref (xa 11), .null, .int 0, .int (-1)])), ((xa 1), .inl (cy 0, 1600, .inl (fun _ => 0))), ((xa 2), .inr (4, [.int 0, .int (-1), .ref (xa 30), .int 0, .int 0, .int 0, .int 0, .int 0, .ref (xa 31), .int 0, .int 0, .int 0])), ((xa 8), .inl (cy 4, 4, .inr (.inr (.inr (.inr (fun _ => none)))))), ((xa 9), .inl (cy 5, 3, .inr (.inr (.inr (.inr (fun _ => none)))))), ((xa 11), .inr (2, [.int 0, .int 0, .int 0, .int 0, .int 0, .int 0, .int 0, .int 0, .int 1, .int 10, .int 0, .int 0, .int 0, .int 0, .ref (xa 20), .ref (xa 21), .ref (xa 22), .ref (xa 23), .ref (xa 24), .ref (xa 25), .ref (xa 26)])), ((ma 1), .inl (cy 1, 4, .inl fw)), ((ma 2), .inl (cy 1, 4, .inl (fun _ => 0))), ((ma 3), .inl (cy 2, 240, .inr (.inl (fun _ => 0)))), ((ma 5), .inl (cy 0, 1600, .inl (fun _ => 0))), ((ma 16), .inl (cy 1, 5, .inl (fun _ => 0))), ((ma 19), .inl (cy 1, 45, .inl (fun _ => 0))), ((ma 21), .inl (cy 1, 150, .inl (fun _ => 0))), ((ma 22), .inl (cy 1, 5, .inl (fun _ => 0))), ((ma 23), .inl (cy 1, 120, .inl (fun _ => 0))), ((ma 24), .inl (cy 1, 30, .inl (fun _ => 0))), ((ma 25), .inl (cy 3, 15, .inl (fun _ => 0))), ((ma 26), .inl (cy 1, 5, .inl (fun _ => 0))), ((ma 27), .inl (cy 1, 30, .inl (fun _ => 0))), ((ma 28), .inl (cy 3, 3, .inl (fun _ => 0)))]) (runV (As := [.int (xs 1), .int (xs 2)]) (rest := [.int (-2)]) ⟨hx, hb, hml, hown, hts⟩ (g_X10_when l D cy ma (xs 1) (xs 2)  H.size) sV_L_58 hK (va_recv hK.1 hP (ci := 10) (q0 := 6) rfl rfl) (PW.of hP hD [6, 15, 13, 12] (by decide) rfl rfl) ⟨Nat.le_of_ble_eq_true rfl, Nat.le_of_ble_eq_true rfl⟩ rfl hl.1 rfl (Nat.le_of_ble_eq_true rfl) dL_law_585 ⟨Nat.le_of_ble_eq_true rfl, Nat.le_of_ble_eq_true rfl⟩) hP hD hS hA [6, 15, 13, 12] [0, 1, 2, 3, 4, 5, 7, 8, 9, 10, 11, 14, 16, 17, 18, 19, 20, 21, 22, 23] rfl rfl (by decide) (by decide) (fun v u_6 H locs hv hP hD hS => ?_)
  have hP : va_P D vwCl [((xa 0), .inr (9, [.ref (xa 1), .ref (xa 2), .ref (xa 3), .ref (xa 4), .ref (xa 5), .ref (xa 6), .ref (xa 7), .ref (xa 8), .ref (xa 9), .int 0, .ref (xa 11), .null, .int 0, .int (-1)])), ((xa 1), .inl (cy 0, 1600, .inl (fun _ => 0))), ((xa 2), .inr (4, [.int 0, .int (-1), .ref (xa 30), .int 0, .int 0, .int 0, .int 0, .int 0, .ref (xa 31), .int 0, .int 0, .int 0])), ((xa 8), .inl (cy 4, 4, .inr (.inr (.inr (.inr (fun _ => none)))))), ((xa 9), .inl (cy 5, 3, .inr (.inr (.inr (.inr (fun _ => none)))))), ((xa 11), .inr (2, [.int 0, .int 0, .int 0, .int 0, .int 0, .int 0, .int 0, .int 0, .int 1, .int 10, .int 0, .int 0, .int 0, .int 0, .ref (xa 20), .ref (xa 21), .ref (xa 22), .ref (xa 23), .ref (xa 24), .ref (xa 25), .ref (xa 26)])), ((ma 1), .inl (cy 1, 4, .inl fw)), ((ma 2), .inl (cy 1, 4, .inl (fun _ => 0))), ((ma 3), .inl (cy 2, 240, .inr (.inl (fun _ => 0)))), ((ma 5), .inl (cy 0, 1600, .inl (fun _ => 0))), ((ma 16), .inl (cy 1, 5, .inl (fun _ => 0))), ((ma 19), .inl (cy 1, 45, .inl (fun _ => 0))), ((ma 21), .inl (cy 1, 150, .inl (fun _ => 0))), ((ma 22), .inl (cy 1, 5, .inl (fun _ => 0))), ((ma 23), .inl (cy 1, 120, .inl (fun _ => 0))), ((ma 24), .inl (cy 1, 30, .inl (fun _ => 0))), ((ma 25), .inl (cy 3, 15, .inl (fun _ => 0))), ((ma 26), .inl (cy 1, 5, .inl (fun _ => 0))), ((ma 27), .inl (cy 1, 30, .inl (fun _ => 0))), ((ma 28), .inl (cy 3, 3, .inl (fun _ => 0)))] H := hP
  have hD : va_D A [((xa 0), .inr (9, [.ref (xa 1), .ref (xa 2), .ref (xa 3), .ref (xa 4), .ref (xa 5), .ref (xa 6), .ref (xa 7), .ref (xa 8), .ref (xa 9), .int 0, .ref (xa 11), .null, .int 0, .int (-1)])), ((xa 1), .inl (cy 0, 1600, .inl (fun _ => 0))), ((xa 2), .inr (4, [.int 0, .int (-1), .ref (xa 30), .int 0, .int 0, .int 0, .int 0, .int 0, .ref (xa 31), .int 0, .int 0, .int 0])), ((xa 8), .inl (cy 4, 4, .inr (.inr (.inr (.inr (fun _ => none)))))), ((xa 9), .inl (cy 5, 3, .inr (.inr (.inr (.inr (fun _ => none)))))), ((xa 11), .inr (2, [.int 0, .int 0, .int 0, .int 0, .int 0, .int 0, .int 0, .int 0, .int 1, .int 10, .int 0, .int 0, .int 0, .int 0, .ref (xa 20), .ref (xa 21), .ref (xa 22), .ref (xa 23), .ref (xa 24), .ref (xa 25), .ref (xa 26)])), ((ma 1), .inl (cy 1, 4, .inl fw)), ((ma 2), .inl (cy 1, 4, .inl (fun _ => 0))), ((ma 3), .inl (cy 2, 240, .inr (.inl (fun _ => 0)))), ((ma 5), .inl (cy 0, 1600, .inl (fun _ => 0))), ((ma 16), .inl (cy 1, 5, .inl (fun _ => 0))), ((ma 19), .inl (cy 1, 45, .inl (fun _ => 0))), ((ma 21), .inl (cy 1, 150, .inl (fun _ => 0))), ((ma 22), .inl (cy 1, 5, .inl (fun _ => 0))), ((ma 23), .inl (cy 1, 120, .inl (fun _ => 0))), ((ma 24), .inl (cy 1, 30, .inl (fun _ => 0))), ((ma 25), .inl (cy 3, 15, .inl (fun _ => 0))), ((ma 26), .inl (cy 1, 5, .inl (fun _ => 0))), ((ma 27), .inl (cy 1, 30, .inl (fun _ => 0))), ((ma 28), .inl (cy 3, 3, .inl (fun _ => 0)))] := hD
  obtain ⟨r_7, rfl, hr_7⟩ := hv
  have er_7 := hr_7
  subst er_7
  refine W.eq (g2 := F0 m 588 ls [.int (-2), .int (-2)]) rfl ?_
  refine lv_icmp_eq (tgt := 2286) hx hb dL_law_588 (by decide) (fun _ => ?_) (fun c_8 => absurd (by decide) c_8)
  exact law_end C0 hL7 hA2 hbA hS (lv_sub hl [0, 1, 2, 3] rfl) (Nat.le_of_ble_eq_true rfl) (Nat.le_of_ble_eq_true rfl)
