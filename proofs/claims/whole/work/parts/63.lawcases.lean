/-! THE LAW: its cases 5 to 11 -/
theorem dL_law_399 : decode cL_law 399 = .ok (.aload_n 1, 1) := by decide +kernel
theorem dL_law_400 : decode cL_law 400 = .ok (.invokevirtual 39, 3) := by decide +kernel
theorem dL_law_403 : decode cL_law 403 = .ok (.aload_n 2, 1) := by decide +kernel
theorem dL_law_404 : decode cL_law 404 = .ok (.invokevirtual 43, 3) := by decide +kernel
theorem dL_law_407 : decode cL_law 407 = .ok (.if_icmp .eq 624, 3) := by decide +kernel
theorem dL_law_410 : decode cL_law 410 = .ok (.iconst 0, 1) := by decide +kernel
theorem dL_law_411 : decode cL_law 411 = .ok (.ireturn, 1) := by decide +kernel
theorem dL_law_412 : decode cL_law 412 = .ok (.aload_n 1, 1) := by decide +kernel
theorem dL_law_413 : decode cL_law 413 = .ok (.invokevirtual 44, 3) := by decide +kernel
theorem dL_law_416 : decode cL_law 416 = .ok (.aload_n 2, 1) := by decide +kernel
theorem dL_law_417 : decode cL_law 417 = .ok (.invokevirtual 47, 3) := by decide +kernel
theorem dL_law_420 : decode cL_law 420 = .ok (.if_icmp .eq 611, 3) := by decide +kernel
theorem dL_law_423 : decode cL_law 423 = .ok (.iconst 0, 1) := by decide +kernel
theorem dL_law_424 : decode cL_law 424 = .ok (.ireturn, 1) := by decide +kernel
theorem dL_law_425 : decode cL_law 425 = .ok (.aload_n 1, 1) := by decide +kernel
theorem dL_law_426 : decode cL_law 426 = .ok (.aload_n 0, 1) := by decide +kernel
theorem dL_law_427 : decode cL_law 427 = .ok (.iload_n 3, 1) := by decide +kernel
theorem dL_law_428 : decode cL_law 428 = .ok (.iconst 1, 1) := by decide +kernel
theorem dL_law_429 : decode cL_law 429 = .ok (.iadd, 1) := by decide +kernel
theorem dL_law_430 : decode cL_law 430 = .ok (.iaload, 1) := by decide +kernel
theorem dL_law_431 : decode cL_law 431 = .ok (.aload_n 0, 1) := by decide +kernel
theorem dL_law_432 : decode cL_law 432 = .ok (.iload_n 3, 1) := by decide +kernel
theorem dL_law_433 : decode cL_law 433 = .ok (.iconst 2, 1) := by decide +kernel
theorem dL_law_434 : decode cL_law 434 = .ok (.iadd, 1) := by decide +kernel
theorem dL_law_435 : decode cL_law 435 = .ok (.iaload, 1) := by decide +kernel
theorem dL_law_436 : decode cL_law 436 = .ok (.aload_n 0, 1) := by decide +kernel
theorem dL_law_437 : decode cL_law 437 = .ok (.iload_n 3, 1) := by decide +kernel
theorem dL_law_438 : decode cL_law 438 = .ok (.iconst 3, 1) := by decide +kernel
theorem dL_law_439 : decode cL_law 439 = .ok (.iadd, 1) := by decide +kernel
theorem dL_law_440 : decode cL_law 440 = .ok (.iaload, 1) := by decide +kernel
theorem dL_law_441 : decode cL_law 441 = .ok (.invokevirtual 48, 3) := by decide +kernel
theorem dL_law_444 : decode cL_law 444 = .ok (.aload_n 2, 1) := by decide +kernel
theorem dL_law_445 : decode cL_law 445 = .ok (.aload_n 0, 1) := by decide +kernel
theorem dL_law_446 : decode cL_law 446 = .ok (.iload_n 3, 1) := by decide +kernel
theorem dL_law_447 : decode cL_law 447 = .ok (.iconst 1, 1) := by decide +kernel
theorem dL_law_448 : decode cL_law 448 = .ok (.iadd, 1) := by decide +kernel
theorem dL_law_449 : decode cL_law 449 = .ok (.iaload, 1) := by decide +kernel
theorem dL_law_450 : decode cL_law 450 = .ok (.aload_n 0, 1) := by decide +kernel
theorem dL_law_451 : decode cL_law 451 = .ok (.iload_n 3, 1) := by decide +kernel
theorem dL_law_452 : decode cL_law 452 = .ok (.iconst 2, 1) := by decide +kernel
theorem dL_law_453 : decode cL_law 453 = .ok (.iadd, 1) := by decide +kernel
theorem dL_law_454 : decode cL_law 454 = .ok (.iaload, 1) := by decide +kernel
theorem dL_law_455 : decode cL_law 455 = .ok (.aload_n 0, 1) := by decide +kernel
theorem dL_law_456 : decode cL_law 456 = .ok (.iload_n 3, 1) := by decide +kernel
theorem dL_law_457 : decode cL_law 457 = .ok (.iconst 3, 1) := by decide +kernel
theorem dL_law_458 : decode cL_law 458 = .ok (.iadd, 1) := by decide +kernel
theorem dL_law_459 : decode cL_law 459 = .ok (.iaload, 1) := by decide +kernel
theorem dL_law_460 : decode cL_law 460 = .ok (.invokevirtual 51, 3) := by decide +kernel
theorem dL_law_463 : decode cL_law 463 = .ok (.if_icmp .eq 568, 3) := by decide +kernel
theorem dL_law_466 : decode cL_law 466 = .ok (.iconst 0, 1) := by decide +kernel
theorem dL_law_467 : decode cL_law 467 = .ok (.ireturn, 1) := by decide +kernel
theorem dL_law_468 : decode cL_law 468 = .ok (.aload_n 1, 1) := by decide +kernel
theorem dL_law_469 : decode cL_law 469 = .ok (.aload_n 0, 1) := by decide +kernel
theorem dL_law_470 : decode cL_law 470 = .ok (.iload_n 3, 1) := by decide +kernel
theorem dL_law_471 : decode cL_law 471 = .ok (.iconst 1, 1) := by decide +kernel
theorem dL_law_472 : decode cL_law 472 = .ok (.iadd, 1) := by decide +kernel
theorem dL_law_473 : decode cL_law 473 = .ok (.iaload, 1) := by decide +kernel
theorem dL_law_474 : decode cL_law 474 = .ok (.aload_n 0, 1) := by decide +kernel
theorem dL_law_475 : decode cL_law 475 = .ok (.iload_n 3, 1) := by decide +kernel
theorem dL_law_476 : decode cL_law 476 = .ok (.iconst 2, 1) := by decide +kernel
theorem dL_law_477 : decode cL_law 477 = .ok (.iadd, 1) := by decide +kernel
theorem dL_law_478 : decode cL_law 478 = .ok (.iaload, 1) := by decide +kernel
theorem dL_law_479 : decode cL_law 479 = .ok (.aload_n 0, 1) := by decide +kernel
theorem dL_law_480 : decode cL_law 480 = .ok (.iload_n 3, 1) := by decide +kernel
theorem dL_law_481 : decode cL_law 481 = .ok (.iconst 3, 1) := by decide +kernel
theorem dL_law_482 : decode cL_law 482 = .ok (.iadd, 1) := by decide +kernel
theorem dL_law_483 : decode cL_law 483 = .ok (.iaload, 1) := by decide +kernel
theorem dL_law_484 : decode cL_law 484 = .ok (.invokevirtual 52, 3) := by decide +kernel
theorem dL_law_487 : decode cL_law 487 = .ok (.aload_n 2, 1) := by decide +kernel
theorem dL_law_488 : decode cL_law 488 = .ok (.aload_n 0, 1) := by decide +kernel
theorem dL_law_489 : decode cL_law 489 = .ok (.iload_n 3, 1) := by decide +kernel
theorem dL_law_490 : decode cL_law 490 = .ok (.iconst 1, 1) := by decide +kernel
theorem dL_law_491 : decode cL_law 491 = .ok (.iadd, 1) := by decide +kernel
theorem dL_law_492 : decode cL_law 492 = .ok (.iaload, 1) := by decide +kernel
theorem dL_law_493 : decode cL_law 493 = .ok (.aload_n 0, 1) := by decide +kernel
theorem dL_law_494 : decode cL_law 494 = .ok (.iload_n 3, 1) := by decide +kernel
theorem dL_law_495 : decode cL_law 495 = .ok (.iconst 2, 1) := by decide +kernel
theorem dL_law_496 : decode cL_law 496 = .ok (.iadd, 1) := by decide +kernel
theorem dL_law_497 : decode cL_law 497 = .ok (.iaload, 1) := by decide +kernel
theorem dL_law_498 : decode cL_law 498 = .ok (.aload_n 0, 1) := by decide +kernel
theorem dL_law_499 : decode cL_law 499 = .ok (.iload_n 3, 1) := by decide +kernel
theorem dL_law_500 : decode cL_law 500 = .ok (.iconst 3, 1) := by decide +kernel
theorem dL_law_501 : decode cL_law 501 = .ok (.iadd, 1) := by decide +kernel
theorem dL_law_502 : decode cL_law 502 = .ok (.iaload, 1) := by decide +kernel
theorem dL_law_503 : decode cL_law 503 = .ok (.invokevirtual 55, 3) := by decide +kernel
theorem dL_law_506 : decode cL_law 506 = .ok (.if_icmp .eq 525, 3) := by decide +kernel
theorem dL_law_509 : decode cL_law 509 = .ok (.iconst 0, 1) := by decide +kernel
theorem dL_law_510 : decode cL_law 510 = .ok (.ireturn, 1) := by decide +kernel
theorem dL_law_511 : decode cL_law 511 = .ok (.aload_n 1, 1) := by decide +kernel
theorem dL_law_512 : decode cL_law 512 = .ok (.aload_n 0, 1) := by decide +kernel
theorem dL_law_513 : decode cL_law 513 = .ok (.iload_n 3, 1) := by decide +kernel
theorem dL_law_514 : decode cL_law 514 = .ok (.iconst 1, 1) := by decide +kernel
theorem dL_law_515 : decode cL_law 515 = .ok (.iadd, 1) := by decide +kernel
theorem dL_law_516 : decode cL_law 516 = .ok (.iaload, 1) := by decide +kernel
theorem dL_law_517 : decode cL_law 517 = .ok (.aload_n 0, 1) := by decide +kernel
theorem dL_law_518 : decode cL_law 518 = .ok (.iload_n 3, 1) := by decide +kernel
theorem dL_law_519 : decode cL_law 519 = .ok (.iconst 2, 1) := by decide +kernel
theorem dL_law_520 : decode cL_law 520 = .ok (.iadd, 1) := by decide +kernel
theorem dL_law_521 : decode cL_law 521 = .ok (.iaload, 1) := by decide +kernel
theorem dL_law_522 : decode cL_law 522 = .ok (.invokevirtual 56, 3) := by decide +kernel
theorem dL_law_525 : decode cL_law 525 = .ok (.aload_n 2, 1) := by decide +kernel
theorem dL_law_526 : decode cL_law 526 = .ok (.aload_n 0, 1) := by decide +kernel
theorem dL_law_527 : decode cL_law 527 = .ok (.iload_n 3, 1) := by decide +kernel
theorem dL_law_528 : decode cL_law 528 = .ok (.iconst 1, 1) := by decide +kernel
theorem dL_law_529 : decode cL_law 529 = .ok (.iadd, 1) := by decide +kernel
theorem dL_law_530 : decode cL_law 530 = .ok (.iaload, 1) := by decide +kernel
theorem dL_law_531 : decode cL_law 531 = .ok (.aload_n 0, 1) := by decide +kernel
theorem dL_law_532 : decode cL_law 532 = .ok (.iload_n 3, 1) := by decide +kernel
theorem dL_law_533 : decode cL_law 533 = .ok (.iconst 2, 1) := by decide +kernel
theorem dL_law_534 : decode cL_law 534 = .ok (.iadd, 1) := by decide +kernel
theorem dL_law_535 : decode cL_law 535 = .ok (.iaload, 1) := by decide +kernel
theorem dL_law_536 : decode cL_law 536 = .ok (.invokevirtual 60, 3) := by decide +kernel
theorem dL_law_539 : decode cL_law 539 = .ok (.if_icmp .eq 492, 3) := by decide +kernel
theorem dL_law_542 : decode cL_law 542 = .ok (.iconst 0, 1) := by decide +kernel
theorem dL_law_543 : decode cL_law 543 = .ok (.ireturn, 1) := by decide +kernel
theorem dL_law_544 : decode cL_law 544 = .ok (.aload_n 1, 1) := by decide +kernel
theorem dL_law_545 : decode cL_law 545 = .ok (.aload_n 0, 1) := by decide +kernel
theorem dL_law_546 : decode cL_law 546 = .ok (.iload_n 3, 1) := by decide +kernel
theorem dL_law_547 : decode cL_law 547 = .ok (.iconst 1, 1) := by decide +kernel
theorem dL_law_548 : decode cL_law 548 = .ok (.iadd, 1) := by decide +kernel
theorem dL_law_549 : decode cL_law 549 = .ok (.iaload, 1) := by decide +kernel
theorem dL_law_550 : decode cL_law 550 = .ok (.aload_n 0, 1) := by decide +kernel
theorem dL_law_551 : decode cL_law 551 = .ok (.iload_n 3, 1) := by decide +kernel
theorem dL_law_552 : decode cL_law 552 = .ok (.iconst 2, 1) := by decide +kernel
theorem dL_law_553 : decode cL_law 553 = .ok (.iadd, 1) := by decide +kernel
theorem dL_law_554 : decode cL_law 554 = .ok (.iaload, 1) := by decide +kernel
theorem dL_law_555 : decode cL_law 555 = .ok (.invokevirtual 61, 3) := by decide +kernel
theorem dL_law_558 : decode cL_law 558 = .ok (.aload_n 2, 1) := by decide +kernel
theorem dL_law_559 : decode cL_law 559 = .ok (.aload_n 0, 1) := by decide +kernel
theorem dL_law_560 : decode cL_law 560 = .ok (.iload_n 3, 1) := by decide +kernel
theorem dL_law_561 : decode cL_law 561 = .ok (.iconst 1, 1) := by decide +kernel
theorem dL_law_562 : decode cL_law 562 = .ok (.iadd, 1) := by decide +kernel
theorem dL_law_563 : decode cL_law 563 = .ok (.iaload, 1) := by decide +kernel
theorem dL_law_564 : decode cL_law 564 = .ok (.aload_n 0, 1) := by decide +kernel
theorem dL_law_565 : decode cL_law 565 = .ok (.iload_n 3, 1) := by decide +kernel
theorem dL_law_566 : decode cL_law 566 = .ok (.iconst 2, 1) := by decide +kernel
theorem dL_law_567 : decode cL_law 567 = .ok (.iadd, 1) := by decide +kernel
theorem dL_law_568 : decode cL_law 568 = .ok (.iaload, 1) := by decide +kernel
theorem dL_law_569 : decode cL_law 569 = .ok (.invokevirtual 64, 3) := by decide +kernel
theorem dL_law_572 : decode cL_law 572 = .ok (.if_icmp .eq 459, 3) := by decide +kernel
theorem dL_law_575 : decode cL_law 575 = .ok (.iconst 0, 1) := by decide +kernel
theorem dL_law_576 : decode cL_law 576 = .ok (.ireturn, 1) := by decide +kernel
theorem dL_law_577 : decode cL_law 577 = .ok (.aload_n 1, 1) := by decide +kernel
theorem dL_law_578 : decode cL_law 578 = .ok (.aload_n 0, 1) := by decide +kernel
theorem dL_law_579 : decode cL_law 579 = .ok (.iload_n 3, 1) := by decide +kernel
theorem dL_law_580 : decode cL_law 580 = .ok (.iconst 1, 1) := by decide +kernel
theorem dL_law_581 : decode cL_law 581 = .ok (.iadd, 1) := by decide +kernel
theorem dL_law_582 : decode cL_law 582 = .ok (.iaload, 1) := by decide +kernel
theorem dL_law_583 : decode cL_law 583 = .ok (.invokevirtual 65, 3) := by decide +kernel
theorem dL_law_586 : decode cL_law 586 = .ok (.aload_n 2, 1) := by decide +kernel
theorem dL_law_587 : decode cL_law 587 = .ok (.aload_n 0, 1) := by decide +kernel
theorem dL_law_588 : decode cL_law 588 = .ok (.iload_n 3, 1) := by decide +kernel
theorem dL_law_589 : decode cL_law 589 = .ok (.iconst 1, 1) := by decide +kernel
theorem dL_law_590 : decode cL_law 590 = .ok (.iadd, 1) := by decide +kernel
theorem dL_law_591 : decode cL_law 591 = .ok (.iaload, 1) := by decide +kernel
theorem dL_law_592 : decode cL_law 592 = .ok (.invokevirtual 68, 3) := by decide +kernel
theorem dL_law_595 : decode cL_law 595 = .ok (.if_icmp .eq 436, 3) := by decide +kernel
theorem dL_law_598 : decode cL_law 598 = .ok (.iconst 0, 1) := by decide +kernel
theorem dL_law_599 : decode cL_law 599 = .ok (.ireturn, 1) := by decide +kernel
section LC
variable {G : GG} {b L i : Nat} {xs : Nat → Int32} {σ : AH}
theorem lc_town (hL : L ≤ 3072) (hi : i + 6 ≤ L) (H : IV σ) (hn : ∀ σ2, IV σ2 → J G RL cL_law 4 ret (TL G b L xs) 184 σ2 184 6624 1031 [some (.ref (EXT + 400)), some (.ref 0), some (.ref 171), some (.int (nI i))] []) : J G RL cL_law 4 ret (TL G b L xs) 184 σ 184 6624 399 [some (.ref (EXT + 400)), some (.ref 0), some (.ref 171), some (.int (nI i))] [] := by
  obtain ⟨v, σ1, σ2, h5, h6, H2, fs, ho⟩ := IV_town (G := G) (z := 184) H
  obtain ⟨fs0, ho0⟩ := IV_0 H
  refine j_aload_n dL_law_399 rfl rfl ?_
  refine j_callV h5 dL_law_400 rfl mv_L_39 ho0 rfl ⟨(Nat.le_of_ble_eq_true rfl), (Nat.le_of_ble_eq_true rfl)⟩ ⟨(Nat.le_of_ble_eq_true rfl), (Nat.le_of_ble_eq_true rfl)⟩ (Nat.le_of_ble_eq_true rfl) ?_
  refine j_aload_n dL_law_403 rfl rfl ?_
  refine j_callV h6 dL_law_404 rfl mv_L_43 ho rfl ⟨(Nat.le_of_ble_eq_true rfl), (Nat.le_of_ble_eq_true rfl)⟩ ⟨(Nat.le_of_ble_eq_true rfl), (Nat.le_of_ble_eq_true rfl)⟩ (Nat.le_of_ble_eq_true rfl) ?_
  refine j_icmp_eq 1031 dL_law_407 (by decide) (fun b407 => ?_) (fun b407 => by exact absurd rfl b407)
  exact hn σ2 H2
theorem lc_fault (hL : L ≤ 3072) (hi : i + 6 ≤ L) (H : IV σ) (hn : ∀ σ2, IV σ2 → J G RL cL_law 4 ret (TL G b L xs) 184 σ2 184 6624 1031 [some (.ref (EXT + 400)), some (.ref 0), some (.ref 171), some (.int (nI i))] []) : J G RL cL_law 4 ret (TL G b L xs) 184 σ 184 6624 412 [some (.ref (EXT + 400)), some (.ref 0), some (.ref 171), some (.int (nI i))] [] := by
  obtain ⟨v, σ1, σ2, h5, h6, H2, fs, ho⟩ := IV_fault (G := G) (z := 184) H
  obtain ⟨fs0, ho0⟩ := IV_0 H
  refine j_aload_n dL_law_412 rfl rfl ?_
  refine j_callV h5 dL_law_413 rfl mv_L_44 ho0 rfl ⟨(Nat.le_of_ble_eq_true rfl), (Nat.le_of_ble_eq_true rfl)⟩ ⟨(Nat.le_of_ble_eq_true rfl), (Nat.le_of_ble_eq_true rfl)⟩ (Nat.le_of_ble_eq_true rfl) ?_
  refine j_aload_n dL_law_416 rfl rfl ?_
  refine j_callV h6 dL_law_417 rfl mv_L_47 ho rfl ⟨(Nat.le_of_ble_eq_true rfl), (Nat.le_of_ble_eq_true rfl)⟩ ⟨(Nat.le_of_ble_eq_true rfl), (Nat.le_of_ble_eq_true rfl)⟩ (Nat.le_of_ble_eq_true rfl) ?_
  refine j_icmp_eq 1031 dL_law_420 (by decide) (fun b420 => ?_) (fun b420 => by exact absurd rfl b420)
  exact hn σ2 H2
theorem lc_loan (hL : L ≤ 3072) (hi : i + 6 ≤ L) (H : IV σ) (hn : ∀ σ2, IV σ2 → J G RL cL_law 4 ret (TL G b L xs) 184 σ2 184 6624 1031 [some (.ref (EXT + 400)), some (.ref 0), some (.ref 171), some (.int (nI i))] []) : J G RL cL_law 4 ret (TL G b L xs) 184 σ 184 6624 425 [some (.ref (EXT + 400)), some (.ref 0), some (.ref 171), some (.int (nI i))] [] := by
  obtain ⟨v, σ1, σ2, h5, h6, H2, fs, ho⟩ := IV_loan (G := G) (z := 184) H (xs (i + 1)) (xs (i + 2)) (xs (i + 3))
  obtain ⟨fs0, ho0⟩ := IV_0 H
  refine j_aload_n dL_law_425 rfl rfl ?_
  refine j_aload_n dL_law_426 rfl rfl ?_
  refine j_iload_n dL_law_427 rfl rfl ?_
  refine j_iconst (nI 1) dL_law_428 rfl ?_
  first | refine j_iaddN dL_law_429 ?_ | refine j_iadd dL_law_429 ?_
  refine j_sld dL_law_430 (by omega) hL ?_
  refine j_aload_n dL_law_431 rfl rfl ?_
  refine j_iload_n dL_law_432 rfl rfl ?_
  refine j_iconst (nI 2) dL_law_433 rfl ?_
  first | refine j_iaddN dL_law_434 ?_ | refine j_iadd dL_law_434 ?_
  refine j_sld dL_law_435 (by omega) hL ?_
  refine j_aload_n dL_law_436 rfl rfl ?_
  refine j_iload_n dL_law_437 rfl rfl ?_
  refine j_iconst (nI 3) dL_law_438 rfl ?_
  first | refine j_iaddN dL_law_439 ?_ | refine j_iadd dL_law_439 ?_
  refine j_sld dL_law_440 (by omega) hL ?_
  refine j_callV h5 dL_law_441 rfl mv_L_48 ho0 rfl ⟨(Nat.le_of_ble_eq_true rfl), (Nat.le_of_ble_eq_true rfl)⟩ ⟨(Nat.le_of_ble_eq_true rfl), (Nat.le_of_ble_eq_true rfl)⟩ (Nat.le_of_ble_eq_true rfl) ?_
  refine j_aload_n dL_law_444 rfl rfl ?_
  refine j_aload_n dL_law_445 rfl rfl ?_
  refine j_iload_n dL_law_446 rfl rfl ?_
  refine j_iconst (nI 1) dL_law_447 rfl ?_
  first | refine j_iaddN dL_law_448 ?_ | refine j_iadd dL_law_448 ?_
  refine j_sld dL_law_449 (by omega) hL ?_
  refine j_aload_n dL_law_450 rfl rfl ?_
  refine j_iload_n dL_law_451 rfl rfl ?_
  refine j_iconst (nI 2) dL_law_452 rfl ?_
  first | refine j_iaddN dL_law_453 ?_ | refine j_iadd dL_law_453 ?_
  refine j_sld dL_law_454 (by omega) hL ?_
  refine j_aload_n dL_law_455 rfl rfl ?_
  refine j_iload_n dL_law_456 rfl rfl ?_
  refine j_iconst (nI 3) dL_law_457 rfl ?_
  first | refine j_iaddN dL_law_458 ?_ | refine j_iadd dL_law_458 ?_
  refine j_sld dL_law_459 (by omega) hL ?_
  refine j_callV h6 dL_law_460 rfl mv_L_51 ho rfl ⟨(Nat.le_of_ble_eq_true rfl), (Nat.le_of_ble_eq_true rfl)⟩ ⟨(Nat.le_of_ble_eq_true rfl), (Nat.le_of_ble_eq_true rfl)⟩ (Nat.le_of_ble_eq_true rfl) ?_
  refine j_icmp_eq 1031 dL_law_463 (by decide) (fun b463 => ?_) (fun b463 => by exact absurd rfl b463)
  exact hn σ2 H2
theorem lc_pay (hL : L ≤ 3072) (hi : i + 6 ≤ L) (H : IV σ) (hn : ∀ σ2, IV σ2 → J G RL cL_law 4 ret (TL G b L xs) 184 σ2 184 6624 1031 [some (.ref (EXT + 400)), some (.ref 0), some (.ref 171), some (.int (nI i))] []) : J G RL cL_law 4 ret (TL G b L xs) 184 σ 184 6624 468 [some (.ref (EXT + 400)), some (.ref 0), some (.ref 171), some (.int (nI i))] [] := by
  obtain ⟨v, σ1, σ2, h5, h6, H2, fs, ho⟩ := IV_pay (G := G) (z := 184) H (xs (i + 1)) (xs (i + 2)) (xs (i + 3))
  obtain ⟨fs0, ho0⟩ := IV_0 H
  refine j_aload_n dL_law_468 rfl rfl ?_
  refine j_aload_n dL_law_469 rfl rfl ?_
  refine j_iload_n dL_law_470 rfl rfl ?_
  refine j_iconst (nI 1) dL_law_471 rfl ?_
  first | refine j_iaddN dL_law_472 ?_ | refine j_iadd dL_law_472 ?_
  refine j_sld dL_law_473 (by omega) hL ?_
  refine j_aload_n dL_law_474 rfl rfl ?_
  refine j_iload_n dL_law_475 rfl rfl ?_
  refine j_iconst (nI 2) dL_law_476 rfl ?_
  first | refine j_iaddN dL_law_477 ?_ | refine j_iadd dL_law_477 ?_
  refine j_sld dL_law_478 (by omega) hL ?_
  refine j_aload_n dL_law_479 rfl rfl ?_
  refine j_iload_n dL_law_480 rfl rfl ?_
  refine j_iconst (nI 3) dL_law_481 rfl ?_
  first | refine j_iaddN dL_law_482 ?_ | refine j_iadd dL_law_482 ?_
  refine j_sld dL_law_483 (by omega) hL ?_
  refine j_callV h5 dL_law_484 rfl mv_L_52 ho0 rfl ⟨(Nat.le_of_ble_eq_true rfl), (Nat.le_of_ble_eq_true rfl)⟩ ⟨(Nat.le_of_ble_eq_true rfl), (Nat.le_of_ble_eq_true rfl)⟩ (Nat.le_of_ble_eq_true rfl) ?_
  refine j_aload_n dL_law_487 rfl rfl ?_
  refine j_aload_n dL_law_488 rfl rfl ?_
  refine j_iload_n dL_law_489 rfl rfl ?_
  refine j_iconst (nI 1) dL_law_490 rfl ?_
  first | refine j_iaddN dL_law_491 ?_ | refine j_iadd dL_law_491 ?_
  refine j_sld dL_law_492 (by omega) hL ?_
  refine j_aload_n dL_law_493 rfl rfl ?_
  refine j_iload_n dL_law_494 rfl rfl ?_
  refine j_iconst (nI 2) dL_law_495 rfl ?_
  first | refine j_iaddN dL_law_496 ?_ | refine j_iadd dL_law_496 ?_
  refine j_sld dL_law_497 (by omega) hL ?_
  refine j_aload_n dL_law_498 rfl rfl ?_
  refine j_iload_n dL_law_499 rfl rfl ?_
  refine j_iconst (nI 3) dL_law_500 rfl ?_
  first | refine j_iaddN dL_law_501 ?_ | refine j_iadd dL_law_501 ?_
  refine j_sld dL_law_502 (by omega) hL ?_
  refine j_callV h6 dL_law_503 rfl mv_L_55 ho rfl ⟨(Nat.le_of_ble_eq_true rfl), (Nat.le_of_ble_eq_true rfl)⟩ ⟨(Nat.le_of_ble_eq_true rfl), (Nat.le_of_ble_eq_true rfl)⟩ (Nat.le_of_ble_eq_true rfl) ?_
  refine j_icmp_eq 1031 dL_law_506 (by decide) (fun b506 => ?_) (fun b506 => by exact absurd rfl b506)
  exact hn σ2 H2
theorem lc_paint (hL : L ≤ 3072) (hi : i + 6 ≤ L) (H : IV σ) (hn : ∀ σ2, IV σ2 → J G RL cL_law 4 ret (TL G b L xs) 184 σ2 184 6624 1031 [some (.ref (EXT + 400)), some (.ref 0), some (.ref 171), some (.int (nI i))] []) : J G RL cL_law 4 ret (TL G b L xs) 184 σ 184 6624 511 [some (.ref (EXT + 400)), some (.ref 0), some (.ref 171), some (.int (nI i))] [] := by
  obtain ⟨v, σ1, σ2, h5, h6, H2, fs, ho⟩ := IV_paint (G := G) (z := 184) H (xs (i + 1)) (xs (i + 2))
  obtain ⟨fs0, ho0⟩ := IV_0 H
  refine j_aload_n dL_law_511 rfl rfl ?_
  refine j_aload_n dL_law_512 rfl rfl ?_
  refine j_iload_n dL_law_513 rfl rfl ?_
  refine j_iconst (nI 1) dL_law_514 rfl ?_
  first | refine j_iaddN dL_law_515 ?_ | refine j_iadd dL_law_515 ?_
  refine j_sld dL_law_516 (by omega) hL ?_
  refine j_aload_n dL_law_517 rfl rfl ?_
  refine j_iload_n dL_law_518 rfl rfl ?_
  refine j_iconst (nI 2) dL_law_519 rfl ?_
  first | refine j_iaddN dL_law_520 ?_ | refine j_iadd dL_law_520 ?_
  refine j_sld dL_law_521 (by omega) hL ?_
  refine j_callV h5 dL_law_522 rfl mv_L_56 ho0 rfl ⟨(Nat.le_of_ble_eq_true rfl), (Nat.le_of_ble_eq_true rfl)⟩ ⟨(Nat.le_of_ble_eq_true rfl), (Nat.le_of_ble_eq_true rfl)⟩ (Nat.le_of_ble_eq_true rfl) ?_
  refine j_aload_n dL_law_525 rfl rfl ?_
  refine j_aload_n dL_law_526 rfl rfl ?_
  refine j_iload_n dL_law_527 rfl rfl ?_
  refine j_iconst (nI 1) dL_law_528 rfl ?_
  first | refine j_iaddN dL_law_529 ?_ | refine j_iadd dL_law_529 ?_
  refine j_sld dL_law_530 (by omega) hL ?_
  refine j_aload_n dL_law_531 rfl rfl ?_
  refine j_iload_n dL_law_532 rfl rfl ?_
  refine j_iconst (nI 2) dL_law_533 rfl ?_
  first | refine j_iaddN dL_law_534 ?_ | refine j_iadd dL_law_534 ?_
  refine j_sld dL_law_535 (by omega) hL ?_
  refine j_callV h6 dL_law_536 rfl mv_L_60 ho rfl ⟨(Nat.le_of_ble_eq_true rfl), (Nat.le_of_ble_eq_true rfl)⟩ ⟨(Nat.le_of_ble_eq_true rfl), (Nat.le_of_ble_eq_true rfl)⟩ (Nat.le_of_ble_eq_true rfl) ?_
  refine j_icmp_eq 1031 dL_law_539 (by decide) (fun b539 => ?_) (fun b539 => by exact absurd rfl b539)
  exact hn σ2 H2
theorem lc_hedge (hL : L ≤ 3072) (hi : i + 6 ≤ L) (H : IV σ) (hn : ∀ σ2, IV σ2 → J G RL cL_law 4 ret (TL G b L xs) 184 σ2 184 6624 1031 [some (.ref (EXT + 400)), some (.ref 0), some (.ref 171), some (.int (nI i))] []) : J G RL cL_law 4 ret (TL G b L xs) 184 σ 184 6624 544 [some (.ref (EXT + 400)), some (.ref 0), some (.ref 171), some (.int (nI i))] [] := by
  obtain ⟨v, σ1, σ2, h5, h6, H2, fs, ho⟩ := IV_hedge (G := G) (z := 184) H (xs (i + 1)) (xs (i + 2))
  obtain ⟨fs0, ho0⟩ := IV_0 H
  refine j_aload_n dL_law_544 rfl rfl ?_
  refine j_aload_n dL_law_545 rfl rfl ?_
  refine j_iload_n dL_law_546 rfl rfl ?_
  refine j_iconst (nI 1) dL_law_547 rfl ?_
  first | refine j_iaddN dL_law_548 ?_ | refine j_iadd dL_law_548 ?_
  refine j_sld dL_law_549 (by omega) hL ?_
  refine j_aload_n dL_law_550 rfl rfl ?_
  refine j_iload_n dL_law_551 rfl rfl ?_
  refine j_iconst (nI 2) dL_law_552 rfl ?_
  first | refine j_iaddN dL_law_553 ?_ | refine j_iadd dL_law_553 ?_
  refine j_sld dL_law_554 (by omega) hL ?_
  refine j_callV h5 dL_law_555 rfl mv_L_61 ho0 rfl ⟨(Nat.le_of_ble_eq_true rfl), (Nat.le_of_ble_eq_true rfl)⟩ ⟨(Nat.le_of_ble_eq_true rfl), (Nat.le_of_ble_eq_true rfl)⟩ (Nat.le_of_ble_eq_true rfl) ?_
  refine j_aload_n dL_law_558 rfl rfl ?_
  refine j_aload_n dL_law_559 rfl rfl ?_
  refine j_iload_n dL_law_560 rfl rfl ?_
  refine j_iconst (nI 1) dL_law_561 rfl ?_
  first | refine j_iaddN dL_law_562 ?_ | refine j_iadd dL_law_562 ?_
  refine j_sld dL_law_563 (by omega) hL ?_
  refine j_aload_n dL_law_564 rfl rfl ?_
  refine j_iload_n dL_law_565 rfl rfl ?_
  refine j_iconst (nI 2) dL_law_566 rfl ?_
  first | refine j_iaddN dL_law_567 ?_ | refine j_iadd dL_law_567 ?_
  refine j_sld dL_law_568 (by omega) hL ?_
  refine j_callV h6 dL_law_569 rfl mv_L_64 ho rfl ⟨(Nat.le_of_ble_eq_true rfl), (Nat.le_of_ble_eq_true rfl)⟩ ⟨(Nat.le_of_ble_eq_true rfl), (Nat.le_of_ble_eq_true rfl)⟩ (Nat.le_of_ble_eq_true rfl) ?_
  refine j_icmp_eq 1031 dL_law_572 (by decide) (fun b572 => ?_) (fun b572 => by exact absurd rfl b572)
  exact hn σ2 H2
theorem lc_quarter (hL : L ≤ 3072) (hi : i + 6 ≤ L) (H : IV σ) (hn : ∀ σ2, IV σ2 → J G RL cL_law 4 ret (TL G b L xs) 184 σ2 184 6624 1031 [some (.ref (EXT + 400)), some (.ref 0), some (.ref 171), some (.int (nI i))] []) : J G RL cL_law 4 ret (TL G b L xs) 184 σ 184 6624 577 [some (.ref (EXT + 400)), some (.ref 0), some (.ref 171), some (.int (nI i))] [] := by
  obtain ⟨v, σ1, σ2, h5, h6, H2, fs, ho⟩ := IV_quarter (G := G) (z := 184) H (xs (i + 1))
  obtain ⟨fs0, ho0⟩ := IV_0 H
  refine j_aload_n dL_law_577 rfl rfl ?_
  refine j_aload_n dL_law_578 rfl rfl ?_
  refine j_iload_n dL_law_579 rfl rfl ?_
  refine j_iconst (nI 1) dL_law_580 rfl ?_
  first | refine j_iaddN dL_law_581 ?_ | refine j_iadd dL_law_581 ?_
  refine j_sld dL_law_582 (by omega) hL ?_
  refine j_callV h5 dL_law_583 rfl mv_L_65 ho0 rfl ⟨(Nat.le_of_ble_eq_true rfl), (Nat.le_of_ble_eq_true rfl)⟩ ⟨(Nat.le_of_ble_eq_true rfl), (Nat.le_of_ble_eq_true rfl)⟩ (Nat.le_of_ble_eq_true rfl) ?_
  refine j_aload_n dL_law_586 rfl rfl ?_
  refine j_aload_n dL_law_587 rfl rfl ?_
  refine j_iload_n dL_law_588 rfl rfl ?_
  refine j_iconst (nI 1) dL_law_589 rfl ?_
  first | refine j_iaddN dL_law_590 ?_ | refine j_iadd dL_law_590 ?_
  refine j_sld dL_law_591 (by omega) hL ?_
  refine j_callV h6 dL_law_592 rfl mv_L_68 ho rfl ⟨(Nat.le_of_ble_eq_true rfl), (Nat.le_of_ble_eq_true rfl)⟩ ⟨(Nat.le_of_ble_eq_true rfl), (Nat.le_of_ble_eq_true rfl)⟩ (Nat.le_of_ble_eq_true rfl) ?_
  refine j_icmp_eq 1031 dL_law_595 (by decide) (fun b595 => ?_) (fun b595 => by exact absurd rfl b595)
  exact hn σ2 H2
end LC
