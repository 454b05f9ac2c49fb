theorem dW_394 : decode code 394 = .ok (.iaload, 1) := by decide +kernel
theorem dW_395 : decode code 395 = .ok (.invokevirtual 54, 3) := by decide +kernel
theorem dW_398 : decode code 398 = .ok (.if_icmp .eq 279, 3) := by decide +kernel
theorem dW_401 : decode code 401 = .ok (.iconst 0, 1) := by decide +kernel
theorem dW_402 : decode code 402 = .ok (.ireturn, 1) := by decide +kernel
theorem dW_403 : decode code 403 = .ok (.aload_n 1, 1) := by decide +kernel
theorem dW_404 : decode code 404 = .ok (.aload_n 0, 1) := by decide +kernel
theorem dW_405 : decode code 405 = .ok (.iload_n 3, 1) := by decide +kernel
theorem dW_406 : decode code 406 = .ok (.iconst 1, 1) := by decide +kernel
theorem dW_407 : decode code 407 = .ok (.iadd, 1) := by decide +kernel
theorem dW_408 : decode code 408 = .ok (.iaload, 1) := by decide +kernel
theorem dW_409 : decode code 409 = .ok (.aload_n 0, 1) := by decide +kernel
theorem dW_410 : decode code 410 = .ok (.iload_n 3, 1) := by decide +kernel
theorem dW_411 : decode code 411 = .ok (.iconst 2, 1) := by decide +kernel
theorem dW_412 : decode code 412 = .ok (.iadd, 1) := by decide +kernel
theorem dW_413 : decode code 413 = .ok (.iaload, 1) := by decide +kernel
theorem dW_414 : decode code 414 = .ok (.invokevirtual 55, 3) := by decide +kernel
theorem dW_417 : decode code 417 = .ok (.aload_n 2, 1) := by decide +kernel
theorem dW_418 : decode code 418 = .ok (.aload_n 0, 1) := by decide +kernel
theorem dW_419 : decode code 419 = .ok (.iload_n 3, 1) := by decide +kernel
theorem dW_420 : decode code 420 = .ok (.iconst 1, 1) := by decide +kernel
theorem dW_421 : decode code 421 = .ok (.iadd, 1) := by decide +kernel
theorem dW_422 : decode code 422 = .ok (.iaload, 1) := by decide +kernel
theorem dW_423 : decode code 423 = .ok (.aload_n 0, 1) := by decide +kernel
theorem dW_424 : decode code 424 = .ok (.iload_n 3, 1) := by decide +kernel
theorem dW_425 : decode code 425 = .ok (.iconst 2, 1) := by decide +kernel
theorem dW_426 : decode code 426 = .ok (.iadd, 1) := by decide +kernel
theorem dW_427 : decode code 427 = .ok (.iaload, 1) := by decide +kernel
theorem dW_428 : decode code 428 = .ok (.invokevirtual 58, 3) := by decide +kernel
theorem dW_431 : decode code 431 = .ok (.if_icmp .eq 246, 3) := by decide +kernel
theorem dW_434 : decode code 434 = .ok (.iconst 0, 1) := by decide +kernel
theorem dW_435 : decode code 435 = .ok (.ireturn, 1) := by decide +kernel
theorem dW_436 : decode code 436 = .ok (.aload_n 1, 1) := by decide +kernel
theorem dW_437 : decode code 437 = .ok (.aload_n 0, 1) := by decide +kernel
theorem dW_438 : decode code 438 = .ok (.iload_n 3, 1) := by decide +kernel
theorem dW_439 : decode code 439 = .ok (.iconst 1, 1) := by decide +kernel
theorem dW_440 : decode code 440 = .ok (.iadd, 1) := by decide +kernel
theorem dW_441 : decode code 441 = .ok (.iaload, 1) := by decide +kernel
theorem dW_442 : decode code 442 = .ok (.invokevirtual 59, 3) := by decide +kernel
theorem dW_445 : decode code 445 = .ok (.aload_n 2, 1) := by decide +kernel
theorem dW_446 : decode code 446 = .ok (.aload_n 0, 1) := by decide +kernel
theorem dW_447 : decode code 447 = .ok (.iload_n 3, 1) := by decide +kernel
theorem dW_448 : decode code 448 = .ok (.iconst 1, 1) := by decide +kernel
theorem dW_449 : decode code 449 = .ok (.iadd, 1) := by decide +kernel
theorem dW_450 : decode code 450 = .ok (.iaload, 1) := by decide +kernel
theorem dW_451 : decode code 451 = .ok (.invokevirtual 62, 3) := by decide +kernel
theorem dW_454 : decode code 454 = .ok (.if_icmp .eq 223, 3) := by decide +kernel
theorem dW_457 : decode code 457 = .ok (.iconst 0, 1) := by decide +kernel
theorem dW_458 : decode code 458 = .ok (.ireturn, 1) := by decide +kernel
theorem dW_459 : decode code 459 = .ok (.aload_n 1, 1) := by decide +kernel
theorem dW_460 : decode code 460 = .ok (.aload_n 0, 1) := by decide +kernel
theorem dW_461 : decode code 461 = .ok (.iload_n 3, 1) := by decide +kernel
theorem dW_462 : decode code 462 = .ok (.iconst 1, 1) := by decide +kernel
theorem dW_463 : decode code 463 = .ok (.iadd, 1) := by decide +kernel
theorem dW_464 : decode code 464 = .ok (.iaload, 1) := by decide +kernel
theorem dW_465 : decode code 465 = .ok (.aload_n 0, 1) := by decide +kernel
theorem dW_466 : decode code 466 = .ok (.iload_n 3, 1) := by decide +kernel
theorem dW_467 : decode code 467 = .ok (.iconst 2, 1) := by decide +kernel
theorem dW_468 : decode code 468 = .ok (.iadd, 1) := by decide +kernel
theorem dW_469 : decode code 469 = .ok (.iaload, 1) := by decide +kernel
theorem dW_470 : decode code 470 = .ok (.aload_n 0, 1) := by decide +kernel
theorem dW_471 : decode code 471 = .ok (.iload_n 3, 1) := by decide +kernel
theorem dW_472 : decode code 472 = .ok (.iconst 3, 1) := by decide +kernel
theorem dW_473 : decode code 473 = .ok (.iadd, 1) := by decide +kernel
theorem dW_474 : decode code 474 = .ok (.iaload, 1) := by decide +kernel
theorem dW_475 : decode code 475 = .ok (.invokevirtual 63, 3) := by decide +kernel
theorem dW_478 : decode code 478 = .ok (.aload_n 2, 1) := by decide +kernel
theorem dW_479 : decode code 479 = .ok (.aload_n 0, 1) := by decide +kernel
theorem dW_480 : decode code 480 = .ok (.iload_n 3, 1) := by decide +kernel
theorem dW_481 : decode code 481 = .ok (.iconst 1, 1) := by decide +kernel
theorem dW_482 : decode code 482 = .ok (.iadd, 1) := by decide +kernel
theorem dW_483 : decode code 483 = .ok (.iaload, 1) := by decide +kernel
theorem dW_484 : decode code 484 = .ok (.aload_n 0, 1) := by decide +kernel
theorem dW_485 : decode code 485 = .ok (.iload_n 3, 1) := by decide +kernel
theorem dW_486 : decode code 486 = .ok (.iconst 2, 1) := by decide +kernel
theorem dW_487 : decode code 487 = .ok (.iadd, 1) := by decide +kernel
theorem dW_488 : decode code 488 = .ok (.iaload, 1) := by decide +kernel
theorem dW_489 : decode code 489 = .ok (.aload_n 0, 1) := by decide +kernel
theorem dW_490 : decode code 490 = .ok (.iload_n 3, 1) := by decide +kernel
theorem dW_491 : decode code 491 = .ok (.iconst 3, 1) := by decide +kernel
theorem dW_492 : decode code 492 = .ok (.iadd, 1) := by decide +kernel
theorem dW_493 : decode code 493 = .ok (.iaload, 1) := by decide +kernel
theorem dW_494 : decode code 494 = .ok (.invokevirtual 66, 3) := by decide +kernel
theorem dW_497 : decode code 497 = .ok (.if_icmp .eq 180, 3) := by decide +kernel
theorem dW_500 : decode code 500 = .ok (.iconst 0, 1) := by decide +kernel
theorem dW_501 : decode code 501 = .ok (.ireturn, 1) := by decide +kernel
theorem dW_502 : decode code 502 = .ok (.aload_n 1, 1) := by decide +kernel
theorem dW_503 : decode code 503 = .ok (.aload_n 0, 1) := by decide +kernel
theorem dW_504 : decode code 504 = .ok (.iload_n 3, 1) := by decide +kernel
theorem dW_505 : decode code 505 = .ok (.iconst 1, 1) := by decide +kernel
theorem dW_506 : decode code 506 = .ok (.iadd, 1) := by decide +kernel
theorem dW_507 : decode code 507 = .ok (.iaload, 1) := by decide +kernel
theorem dW_508 : decode code 508 = .ok (.aload_n 0, 1) := by decide +kernel
theorem dW_509 : decode code 509 = .ok (.iload_n 3, 1) := by decide +kernel
theorem dW_510 : decode code 510 = .ok (.iconst 2, 1) := by decide +kernel
theorem dW_511 : decode code 511 = .ok (.iadd, 1) := by decide +kernel
theorem dW_512 : decode code 512 = .ok (.iaload, 1) := by decide +kernel
theorem dW_513 : decode code 513 = .ok (.invokevirtual 67, 3) := by decide +kernel
theorem dW_516 : decode code 516 = .ok (.aload_n 2, 1) := by decide +kernel
theorem dW_517 : decode code 517 = .ok (.aload_n 0, 1) := by decide +kernel
theorem dW_518 : decode code 518 = .ok (.iload_n 3, 1) := by decide +kernel
theorem dW_519 : decode code 519 = .ok (.iconst 1, 1) := by decide +kernel
theorem dW_520 : decode code 520 = .ok (.iadd, 1) := by decide +kernel
theorem dW_521 : decode code 521 = .ok (.iaload, 1) := by decide +kernel
theorem dW_522 : decode code 522 = .ok (.aload_n 0, 1) := by decide +kernel
theorem dW_523 : decode code 523 = .ok (.iload_n 3, 1) := by decide +kernel
theorem dW_524 : decode code 524 = .ok (.iconst 2, 1) := by decide +kernel
theorem dW_525 : decode code 525 = .ok (.iadd, 1) := by decide +kernel
theorem dW_526 : decode code 526 = .ok (.iaload, 1) := by decide +kernel
theorem dW_527 : decode code 527 = .ok (.invokevirtual 70, 3) := by decide +kernel
theorem dW_530 : decode code 530 = .ok (.if_icmp .eq 147, 3) := by decide +kernel
theorem dW_533 : decode code 533 = .ok (.iconst 0, 1) := by decide +kernel
theorem dW_534 : decode code 534 = .ok (.ireturn, 1) := by decide +kernel
theorem dW_535 : decode code 535 = .ok (.aload_n 1, 1) := by decide +kernel
theorem dW_536 : decode code 536 = .ok (.aload_n 0, 1) := by decide +kernel
theorem dW_537 : decode code 537 = .ok (.iload_n 3, 1) := by decide +kernel
theorem dW_538 : decode code 538 = .ok (.iconst 1, 1) := by decide +kernel
theorem dW_539 : decode code 539 = .ok (.iadd, 1) := by decide +kernel
theorem dW_540 : decode code 540 = .ok (.iaload, 1) := by decide +kernel
theorem dW_541 : decode code 541 = .ok (.aload_n 0, 1) := by decide +kernel
theorem dW_542 : decode code 542 = .ok (.iload_n 3, 1) := by decide +kernel
theorem dW_543 : decode code 543 = .ok (.iconst 2, 1) := by decide +kernel
theorem dW_544 : decode code 544 = .ok (.iadd, 1) := by decide +kernel
theorem dW_545 : decode code 545 = .ok (.iaload, 1) := by decide +kernel
theorem dW_546 : decode code 546 = .ok (.aload_n 0, 1) := by decide +kernel
theorem dW_547 : decode code 547 = .ok (.iload_n 3, 1) := by decide +kernel
theorem dW_548 : decode code 548 = .ok (.iconst 3, 1) := by decide +kernel
theorem dW_549 : decode code 549 = .ok (.iadd, 1) := by decide +kernel
theorem dW_550 : decode code 550 = .ok (.iaload, 1) := by decide +kernel
theorem dW_551 : decode code 551 = .ok (.invokevirtual 71, 3) := by decide +kernel
theorem dW_554 : decode code 554 = .ok (.aload_n 2, 1) := by decide +kernel
theorem dW_555 : decode code 555 = .ok (.aload_n 0, 1) := by decide +kernel
theorem dW_556 : decode code 556 = .ok (.iload_n 3, 1) := by decide +kernel
theorem dW_557 : decode code 557 = .ok (.iconst 1, 1) := by decide +kernel
theorem dW_558 : decode code 558 = .ok (.iadd, 1) := by decide +kernel
theorem dW_559 : decode code 559 = .ok (.iaload, 1) := by decide +kernel
theorem dW_560 : decode code 560 = .ok (.aload_n 0, 1) := by decide +kernel
theorem dW_561 : decode code 561 = .ok (.iload_n 3, 1) := by decide +kernel
theorem dW_562 : decode code 562 = .ok (.iconst 2, 1) := by decide +kernel
theorem dW_563 : decode code 563 = .ok (.iadd, 1) := by decide +kernel
theorem dW_564 : decode code 564 = .ok (.iaload, 1) := by decide +kernel
theorem dW_565 : decode code 565 = .ok (.aload_n 0, 1) := by decide +kernel
theorem dW_566 : decode code 566 = .ok (.iload_n 3, 1) := by decide +kernel
theorem dW_567 : decode code 567 = .ok (.iconst 3, 1) := by decide +kernel
theorem dW_568 : decode code 568 = .ok (.iadd, 1) := by decide +kernel
theorem dW_569 : decode code 569 = .ok (.iaload, 1) := by decide +kernel
theorem dW_570 : decode code 570 = .ok (.invokevirtual 74, 3) := by decide +kernel
theorem dW_573 : decode code 573 = .ok (.if_icmp .eq 104, 3) := by decide +kernel
theorem dW_576 : decode code 576 = .ok (.iconst 0, 1) := by decide +kernel
theorem dW_577 : decode code 577 = .ok (.ireturn, 1) := by decide +kernel
theorem dW_578 : decode code 578 = .ok (.aload_n 1, 1) := by decide +kernel
theorem dW_579 : decode code 579 = .ok (.aload_n 0, 1) := by decide +kernel
theorem dW_580 : decode code 580 = .ok (.iload_n 3, 1) := by decide +kernel
theorem dW_581 : decode code 581 = .ok (.iconst 1, 1) := by decide +kernel
theorem dW_582 : decode code 582 = .ok (.iadd, 1) := by decide +kernel
theorem dW_583 : decode code 583 = .ok (.iaload, 1) := by decide +kernel
theorem dW_584 : decode code 584 = .ok (.invokevirtual 75, 3) := by decide +kernel
theorem dW_587 : decode code 587 = .ok (.aload_n 2, 1) := by decide +kernel
theorem dW_588 : decode code 588 = .ok (.aload_n 0, 1) := by decide +kernel
theorem dW_589 : decode code 589 = .ok (.iload_n 3, 1) := by decide +kernel
theorem dW_590 : decode code 590 = .ok (.iconst 1, 1) := by decide +kernel
theorem dW_591 : decode code 591 = .ok (.iadd, 1) := by decide +kernel
theorem dW_592 : decode code 592 = .ok (.iaload, 1) := by decide +kernel
theorem dW_593 : decode code 593 = .ok (.invokevirtual 78, 3) := by decide +kernel
theorem dW_596 : decode code 596 = .ok (.if_icmp .eq 81, 3) := by decide +kernel
theorem dW_599 : decode code 599 = .ok (.iconst 0, 1) := by decide +kernel
theorem dW_600 : decode code 600 = .ok (.ireturn, 1) := by decide +kernel
theorem dW_601 : decode code 601 = .ok (.aload_n 1, 1) := by decide +kernel
theorem dW_602 : decode code 602 = .ok (.aload_n 0, 1) := by decide +kernel
theorem dW_603 : decode code 603 = .ok (.iload_n 3, 1) := by decide +kernel
theorem dW_604 : decode code 604 = .ok (.iconst 1, 1) := by decide +kernel
theorem dW_605 : decode code 605 = .ok (.iadd, 1) := by decide +kernel
theorem dW_606 : decode code 606 = .ok (.iaload, 1) := by decide +kernel
theorem dW_607 : decode code 607 = .ok (.aload_n 0, 1) := by decide +kernel
theorem dW_608 : decode code 608 = .ok (.iload_n 3, 1) := by decide +kernel
theorem dW_609 : decode code 609 = .ok (.iconst 2, 1) := by decide +kernel
theorem dW_610 : decode code 610 = .ok (.iadd, 1) := by decide +kernel
theorem dW_611 : decode code 611 = .ok (.iaload, 1) := by decide +kernel
theorem dW_612 : decode code 612 = .ok (.aload_n 0, 1) := by decide +kernel
theorem dW_613 : decode code 613 = .ok (.iload_n 3, 1) := by decide +kernel
theorem dW_614 : decode code 614 = .ok (.iconst 3, 1) := by decide +kernel
theorem dW_615 : decode code 615 = .ok (.iadd, 1) := by decide +kernel
theorem dW_616 : decode code 616 = .ok (.iaload, 1) := by decide +kernel
theorem dW_617 : decode code 617 = .ok (.aload_n 0, 1) := by decide +kernel
theorem dW_618 : decode code 618 = .ok (.iload_n 3, 1) := by decide +kernel
theorem dW_619 : decode code 619 = .ok (.iconst 4, 1) := by decide +kernel
theorem dW_620 : decode code 620 = .ok (.iadd, 1) := by decide +kernel
theorem dW_621 : decode code 621 = .ok (.iaload, 1) := by decide +kernel
theorem dW_622 : decode code 622 = .ok (.invokevirtual 79, 3) := by decide +kernel
theorem dW_625 : decode code 625 = .ok (.aload_n 2, 1) := by decide +kernel
theorem dW_626 : decode code 626 = .ok (.aload_n 0, 1) := by decide +kernel
theorem dW_627 : decode code 627 = .ok (.iload_n 3, 1) := by decide +kernel
theorem dW_628 : decode code 628 = .ok (.iconst 1, 1) := by decide +kernel
theorem dW_629 : decode code 629 = .ok (.iadd, 1) := by decide +kernel
theorem dW_630 : decode code 630 = .ok (.iaload, 1) := by decide +kernel
theorem dW_631 : decode code 631 = .ok (.aload_n 0, 1) := by decide +kernel
theorem dW_632 : decode code 632 = .ok (.iload_n 3, 1) := by decide +kernel
theorem dW_633 : decode code 633 = .ok (.iconst 2, 1) := by decide +kernel
theorem dW_634 : decode code 634 = .ok (.iadd, 1) := by decide +kernel
theorem dW_635 : decode code 635 = .ok (.iaload, 1) := by decide +kernel
theorem dW_636 : decode code 636 = .ok (.aload_n 0, 1) := by decide +kernel
theorem dW_637 : decode code 637 = .ok (.iload_n 3, 1) := by decide +kernel
theorem dW_638 : decode code 638 = .ok (.iconst 3, 1) := by decide +kernel
theorem dW_639 : decode code 639 = .ok (.iadd, 1) := by decide +kernel
theorem dW_640 : decode code 640 = .ok (.iaload, 1) := by decide +kernel
theorem dW_641 : decode code 641 = .ok (.aload_n 0, 1) := by decide +kernel
theorem dW_642 : decode code 642 = .ok (.iload_n 3, 1) := by decide +kernel
theorem dW_643 : decode code 643 = .ok (.iconst 4, 1) := by decide +kernel
theorem dW_644 : decode code 644 = .ok (.iadd, 1) := by decide +kernel
theorem dW_645 : decode code 645 = .ok (.iaload, 1) := by decide +kernel
theorem dW_646 : decode code 646 = .ok (.invokevirtual 83, 3) := by decide +kernel
theorem dW_649 : decode code 649 = .ok (.if_icmp .eq 28, 3) := by decide +kernel
theorem dW_652 : decode code 652 = .ok (.iconst 0, 1) := by decide +kernel
theorem dW_653 : decode code 653 = .ok (.ireturn, 1) := by decide +kernel
theorem dW_654 : decode code 654 = .ok (.aload_n 1, 1) := by decide +kernel
theorem dW_655 : decode code 655 = .ok (.aload_n 0, 1) := by decide +kernel
theorem dW_656 : decode code 656 = .ok (.iload_n 3, 1) := by decide +kernel
theorem dW_657 : decode code 657 = .ok (.iconst 1, 1) := by decide +kernel
theorem dW_658 : decode code 658 = .ok (.iadd, 1) := by decide +kernel
theorem dW_659 : decode code 659 = .ok (.iaload, 1) := by decide +kernel
theorem dW_660 : decode code 660 = .ok (.invokevirtual 84, 3) := by decide +kernel
theorem dW_663 : decode code 663 = .ok (.aload_n 2, 1) := by decide +kernel
theorem dW_664 : decode code 664 = .ok (.aload_n 0, 1) := by decide +kernel
theorem dW_665 : decode code 665 = .ok (.iload_n 3, 1) := by decide +kernel
theorem dW_666 : decode code 666 = .ok (.iconst 1, 1) := by decide +kernel
theorem dW_667 : decode code 667 = .ok (.iadd, 1) := by decide +kernel
theorem dW_668 : decode code 668 = .ok (.iaload, 1) := by decide +kernel
theorem dW_669 : decode code 669 = .ok (.invokevirtual 87, 3) := by decide +kernel
theorem dW_672 : decode code 672 = .ok (.if_icmp .eq 5, 3) := by decide +kernel
theorem dW_675 : decode code 675 = .ok (.iconst 0, 1) := by decide +kernel
theorem dW_676 : decode code 676 = .ok (.ireturn, 1) := by decide +kernel
theorem dW_677 : decode code 677 = .ok (.iinc 3 5, 3) := by decide +kernel
theorem dW_680 : decode code 680 = .ok (.goto (-662), 3) := by decide +kernel
theorem dW_683 : decode code 683 = .ok (.iconst 1, 1) := by decide +kernel
theorem dW_684 : decode code 684 = .ok (.ireturn, 1) := by decide +kernel

/-! THE CLAIM OUT OF ONE WALK OF THE LAW'S BODY. Your part is whole_start (and what it stands on); all else here is the same for every law, but numbers. -/
def R_law : String := "TendonLossesLaw"
def lw_P (b : Addr) (xs : List Int32) (args : Array Value) (s : State) : Prop := args = #[.ref b] ∧ s.IntsAt b xs ∧ xs.length ≤ 2560 ∧ (Jvm.Cond.and given_1 narrow_1).before args s = true
def lw_Q (_ : Array Value) (s : State) (o : Outcome) (t : State) : Prop := o = .returned (some (.int 1)) ∧ Framed s o t [] 600000 7302250
def lw_Z (below : List Frame) (a : Array Value) (s : State) : State → Prop := fun t => ∃ o, t.status = .running ∧ Ended t below o ∧ lw_Q a s o t
/-- the law's own end, with 1 on the stack, nothing written that was there before, its room as the claim has it -/
theorem lw_ret {p : Program} {l : Launch} {e : Env} {s : State} {m : MethodId} {below : List Frame} {meth : Method} {c : Code} {b : Nat} (hx : p.tables.exec = Jvm.exec) (hb : c.code = code) (hr : meth.sig.returnType = ret) (hlocks : meth.locks = false) {pc : Nat} {H : Heap} {ls : Array Slot} (hdg : decode code pc = .ok (.ireturn, 1)) : W p l e room_1 s m #[Value.ref b] below meth c H [] 600000 7302250 (lw_Z below #[Value.ref b] s) (F0 m pc ls [.int 1]) := by
  intro T hT X
  obtain ⟨fs, hret, hrun, hended, hW, hframe⟩ := X.leave (v := some (.int 1)) (hlocks := hlocks) (fun h => by rw [hr] at h; cases h)
  have hmeth' : T.vm.method? m = some meth := X.method'
  refine ⟨T.setFrames fs, ?_, .returned (some (.int 1)), hrun, hended, rfl, ⟨_, rfl⟩, hW, hframe⟩
  jvm_step X.here [X.here.top, hx, hb, hdg, hmeth', hr, ret, narrow_b1]
  (try refine ⟨rfl, ?_⟩); (try refine ⟨rfl, ?_⟩)
  first | (intro acts; rw [hret _ acts rfl rfl rfl]) | rw [hret _ _ rfl rfl rfl]
  exact Steps.refl _
/-- what holds at the law's entry: the machine, the code, the tables' words (any of lw_tbl by 'hts w (by decide +kernel)'), the script of L ints xs at the cell b, what the Statement gives of the start (any of its parts by flat_of_before) -/
def lw_At (p : Program) (s : State) (m : MethodId) (meth : Method) (c : Code) (b L : Nat) (xs : Nat → Int32) : Prop :=
  p.tables.exec = Jvm.exec ∧ c.code = code ∧ meth.sig.returnType = ret ∧ c.maxLocals = 4 ∧ s.vm.findClass R_law = some m.cls ∧ (∀ w ∈ lw_tbl, w.before #[Value.ref b] s = true) ∧ va_X b L xs s s.heap ∧ b < s.heap.size ∧ meth.locks = false ∧ (Jvm.Cond.and given_1 narrow_1).before #[Value.ref b] s = true
